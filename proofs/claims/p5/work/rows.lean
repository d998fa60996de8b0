section
-- ===== PART A: goes FIRST, ahead of the names: the tables' words, and 'selects' of the private methods out of them =====
/-- a private method of a class that the tables say can be made, by its rows of tables_1 -/
def lw_okq (q : MethodName × Nat) : Prop := (q.1.cls ≠ "java/lang/invoke/MethodHandle" ∧ q.1.cls ≠ "java/lang/invoke/VarHandle") ∧ Cond.instantiable q.1.cls q.2 ∈ tables_1 ∧ Cond.privateMethod q.1 ∈ tables_1 ∧ Cond.instanceMethod q.1 ∈ tables_1
theorem lw_p0 : lw_okq (⟨"TicketHouse", "findSession", "(I)LTicketHouse$Session;"⟩, 12) := ⟨⟨by decide +kernel, by decide +kernel⟩, List.mem_of_getElem? (i := 17) (by decide +kernel), List.mem_of_getElem? (i := 127) (by decide +kernel), List.mem_of_getElem? (i := 128) (by decide +kernel)⟩
theorem lw_p1 : lw_okq (⟨"TicketHouse", "findTicket", "(I)LTicketHouse$Ticket;"⟩, 12) := ⟨⟨by decide +kernel, by decide +kernel⟩, List.mem_of_getElem? (i := 17) (by decide +kernel), List.mem_of_getElem? (i := 138) (by decide +kernel), List.mem_of_getElem? (i := 139) (by decide +kernel)⟩
theorem lw_p2 : lw_okq (⟨"TicketHouse", "wrongTries", "(I)I"⟩, 12) := ⟨⟨by decide +kernel, by decide +kernel⟩, List.mem_of_getElem? (i := 17) (by decide +kernel), List.mem_of_getElem? (i := 154) (by decide +kernel), List.mem_of_getElem? (i := 155) (by decide +kernel)⟩
theorem lw_p3 : lw_okq (⟨"TicketHouse", "findUser", "(I)LTicketHouse$User;"⟩, 12) := ⟨⟨by decide +kernel, by decide +kernel⟩, List.mem_of_getElem? (i := 17) (by decide +kernel), List.mem_of_getElem? (i := 158) (by decide +kernel), List.mem_of_getElem? (i := 159) (by decide +kernel)⟩
theorem lw_p4 : lw_okq (⟨"java/lang/Throwable", "fillInStackTrace", "(I)Ljava/lang/Throwable;"⟩, 6) := ⟨⟨by decide +kernel, by decide +kernel⟩, List.mem_of_getElem? (i := 208) (by decide +kernel), List.mem_of_getElem? (i := 206) (by decide +kernel), List.mem_of_getElem? (i := 207) (by decide +kernel)⟩
theorem lw_p5 : lw_okq (⟨"TicketHouse", "openSession", "(LTicketHouse$User;Z)LTicketHouse$Session;"⟩, 12) := ⟨⟨by decide +kernel, by decide +kernel⟩, List.mem_of_getElem? (i := 17) (by decide +kernel), List.mem_of_getElem? (i := 319) (by decide +kernel), List.mem_of_getElem? (i := 320) (by decide +kernel)⟩
theorem lw_p6 : lw_okq (⟨"TicketHouse", "isEnabled", "(I)Z"⟩, 12) := ⟨⟨by decide +kernel, by decide +kernel⟩, List.mem_of_getElem? (i := 17) (by decide +kernel), List.mem_of_getElem? (i := 361) (by decide +kernel), List.mem_of_getElem? (i := 362) (by decide +kernel)⟩
theorem lw_p7 : lw_okq (⟨"TicketHouse", "hasFlag", "(II)Z"⟩, 12) := ⟨⟨by decide +kernel, by decide +kernel⟩, List.mem_of_getElem? (i := 17) (by decide +kernel), List.mem_of_getElem? (i := 365) (by decide +kernel), List.mem_of_getElem? (i := 366) (by decide +kernel)⟩
theorem lw_p8 : lw_okq (⟨"TicketHouse", "giveTicket", "(ILTicketHouse$Session;ILTicketHouse$Ticket;)LTicketHouse$Ticket;"⟩, 12) := ⟨⟨by decide +kernel, by decide +kernel⟩, List.mem_of_getElem? (i := 17) (by decide +kernel), List.mem_of_getElem? (i := 371) (by decide +kernel), List.mem_of_getElem? (i := 372) (by decide +kernel)⟩
theorem lw_p9 : lw_okq (⟨"TicketHouse", "refuse", "(II)I"⟩, 12) := ⟨⟨by decide +kernel, by decide +kernel⟩, List.mem_of_getElem? (i := 17) (by decide +kernel), List.mem_of_getElem? (i := 443) (by decide +kernel), List.mem_of_getElem? (i := 444) (by decide +kernel)⟩
theorem lw_p10 : lw_okq (⟨"TicketHouse$Text", "turnRound", "(I)V"⟩, 2) := ⟨⟨by decide +kernel, by decide +kernel⟩, List.mem_of_getElem? (i := 31) (by decide +kernel), List.mem_of_getElem? (i := 504) (by decide +kernel), List.mem_of_getElem? (i := 505) (by decide +kernel)⟩
theorem lw_p11 : lw_okq (⟨"TicketHouse", "grantFor", "(LTicketHouse$Ticket;I)LTicketHouse$Ticket;"⟩, 12) := ⟨⟨by decide +kernel, by decide +kernel⟩, List.mem_of_getElem? (i := 17) (by decide +kernel), List.mem_of_getElem? (i := 515) (by decide +kernel), List.mem_of_getElem? (i := 516) (by decide +kernel)⟩
theorem lw_p12 : lw_okq (⟨"TicketHouse", "writeAcceptance", "(LTicketHouse$Ticket;ZLTicketHouse$Ticket;)V"⟩, 12) := ⟨⟨by decide +kernel, by decide +kernel⟩, List.mem_of_getElem? (i := 17) (by decide +kernel), List.mem_of_getElem? (i := 519) (by decide +kernel), List.mem_of_getElem? (i := 520) (by decide +kernel)⟩
theorem lw_p13 : lw_okq (⟨"TicketHouse$Text", "addEscaped", "(C)V"⟩, 2) := ⟨⟨by decide +kernel, by decide +kernel⟩, List.mem_of_getElem? (i := 31) (by decide +kernel), List.mem_of_getElem? (i := 528) (by decide +kernel), List.mem_of_getElem? (i := 529) (by decide +kernel)⟩
theorem lw_p14 : lw_okq (⟨"TicketHouse", "writeAttributes", "(LTicketHouse$User;I)V"⟩, 12) := ⟨⟨by decide +kernel, by decide +kernel⟩, List.mem_of_getElem? (i := 17) (by decide +kernel), List.mem_of_getElem? (i := 537) (by decide +kernel), List.mem_of_getElem? (i := 538) (by decide +kernel)⟩
theorem lw_p15 : lw_okq (⟨"TicketHouse", "writeChain", "(LTicketHouse$Ticket;)V"⟩, 12) := ⟨⟨by decide +kernel, by decide +kernel⟩, List.mem_of_getElem? (i := 17) (by decide +kernel), List.mem_of_getElem? (i := 549) (by decide +kernel), List.mem_of_getElem? (i := 550) (by decide +kernel)⟩
def lw_privs_1 : List (MethodName × Nat) := [(⟨"TicketHouse", "findSession", "(I)LTicketHouse$Session;"⟩, 12), (⟨"TicketHouse", "findTicket", "(I)LTicketHouse$Ticket;"⟩, 12), (⟨"TicketHouse", "wrongTries", "(I)I"⟩, 12), (⟨"TicketHouse", "findUser", "(I)LTicketHouse$User;"⟩, 12), (⟨"java/lang/Throwable", "fillInStackTrace", "(I)Ljava/lang/Throwable;"⟩, 6), (⟨"TicketHouse", "openSession", "(LTicketHouse$User;Z)LTicketHouse$Session;"⟩, 12), (⟨"TicketHouse", "isEnabled", "(I)Z"⟩, 12), (⟨"TicketHouse", "hasFlag", "(II)Z"⟩, 12), (⟨"TicketHouse", "giveTicket", "(ILTicketHouse$Session;ILTicketHouse$Ticket;)LTicketHouse$Ticket;"⟩, 12), (⟨"TicketHouse", "refuse", "(II)I"⟩, 12), (⟨"TicketHouse$Text", "turnRound", "(I)V"⟩, 2), (⟨"TicketHouse", "grantFor", "(LTicketHouse$Ticket;I)LTicketHouse$Ticket;"⟩, 12), (⟨"TicketHouse", "writeAcceptance", "(LTicketHouse$Ticket;ZLTicketHouse$Ticket;)V"⟩, 12), (⟨"TicketHouse$Text", "addEscaped", "(C)V"⟩, 2), (⟨"TicketHouse", "writeAttributes", "(LTicketHouse$User;I)V"⟩, 12), (⟨"TicketHouse", "writeChain", "(LTicketHouse$Ticket;)V"⟩, 12)]
theorem lw_r1 : ∀ q ∈ lw_privs_1, lw_okq q := List.forall_mem_cons.mpr ⟨lw_p0, List.forall_mem_cons.mpr ⟨lw_p1, List.forall_mem_cons.mpr ⟨lw_p2, List.forall_mem_cons.mpr ⟨lw_p3, List.forall_mem_cons.mpr ⟨lw_p4, List.forall_mem_cons.mpr ⟨lw_p5, List.forall_mem_cons.mpr ⟨lw_p6, List.forall_mem_cons.mpr ⟨lw_p7, List.forall_mem_cons.mpr ⟨lw_p8, List.forall_mem_cons.mpr ⟨lw_p9, List.forall_mem_cons.mpr ⟨lw_p10, List.forall_mem_cons.mpr ⟨lw_p11, List.forall_mem_cons.mpr ⟨lw_p12, List.forall_mem_cons.mpr ⟨lw_p13, List.forall_mem_cons.mpr ⟨lw_p14, List.forall_mem_cons.mpr ⟨lw_p15, fun _ h => absurd h List.not_mem_nil⟩⟩⟩⟩⟩⟩⟩⟩⟩⟩⟩⟩⟩⟩⟩⟩
theorem lw_p16 : lw_okq (⟨"TicketHouse", "end", "(LTicketHouse$Session;)I"⟩, 12) := ⟨⟨by decide +kernel, by decide +kernel⟩, List.mem_of_getElem? (i := 17) (by decide +kernel), List.mem_of_getElem? (i := 563) (by decide +kernel), List.mem_of_getElem? (i := 564) (by decide +kernel)⟩
theorem lw_p17 : lw_okq (⟨"TicketHouse", "tellOfEnd", "(LTicketHouse$Ticket;)V"⟩, 12) := ⟨⟨by decide +kernel, by decide +kernel⟩, List.mem_of_getElem? (i := 17) (by decide +kernel), List.mem_of_getElem? (i := 567) (by decide +kernel), List.mem_of_getElem? (i := 568) (by decide +kernel)⟩
theorem lw_p18 : lw_okq (⟨"TicketHouseModel", "tries", "(IIZ)I"⟩, 31) := ⟨⟨by decide +kernel, by decide +kernel⟩, List.mem_of_getElem? (i := 587) (by decide +kernel), List.mem_of_getElem? (i := 718) (by decide +kernel), List.mem_of_getElem? (i := 719) (by decide +kernel)⟩
theorem lw_p19 : lw_okq (⟨"TicketHouseModel", "counting", "(I)I"⟩, 31) := ⟨⟨by decide +kernel, by decide +kernel⟩, List.mem_of_getElem? (i := 587) (by decide +kernel), List.mem_of_getElem? (i := 722) (by decide +kernel), List.mem_of_getElem? (i := 723) (by decide +kernel)⟩
theorem lw_p20 : lw_okq (⟨"TicketHouseModel", "enabled", "(I)Z"⟩, 31) := ⟨⟨by decide +kernel, by decide +kernel⟩, List.mem_of_getElem? (i := 587) (by decide +kernel), List.mem_of_getElem? (i := 730) (by decide +kernel), List.mem_of_getElem? (i := 731) (by decide +kernel)⟩
theorem lw_p21 : lw_okq (⟨"TicketHouseModel", "give", "(IIIZI)I"⟩, 31) := ⟨⟨by decide +kernel, by decide +kernel⟩, List.mem_of_getElem? (i := 587) (by decide +kernel), List.mem_of_getElem? (i := 734) (by decide +kernel), List.mem_of_getElem? (i := 735) (by decide +kernel)⟩
theorem lw_p22 : lw_okq (⟨"TicketHouseModel", "good", "(I)Z"⟩, 31) := ⟨⟨by decide +kernel, by decide +kernel⟩, List.mem_of_getElem? (i := 587) (by decide +kernel), List.mem_of_getElem? (i := 746) (by decide +kernel), List.mem_of_getElem? (i := 747) (by decide +kernel)⟩
theorem lw_p23 : lw_okq (⟨"TicketHouseModel", "judged", "(III)I"⟩, 31) := ⟨⟨by decide +kernel, by decide +kernel⟩, List.mem_of_getElem? (i := 587) (by decide +kernel), List.mem_of_getElem? (i := 754) (by decide +kernel), List.mem_of_getElem? (i := 755) (by decide +kernel)⟩
theorem lw_p24 : lw_okq (⟨"TicketHouseModel", "no", "(II)V"⟩, 31) := ⟨⟨by decide +kernel, by decide +kernel⟩, List.mem_of_getElem? (i := 587) (by decide +kernel), List.mem_of_getElem? (i := 758) (by decide +kernel), List.mem_of_getElem? (i := 759) (by decide +kernel)⟩
theorem lw_p25 : lw_okq (⟨"TicketHouseModel", "put", "(I)V"⟩, 31) := ⟨⟨by decide +kernel, by decide +kernel⟩, List.mem_of_getElem? (i := 587) (by decide +kernel), List.mem_of_getElem? (i := 762) (by decide +kernel), List.mem_of_getElem? (i := 763) (by decide +kernel)⟩
theorem lw_p26 : lw_okq (⟨"TicketHouseModel", "number", "(I)V"⟩, 31) := ⟨⟨by decide +kernel, by decide +kernel⟩, List.mem_of_getElem? (i := 587) (by decide +kernel), List.mem_of_getElem? (i := 766) (by decide +kernel), List.mem_of_getElem? (i := 767) (by decide +kernel)⟩
theorem lw_p27 : lw_okq (⟨"TicketHouseModel", "tag", "(IIZ)V"⟩, 31) := ⟨⟨by decide +kernel, by decide +kernel⟩, List.mem_of_getElem? (i := 587) (by decide +kernel), List.mem_of_getElem? (i := 771) (by decide +kernel), List.mem_of_getElem? (i := 772) (by decide +kernel)⟩
theorem lw_p28 : lw_okq (⟨"TicketHouseModel", "ok", "(IIZI)V"⟩, 31) := ⟨⟨by decide +kernel, by decide +kernel⟩, List.mem_of_getElem? (i := 587) (by decide +kernel), List.mem_of_getElem? (i := 775) (by decide +kernel), List.mem_of_getElem? (i := 776) (by decide +kernel)⟩
theorem lw_p29 : lw_okq (⟨"TicketHouseModel", "letters", "(I)V"⟩, 31) := ⟨⟨by decide +kernel, by decide +kernel⟩, List.mem_of_getElem? (i := 587) (by decide +kernel), List.mem_of_getElem? (i := 779) (by decide +kernel), List.mem_of_getElem? (i := 780) (by decide +kernel)⟩
theorem lw_p30 : lw_okq (⟨"TicketHouseModel", "entity", "(IIII)V"⟩, 31) := ⟨⟨by decide +kernel, by decide +kernel⟩, List.mem_of_getElem? (i := 587) (by decide +kernel), List.mem_of_getElem? (i := 783) (by decide +kernel), List.mem_of_getElem? (i := 784) (by decide +kernel)⟩
theorem lw_p31 : lw_okq (⟨"TicketHouseModel", "element", "(II)V"⟩, 31) := ⟨⟨by decide +kernel, by decide +kernel⟩, List.mem_of_getElem? (i := 587) (by decide +kernel), List.mem_of_getElem? (i := 787) (by decide +kernel), List.mem_of_getElem? (i := 788) (by decide +kernel)⟩
def lw_privs_2 : List (MethodName × Nat) := [(⟨"TicketHouse", "end", "(LTicketHouse$Session;)I"⟩, 12), (⟨"TicketHouse", "tellOfEnd", "(LTicketHouse$Ticket;)V"⟩, 12), (⟨"TicketHouseModel", "tries", "(IIZ)I"⟩, 31), (⟨"TicketHouseModel", "counting", "(I)I"⟩, 31), (⟨"TicketHouseModel", "enabled", "(I)Z"⟩, 31), (⟨"TicketHouseModel", "give", "(IIIZI)I"⟩, 31), (⟨"TicketHouseModel", "good", "(I)Z"⟩, 31), (⟨"TicketHouseModel", "judged", "(III)I"⟩, 31), (⟨"TicketHouseModel", "no", "(II)V"⟩, 31), (⟨"TicketHouseModel", "put", "(I)V"⟩, 31), (⟨"TicketHouseModel", "number", "(I)V"⟩, 31), (⟨"TicketHouseModel", "tag", "(IIZ)V"⟩, 31), (⟨"TicketHouseModel", "ok", "(IIZI)V"⟩, 31), (⟨"TicketHouseModel", "letters", "(I)V"⟩, 31), (⟨"TicketHouseModel", "entity", "(IIII)V"⟩, 31), (⟨"TicketHouseModel", "element", "(II)V"⟩, 31)]
theorem lw_r2 : ∀ q ∈ lw_privs_2, lw_okq q := List.forall_mem_cons.mpr ⟨lw_p16, List.forall_mem_cons.mpr ⟨lw_p17, List.forall_mem_cons.mpr ⟨lw_p18, List.forall_mem_cons.mpr ⟨lw_p19, List.forall_mem_cons.mpr ⟨lw_p20, List.forall_mem_cons.mpr ⟨lw_p21, List.forall_mem_cons.mpr ⟨lw_p22, List.forall_mem_cons.mpr ⟨lw_p23, List.forall_mem_cons.mpr ⟨lw_p24, List.forall_mem_cons.mpr ⟨lw_p25, List.forall_mem_cons.mpr ⟨lw_p26, List.forall_mem_cons.mpr ⟨lw_p27, List.forall_mem_cons.mpr ⟨lw_p28, List.forall_mem_cons.mpr ⟨lw_p29, List.forall_mem_cons.mpr ⟨lw_p30, List.forall_mem_cons.mpr ⟨lw_p31, fun _ h => absurd h List.not_mem_nil⟩⟩⟩⟩⟩⟩⟩⟩⟩⟩⟩⟩⟩⟩⟩⟩
theorem lw_p32 : lw_okq (⟨"TicketHouseModel", "grant", "(I)I"⟩, 31) := ⟨⟨by decide +kernel, by decide +kernel⟩, List.mem_of_getElem? (i := 587) (by decide +kernel), List.mem_of_getElem? (i := 791) (by decide +kernel), List.mem_of_getElem? (i := 792) (by decide +kernel)⟩
theorem lw_p33 : lw_okq (⟨"TicketHouseModel", "ends", "(I)I"⟩, 31) := ⟨⟨by decide +kernel, by decide +kernel⟩, List.mem_of_getElem? (i := 587) (by decide +kernel), List.mem_of_getElem? (i := 799) (by decide +kernel), List.mem_of_getElem? (i := 800) (by decide +kernel)⟩
def lw_privs_3 : List (MethodName × Nat) := [(⟨"TicketHouseModel", "grant", "(I)I"⟩, 31), (⟨"TicketHouseModel", "ends", "(I)I"⟩, 31)]
theorem lw_r3 : ∀ q ∈ lw_privs_3, lw_okq q := List.forall_mem_cons.mpr ⟨lw_p32, List.forall_mem_cons.mpr ⟨lw_p33, fun _ h => absurd h List.not_mem_nil⟩⟩
def lw_privs : List (MethodName × Nat) := lw_privs_1 ++ (lw_privs_2 ++ (lw_privs_3))
def lw_tbl : List Cond := k2_sels lw_privs ++ tables_1
theorem lw_privs_ok : ∀ q ∈ lw_privs, lw_okq q := by
  show ∀ q ∈ lw_privs_1 ++ (lw_privs_2 ++ (lw_privs_3)), lw_okq q
  exact List.forall_mem_append.mpr ⟨lw_r1, List.forall_mem_append.mpr ⟨lw_r2, lw_r3⟩⟩

/-! ===== BEGIN words of one list among another's, by their places ===== -/
theorem goodIn_r {big : List Cond} (ws : List Cond) (ps : List Nat) (hp : ws = ps.filterMap (fun i => big[i]?)) (h : ws.all goodWord = true) : GoodIn big ws := by
  intro w hw
  have h1 := List.all_eq_true.mp h w hw
  rw [hp] at hw
  obtain ⟨i, -, hi⟩ := List.mem_filterMap.mp hw
  have hm : w ∈ big := by first | exact List.mem_of_getElem? hi | exact List.getElem?_mem hi
  exact ⟨hm, good_of_word h1⟩
theorem goodIn_app {big a b : List Cond} (ha : GoodIn big a) (hb : GoodIn big b) : GoodIn big (a ++ b) := fun w h => (List.mem_append.mp h).elim (ha w) (hb w)
theorem goodIn_ca {big a b : List Cond} {c : Cond} (ha : GoodIn big (c :: a)) (hb : GoodIn big b) : GoodIn big (c :: (a ++ b)) := fun w h => (List.mem_cons.mp h).elim (fun e => ha w (List.mem_cons.mpr (Or.inl e))) (fun h => (List.mem_append.mp h).elim (fun h => ha w (List.mem_cons.mpr (Or.inr h))) (hb w))
theorem goodIn_sub {big ws : List Cond} (hm : ∀ w ∈ ws, w ∈ big) (h : ws.all goodWord = true) : GoodIn big ws := fun w hw => ⟨hm w hw, good_of_word (List.all_eq_true.mp h w hw)⟩
/-! ===== END ===== -/

/-! ===== BEGIN exceptions that leave a method, and their catching by the caller (launches without stack traces) ===== -/
section VXA
/-! The laws vx_back, vx_callV, vx_callS, vx_callSW, vx_throw0, vx_throwS follow proofs of the library, with one case more: JvmDerived/Free/Laws.lean (Back.of_free), Shelf42/LK1.lean (callV, callS), Shelf/KitTraced.lean (throwNew0V, throwNewS). -/
/-- where a method has thrown q: the class by its name, the cell, what was written, the world -/
def vx_T (XC : String → State → State → Prop) (st : State) (q : Addr) (t : State) (mc ms : Nat) (free : Addr → Prop) : Prop :=
  ∃ (E : String) (ce : Cell) (L : List Loc), XC E st t ∧ t.heap[q]? = some ce ∧ ce.vm = .none ∧ st.vm.findClass E = some ce.cls ∧ st.WarmedH t.vm ∧ st.sameButNew ({ t with vm := st.vm } : State) L mc ms ∧ ∀ z ∈ L, free z.base
def vx_Q (Qc : Array Value → State → Outcome → State → Prop) (XC : String → State → State → Prop) (mc ms : Nat) (free : Addr → Prop) : Array Value → State → Outcome → State → Prop := fun a st o t =>
  (Qc a st o t ∧ ∃ L, FrameEnd st o t L mc ms ∧ ∀ q ∈ L, free q.base) ∨ ∃ q, o = .threw q ∧ vx_T XC st q t mc ms free
/-- a callee that returns or throws -/
def vx_Met (l : Launch) (y : MethodName) (ws : List Cond) (rm : Room) (Pc : Array Value → State → Prop) (Qc : Array Value → State → Outcome → State → Prop) (XC : String → State → State → Prop) (mc ms : Nat) (free : Addr → Prop) : Prop :=
  MetFree l y (headSpec ws rm) Pc (fun _ _ _ _ _ => True) (vx_Q Qc XC mc ms free)
def vx_Post (XC : String → State → State → Prop) (mc ms : Nat) (free : Addr → Prop) : Pt → Array Value → Addr → Pt → Prop := fun A a q B =>
  ∃ (g : JFrame) (mk : MethodId) (t : State) (L : List Loc) (E : String) (ce : Cell), B.U.heap = t.heap ∧ B.U.vm = t.vm ∧ XC E (A.U.calling g mk a) t ∧ t.heap[q]? = some ce ∧ ce.vm = .none ∧ A.U.vm.findClass E = some ce.cls ∧ B.locs = A.locs ++ L ∧ (∀ z ∈ L, free z.base) ∧ B.cells = A.cells + mc ∧ B.slots = A.slots + ms
def vx_Back (l : Launch) (R : Room) (p : Program) (e : Env) (below : List Frame) (s : State) (sargs : Array Value) (y : MethodName) (len W9 : Nat)
    (Pre : Pt → Array Value → Prop) (Post : Pt → Array Value → Option Value → Pt → Prop) (PostX : Pt → Array Value → Addr → Pt → Prop) : Prop :=
  ∀ (m : MethodId) (meth : Method) (c : Code) (A : Pt) (g : JFrame) (ig : Instr) (mk : MethodId) (a : Array Value),
    Stand p l e R s m sargs below meth c A.U A.locs A.cells A.slots → g.method = m → g.locals.size = c.maxLocals → decode c.code g.pc = .ok (ig, len) →
    2 * g.monitorRoom + (g.stack.map fun v => v.category).sum ≤ W9 → A.U.methodNamed? y = some mk → Pre A a →
    (∃ (v : Option Value) (B : Pt), Stand p l e R s m sargs below meth c B.U B.locs B.cells B.slots ∧ Post A a v B ∧
      Steps p.tables e below (doInvoke e (A.U.setTop g) [] mk a).1 (B.U.setTop { g with pc := g.pc + len, stack := v.toList ++ g.stack })) ∨
    (∃ (q : Addr) (B : Pt), Stand p l e R s m sargs below meth c B.U B.locs B.cells B.slots ∧ PostX A a q B ∧
      Steps p.tables e below (doInvoke e (A.U.setTop g) [] mk a).1 ((B.U.setTop g).pushFrame (.throwing q)))
section Payer
variable {l : Launch} {R : Room} {p : Program} {e : Env} {below : List Frame} {s : State} {sargs : Array Value} {y : MethodName} {len W9 : Nat}
theorem vx_back {ws : List Cond} {rm : Room} {Pc : Array Value → State → Prop} {Qc : Array Value → State → Outcome → State → Prop} {XC : String → State → State → Prop} {mc ms : Nat} {free : Addr → Prop} {bytes : ByteArray} {maxL : Nat} {ret : Option FieldType}
    (hM : vx_Met l y ws rm Pc Qc XC mc ms free) (hblind : FrameBlind Pc) (hrc : rm.cells = mc) (hrs : rm.slots = ms)
    (hframes : rm.frames + 1 ≤ R.frames) (hlocals : W9 + (maxL + 11) + rm.locals ≤ R.locals)
    (hws : ∀ w ∈ ws, ∀ a' U, s.WarmedH U.vm → w.before a' U = true) (hcode : Cond.code y bytes maxL ret ∈ ws) (hinit : ∀ a' U, s.WarmedH U.vm → (Cond.initialized y.cls).before a' U = true) :
    vx_Back l R p e below s sargs y len W9 (PreOf R mc ms Pc) (PostOf Qc mc ms free) (vx_Post XC mc ms free) := by
  intro m meth c A g ig mk a X hg hsize hdg hW hn hp
  have h1 : (headSpec ws rm).pre.before a A.U = true := atoms_intro fun w hw => hws w hw _ _ X.warmed
  have h2 : (Cond.code y bytes maxL ret).before a A.U = true := hws _ hcode _ _ X.warmed
  have h3 : (Cond.initialized y.cls).before a A.U = true := hinit _ _ X.warmed
  have h4 : A.cells + (headSpec ws rm).room.cells ≤ R.cells := by rw [show (headSpec ws rm).room.cells = mc from hrc]; exact hp.1
  have h5 : A.slots + (headSpec ws rm).room.slots ≤ R.slots := by rw [show (headSpec ws rm).room.slots = ms from hrs]; exact hp.2.1
  have hPc : Pc a (A.U.calling g mk a) := hblind _ _ _ _ hp.2.2
  obtain ⟨U, Ls, c0, s0⟩ := A
  dsimp only [Pt.U, Pt.locs, Pt.cells, Pt.slots] at h1 h2 h3 h4 h5 X hn hPc ⊢
  obtain ⟨methY, cY, hmY, hcY, -, hlY, -, -, -, -⟩ := Cond.code_spec hn h2
  obtain ⟨kY, hkY, -⟩ := className_of_methodNamed hn
  have hinitY : kY.init = .initialized := Cond.initialized_spec (findClass_of_methodNamed hn) hkY h3
  have h : At U g.method c below := by rw [hg]; exact X.here
  have hlocals9 : W9 + (maxL + 11) + (headSpec ws rm).room.locals ≤ R.locals := hlocals
  have happ : (headSpec ws rm).appliesLoose y e.platform (U.calling g mk a) = true :=
    Spec.appliesLoose_calling (g := g) h hdg hn hkY hinitY
      (X.room_calling (g := g) (R' := (headSpec ws rm).room) hsize hmY hcY hframes (by rw [hlY]; omega) h4 h5) h1
  obtain ⟨mid, hmid⟩ := h.above
  have hfr : (U.setTop g).frames = (.java g :: mid) ++ below := by rw [State.frames_setTop' g h.top, hmid]; rfl
  obtain ⟨o, s₂, hsteps, -, hend, hq⟩ := Steps.callFree hM p X.admits X.cas X.clock (acts := []) hfr happ hPc trivial
  have hq' : vx_Q Qc XC mc ms free a (U.calling g mk a) o s₂ := hq
  rw [State.frames_setTop' g h.top] at hend
  obtain ⟨g₀, hg0⟩ := Option.isSome_iff_exists.mp h.top
  obtain ⟨r, hr⟩ := State.topJava?_eq_some.mp hg0
  have hr' : (({ U with heap := s₂.heap, slotsUsed := s₂.slotsUsed } : State).setVm s₂.vm).frames = .java g₀ :: r := hr
  rcases hq' with ⟨hqc, L, hfe, hL⟩ | ⟨q, rfl, E, ce, L, hx, hce, hcv, hcl, hW₂, hsm, hL⟩
  · obtain ⟨⟨v, rfl⟩, hW₂, e2, q2, q3, q4, q5, q6⟩ := id hfe
    have e3 : s₂ = ({ (U.calling g mk a).setFrames s₂.frames with heap := s₂.heap, slotsUsed := s₂.slotsUsed } : State).setVm s₂.vm := by
      have : s₂ = ({ s₂ with vm := (U.calling g mk a).vm } : State).setVm s₂.vm := rfl
      rw [e2] at this
      exact this
    obtain ⟨c₂, i₂, len₂, hc₂, hd₂, hf₂⟩ := hend
    have hW' : U.WarmedH s₂.vm := hW₂
    have hcc : c₂ = c := by
      have h1 : s₂.code? g.method = U.code? g.method := by
        rw [State.code?_eq, State.code?_eq, hW'.alike.method?]
      exact Option.some.inj (hc₂.symm.trans (h1.trans h.code))
    subst hcc
    have hlen : len₂ = len := by rw [hdg] at hd₂; cases hd₂; rfl
    subst hlen
    have hs₂ : s₂ = (({ U with heap := s₂.heap, slotsUsed := s₂.slotsUsed } : State).setVm s₂.vm).setTop { g with pc := g.pc + len₂, stack := v.toList ++ g.stack } := by
      refine e3.trans ?_
      rw [hf₂, State.calling_eq h.top, State.setFrames_setFrames, State.setTop_of_frames _ hr', hr]
      rfl
    have hsame : U.sameButNew ({ U with heap := s₂.heap, slotsUsed := s₂.slotsUsed } : State) L mc ms := by
      refine ⟨?_, q2, q3, q4, q5, q6⟩
      obtain ⟨t, ht, -⟩ := State.frames_cons hr
      show ({ U with heap := s₂.heap, slotsUsed := s₂.slotsUsed } : State) = { U.setFrames U.frames with heap := s₂.heap, slotsUsed := s₂.slotsUsed }
      rw [State.setFrames_self ht]
    subst hg
    refine Or.inl ⟨v, ⟨(({ U with heap := s₂.heap, slotsUsed := s₂.slotsUsed } : State).setVm s₂.vm), Ls ++ L, c0 + mc, s0 + ms⟩,
      ⟨X.admits, X.cas, X.clock, X.frames, X.room, X.hears, X.method, X.code, (X.here.setHeapUsed s₂.heap s₂.slotsUsed).setVm hW'.alike, X.tail, State.WarmedH.trans X.warmed hW', X.limits, X.bytes, X.same.trans (hsame.setVm s.vm)⟩,
      ⟨g, mk, s₂, L, rfl, rfl, hqc, rfl, hL, rfl, rfl⟩, ?_⟩
    show Steps p.tables e below _ ((({ U with heap := s₂.heap, slotsUsed := s₂.slotsUsed } : State).setVm s₂.vm).setTop { g with pc := g.pc + len₂, stack := v.toList ++ g.stack })
    rw [← hs₂]
    exact hsteps
  · obtain ⟨e2, q2, q3, q4, q5, q6⟩ := id hsm
    have e3 : s₂ = ({ (U.calling g mk a).setFrames s₂.frames with heap := s₂.heap, slotsUsed := s₂.slotsUsed } : State).setVm s₂.vm := by
      have : s₂ = ({ s₂ with vm := (U.calling g mk a).vm } : State).setVm s₂.vm := rfl
      rw [e2] at this
      exact this
    have hf₂ : s₂.frames = .throwing q :: .java g :: U.frames.tail := hend
    have hW' : U.WarmedH s₂.vm := hW₂
    have hs₂ : s₂ = ((({ U with heap := s₂.heap, slotsUsed := s₂.slotsUsed } : State).setVm s₂.vm).setTop g).pushFrame (.throwing q) := by
      refine e3.trans ?_
      rw [hf₂, State.calling_eq h.top, State.setFrames_setFrames, State.pushFrame, State.frames_setTop _ hr', State.setTop_of_frames _ hr', State.setFrames_setFrames, hr]
      rfl
    have hsame : U.sameButNew ({ U with heap := s₂.heap, slotsUsed := s₂.slotsUsed } : State) L mc ms := by
      refine ⟨?_, q2, q3, q4, q5, q6⟩
      obtain ⟨t, ht, -⟩ := State.frames_cons hr
      show ({ U with heap := s₂.heap, slotsUsed := s₂.slotsUsed } : State) = { U.setFrames U.frames with heap := s₂.heap, slotsUsed := s₂.slotsUsed }
      rw [State.setFrames_self ht]
    subst hg
    refine Or.inr ⟨q, ⟨(({ U with heap := s₂.heap, slotsUsed := s₂.slotsUsed } : State).setVm s₂.vm), Ls ++ L, c0 + mc, s0 + ms⟩,
      ⟨X.admits, X.cas, X.clock, X.frames, X.room, X.hears, X.method, X.code, (X.here.setHeapUsed s₂.heap s₂.slotsUsed).setVm hW'.alike, X.tail, State.WarmedH.trans X.warmed hW', X.limits, X.bytes, X.same.trans (hsame.setVm s.vm)⟩,
      ⟨g, mk, s₂, L, E, ce, rfl, rfl, hx, hce, hcv, hcl, rfl, hL, rfl, rfl⟩, ?_⟩
    show Steps p.tables e below _ (((({ U with heap := s₂.heap, slotsUsed := s₂.slotsUsed } : State).setVm s₂.vm).setTop g).pushFrame (.throwing q))
    rw [← hs₂]
    exact hsteps
end Payer
section Calls
variable {p : Program} {l : Launch} {e : Env} {R : Room} {s : State} {m : MethodId} {args : Array Value} {below : List Frame} {meth : Method} {c : Code} {T : State} {locs : List Loc} {cells slots : Nat}
theorem vx_callV (X : Stand p l e R s m args below meth c T locs cells slots) (hexec : p.tables.exec = Jvm.exec) {own C : String} {index : Nat} {y : MethodName} {bytes : ByteArray} {maxL : Nat} {ret : Option FieldType}
    (hown : s.vm.findClass own = some m.cls) (hlink : (Cond.methodLink own index y).before args s = true) (hinst : (Cond.instanceMethod y).before args s = true) (hsel : (Cond.selects C y y).before args s = true)
    (hcode : (Cond.code y bytes maxL ret).before args s = true) (hy : y.cls ≠ "java/lang/invoke/MethodHandle" ∧ y.cls ≠ "java/lang/invoke/VarHandle")
    {W9 : Nat} {Pre : Pt → Array Value → Prop} {Post : Pt → Array Value → Option Value → Pt → Prop} {PostX : Pt → Array Value → Addr → Pt → Prop} (hK : vx_Back l R p e below s args y 3 W9 Pre Post PostX)
    {b : Addr} {cellB : Cell} (hcell : T.heap[b]? = some cellB) (hobj : cellB.vm.isStatics = false) (hcls : s.vm.findClass C = some cellB.cls)
    {g : JFrame} (hg : g.method = m) (hsize : g.locals.size = c.maxLocals) {argsL rest : List Value} (hlen : ∀ sig, parseMethodDescriptor y.desc = some sig → argsL.length = sig.parameters.length)
    (hstack : g.stack = argsL.reverse ++ .ref b :: rest) (hW : 2 * g.monitorRoom + (rest.map fun v => v.category).sum ≤ W9) (hdg : decode c.code g.pc = .ok (.invokevirtual index, 3))
    (hpre : ∀ vm₁, s.WarmedH vm₁ → Pre ⟨T.setVm vm₁, locs, cells, slots⟩ (Value.ref b :: argsL).toArray) :
    (∃ (v : Option Value) (vm₁ : Vm) (B : Pt), s.WarmedH vm₁ ∧ Stand p l e R s m args below meth c B.U B.locs B.cells B.slots ∧ Post ⟨T.setVm vm₁, locs, cells, slots⟩ (Value.ref b :: argsL).toArray v B ∧
      ∀ target, Steps p.tables e below (B.U.setTop { g with pc := g.pc + 3, stack := v.toList ++ rest }) target → Steps p.tables e below (T.setTop g) target) ∨
    (∃ (q : Addr) (vm₁ : Vm) (B : Pt), s.WarmedH vm₁ ∧ Stand p l e R s m args below meth c B.U B.locs B.cells B.slots ∧ PostX ⟨T.setVm vm₁, locs, cells, slots⟩ (Value.ref b :: argsL).toArray q B ∧
      Steps p.tables e below (T.setTop g) ((B.U.setTop { g with stack := rest }).pushFrame (.throwing q))) := by
  obtain ⟨mk, methM, hnamed, hmethM, hstM, habM⟩ := Cond.instanceMethod_spec hinst
  obtain ⟨methM', cM, hmethM', -, -, -, -, -, -, hsigM⟩ := Cond.code_spec hnamed hcode
  cases hmethM.symm.trans hmethM'
  obtain ⟨c2, r2, m2, q1, q2, q3, q4, kP, hkP, hkPi⟩ := Cond.selects_spec hsel
  cases hcls.symm.trans q1
  cases (State.methodFound?_of_named hnamed hy).symm.trans q2
  cases hnamed.symm.trans q3
  have hselP : selectMethod e.platform s.vm cellB.cls mk = .method mk := by rw [Launch.admits_selectMethod X.admits]; exact q4
  obtain ⟨vm₁, X₁, hstep₁⟩ := X.invokevirtual hexec hown hlink hnamed hmethM hstM hkP hkPi hy (a := b) (cell := cellB) hcell
    (fun z h => by rw [h] at hobj; cases hobj) hselP hmethM habM hkP hkPi (g := g) hg (argsL := argsL) (rest := rest) (hlen _ hsigM) hstack hdg
  rcases hK m meth c ⟨T.setVm vm₁, locs, cells, slots⟩ { g with stack := rest } (.invokevirtual index) mk (Value.ref b :: argsL).toArray X₁ hg hsize hdg hW (X₁.named hnamed) (hpre vm₁ X₁.warmed) with ⟨v, B, X', hpost, hsteps⟩ | ⟨q, B, X', hpost, hsteps⟩
  · exact Or.inl ⟨v, vm₁, B, X₁.warmed, X', hpost, fun target h => hstep₁ _ fun acts => by rw [doInvoke_state]; exact hsteps.trans h⟩
  · exact Or.inr ⟨q, vm₁, B, X₁.warmed, X', hpost, hstep₁ _ fun acts => by rw [doInvoke_state]; exact hsteps⟩
theorem vx_callS (X : Stand p l e R s m args below meth c T locs cells slots) (hexec : p.tables.exec = Jvm.exec) {own : String} {index : Nat} {y : MethodName} {bytes : ByteArray} {maxL : Nat} {ret : Option FieldType}
    (hown : s.vm.findClass own = some m.cls) (hlink : (Cond.methodLink own index y).before args s = true) (hstat : (Cond.static y).before args s = true) (hinit : (Cond.initialized y.cls).before args s = true)
    (hcode : (Cond.code y bytes maxL ret).before args s = true) (hy : y.cls ≠ "java/lang/invoke/MethodHandle" ∧ y.cls ≠ "java/lang/invoke/VarHandle")
    {W9 : Nat} {Pre : Pt → Array Value → Prop} {Post : Pt → Array Value → Option Value → Pt → Prop} {PostX : Pt → Array Value → Addr → Pt → Prop} (hK : vx_Back l R p e below s args y 3 W9 Pre Post PostX)
    {g : JFrame} (hg : g.method = m) (hsize : g.locals.size = c.maxLocals) {argsL rest : List Value} (hlen : ∀ sig, parseMethodDescriptor y.desc = some sig → argsL.length = sig.parameters.length)
    (hstack : g.stack = argsL.reverse ++ rest) (hW : 2 * g.monitorRoom + (rest.map fun v => v.category).sum ≤ W9) (hdg : decode c.code g.pc = .ok (.invokestatic index, 3))
    (hpre : ∀ vm₁, s.WarmedH vm₁ → Pre ⟨T.setVm vm₁, locs, cells, slots⟩ argsL.toArray) :
    (∃ (v : Option Value) (vm₁ : Vm) (B : Pt), s.WarmedH vm₁ ∧ Stand p l e R s m args below meth c B.U B.locs B.cells B.slots ∧ Post ⟨T.setVm vm₁, locs, cells, slots⟩ argsL.toArray v B ∧
      ∀ target, Steps p.tables e below (B.U.setTop { g with pc := g.pc + 3, stack := v.toList ++ rest }) target → Steps p.tables e below (T.setTop g) target) ∨
    (∃ (q : Addr) (vm₁ : Vm) (B : Pt), s.WarmedH vm₁ ∧ Stand p l e R s m args below meth c B.U B.locs B.cells B.slots ∧ PostX ⟨T.setVm vm₁, locs, cells, slots⟩ argsL.toArray q B ∧
      Steps p.tables e below (T.setTop g) ((B.U.setTop { g with stack := rest }).pushFrame (.throwing q))) := by
  obtain ⟨mk, hnamed⟩ := Cond.code_named hcode
  obtain ⟨methM, cM, hmethM, -, -, -, -, -, -, hsigM⟩ := Cond.code_spec hnamed hcode
  have hstatic : methM.isStatic = true := Cond.static_spec hnamed hmethM hstat
  obtain ⟨kP, hkP, -⟩ := className_of_methodNamed hnamed
  have hinitP : kP.init = .initialized := Cond.initialized_spec (findClass_of_methodNamed hnamed) hkP hinit
  obtain ⟨vm₁, X₁, hstep₁⟩ := X.invokestatic hexec hown hlink hnamed hmethM hstatic hkP hinitP hy (g := g) hg (argsL := argsL) (rest := rest) (hlen _ hsigM) hstack hdg
  rcases hK m meth c ⟨T.setVm vm₁, locs, cells, slots⟩ { g with stack := rest } (.invokestatic index) mk argsL.toArray X₁ hg hsize hdg hW (X₁.named hnamed) (hpre vm₁ X₁.warmed) with ⟨v, B, X', hpost, hsteps⟩ | ⟨q, B, X', hpost, hsteps⟩
  · exact Or.inl ⟨v, vm₁, B, X₁.warmed, X', hpost, fun target h => hstep₁ _ fun acts => by rw [doInvoke_state]; exact hsteps.trans h⟩
  · exact Or.inr ⟨q, vm₁, B, X₁.warmed, X', hpost, hstep₁ _ fun acts => by rw [doInvoke_state]; exact hsteps⟩
end Calls
theorem vx_cls {s : State} {T : State} {vm₁ : Vm} {E : String} {k : ClassId} (hW : s.WarmedH vm₁) (h : (T.setVm vm₁).vm.findClass E = some k) : s.vm.findClass E = some k := by
  have h1 : vm₁.findClass E = some k := h
  rw [hW.alike.findClass] at h1
  exact h1
/-- the method's frame g, with q thrown over it -/
def vx_W (p : Program) (l : Launch) (e : Env) (R : Room) (s : State) (m : MethodId) (args : Array Value) (below : List Frame) (meth : Method) (c : Code) (H : Heap) (locs : List Loc) (cells slots : Nat) (Q : State → Prop) (g : JFrame) (q : Addr) : Prop :=
  ∀ T : State, T.heap = H → Stand p l e R s m args below meth c T locs cells slots → ∃ t, Steps p.tables e below ((T.setTop g).pushFrame (.throwing q)) t ∧ Q t
def vx_Run (p : Program) (l : Launch) (e : Env) (R : Room) (s : State) (m : MethodId) (args : Array Value) (below : List Frame) (meth : Method) (c : Code) (H : Heap) (locs : List Loc) (cells slots mc ms : Nat) (g : JFrame) (rest : List Value) (Qa : State → Outcome → State → Prop) (XC : String → State → State → Prop) (free : Addr → Prop) : Prop :=
  ∀ T : State, T.heap = H → Stand p l e R s m args below meth c T locs cells slots →
    (∃ (v : Option Value) (st₀ t T' : State) (L : List Loc), st₀.heap = H ∧ Stand p l e R s m args below meth c T' (locs ++ L) (cells + mc) (slots + ms) ∧ (∀ q ∈ L, free q.base) ∧ T'.heap = t.heap ∧ T'.vm = t.vm ∧ Qa st₀ (.returned v) t ∧
      Goes p e below T g T' { g with pc := g.pc + 3, stack := v.toList ++ rest }) ∨
    (∃ (q : Addr) (st₀ t T' : State) (L : List Loc) (E : String) (ce : Cell), st₀.heap = H ∧ Stand p l e R s m args below meth c T' (locs ++ L) (cells + mc) (slots + ms) ∧ (∀ z ∈ L, free z.base) ∧ T'.heap = t.heap ∧ T'.vm = t.vm ∧ XC E st₀ t ∧ t.heap[q]? = some ce ∧ ce.vm = .none ∧ s.vm.findClass E = some ce.cls ∧
      Steps p.tables e below (T.setTop g) ((T'.setTop { g with stack := rest }).pushFrame (.throwing q)))
def vx_X {S : Type} (px : S → Prop) (B : String → S → State → Prop) (A : Nat → Prop) : String → State → State → Prop := fun E st t => ∃ u : S, px u ∧ B E u t ∧ va_F A st t
section Runs
variable {p : Program} {l : Launch} {e : Env} {R : Room} {s : State} {m : MethodId} {args : Array Value} {below : List Frame} {meth : Method} {c : Code} {H : Heap} {locs : List Loc} {cells slots : Nat}
variable {y : MethodName} {bytes cc : ByteArray} {maxL nL mc ms n index : Nat} {ret : Option FieldType} {ws : List Cond} {rm : Room} {Pc : Array Value → State → Prop} {Qc : Array Value → State → Outcome → State → Prop} {XC : String → State → State → Prop} {free : Addr → Prop} {Ts : List Cond} {own C : String} {b : Addr} {As rest : List Value} {g : JFrame}
theorem vx_callBack (cb : CallB R s args own index y bytes maxL ret ws rm mc ms n) (hM : vx_Met l y ws rm Pc Qc XC mc ms free) (hbl : FrameBlind Pc) : vx_Back l R p e below s args y 3 8 (PreOf R mc ms Pc) (PostOf Qc mc ms free) (vx_Post XC mc ms free) := by
  obtain ⟨hrc, hrs, hfr, hlo, hws, hcw, -, hini, -⟩ := cb
  exact vx_back (bytes := bytes) (maxL := maxL) (ret := ret) hM hbl hrc hrs hfr hlo hws hcw (fun a' U hW => word_at hW (Or.inl (by first | rfl | simp [Cond.onTables, Cond.keeps, Cond.steady])) hini)
theorem vx_runV (S : CallFix p m c cc nL s args Ts own) (hM : vx_Met l y ws rm Pc Qc XC mc ms free) (cw : CallW R s args own C index y bytes maxL ret ws rm mc ms n) (hp : PreV s H C b Pc As)
    (hg : g.method = m) (hn : As.length = n) (hsize : g.locals.size = nL) (hstack : g.stack = As.reverse ++ .ref b :: rest) (hW : 2 * g.monitorRoom + (rest.map fun v => v.category).sum ≤ 8) (hdg : decode cc g.pc = .ok (.invokevirtual index, 3)) (hf : cells + mc ≤ R.cells ∧ slots + ms ≤ R.slots) :
    vx_Run p l e R s m args below meth c H locs cells slots mc ms g rest (Qc (Value.ref b :: As).toArray) XC free := by
  have hK : vx_Back l R p e below s args y 3 8 (PreOf R mc ms Pc) (PostOf Qc mc ms free) (vx_Post XC mc ms free) := vx_callBack cw.1 hM hp.1
  obtain ⟨⟨-, -, -, -, -, -, hcode, -, hy, hlen, hl⟩, hin, hse⟩ := cw
  obtain ⟨hx, hb, hml, ho, -⟩ := S
  obtain ⟨-, ⟨cellB, hcB, hoB, hclB⟩, hPc⟩ := hp
  intro T hT X
  rcases vx_callV X hx (C := C) (bytes := bytes) (maxL := maxL) (ret := ret) ho hl hin hse hcode hy hK (by rw [hT]; exact hcB) hoB hclB hg (hsize.trans hml.symm) (argsL := As) (rest := rest) (fun sig h => hn.trans (hlen sig h)) hstack hW (by rw [hb]; exact hdg)
    (fun vm₁ hW₁ => ⟨hf.1, hf.2, hPc (T.setVm vm₁) hT hW₁⟩) with ⟨v, vm₁, ⟨U', l2, c2, s2⟩, hW₁, X', ⟨g', mk, t, L, e1, e2, hq, h1, hL, h2, h3⟩, st⟩ | ⟨q, vm₁, ⟨U', l2, c2, s2⟩, hW₁, X', ⟨g', mk, t, L, E, ce, e1, e2, hq, hce, hcv, hcl, h1, hL, h2, h3⟩, st⟩
  · dsimp only [Pt.U, Pt.locs, Pt.cells, Pt.slots] at X' e1 e2 h1 h2 h3 st
    subst h1; subst h2; subst h3
    exact Or.inl ⟨v, (T.setVm vm₁).calling g' mk (Value.ref b :: As).toArray, t, U', L, hT, X', hL, e1, e2, hq, st⟩
  · dsimp only [Pt.U, Pt.locs, Pt.cells, Pt.slots] at X' e1 e2 h1 h2 h3 st hcl
    subst h1; subst h2; subst h3
    exact Or.inr ⟨q, (T.setVm vm₁).calling g' mk (Value.ref b :: As).toArray, t, U', L, E, ce, hT, X', hL, e1, e2, hq, hce, hcv, vx_cls hW₁ hcl, st⟩
theorem vx_runS (S : CallFix p m c cc nL s args Ts own) (hM : vx_Met l y ws rm Pc Qc XC mc ms free) (cw : CallB R s args own index y bytes maxL ret ws rm mc ms n ∧ (Cond.static y).before args s = true) (hp : PreS s H Pc As)
    (hg : g.method = m) (hn : As.length = n) (hsize : g.locals.size = nL) (hstack : g.stack = As.reverse ++ rest) (hW : 2 * g.monitorRoom + (rest.map fun v => v.category).sum ≤ 8) (hdg : decode cc g.pc = .ok (.invokestatic index, 3)) (hf : cells + mc ≤ R.cells ∧ slots + ms ≤ R.slots) :
    vx_Run p l e R s m args below meth c H locs cells slots mc ms g rest (Qc As.toArray) XC free := by
  have hK : vx_Back l R p e below s args y 3 8 (PreOf R mc ms Pc) (PostOf Qc mc ms free) (vx_Post XC mc ms free) := vx_callBack cw.1 hM hp.1
  obtain ⟨⟨-, -, -, -, -, -, hcode, hini, hy, hlen, hl⟩, hstt⟩ := cw
  obtain ⟨hx, hb, hml, ho, -⟩ := S
  intro T hT X
  rcases vx_callS X hx (bytes := bytes) (maxL := maxL) (ret := ret) ho hl hstt hini hcode hy hK hg (hsize.trans hml.symm) (argsL := As) (rest := rest) (fun sig h => hn.trans (hlen sig h)) hstack hW (by rw [hb]; exact hdg)
    (fun vm₁ hW₁ => ⟨hf.1, hf.2, hp.2 (T.setVm vm₁) hT hW₁⟩) with ⟨v, vm₁, ⟨U', l2, c2, s2⟩, hW₁, X', ⟨g', mk, t, L, e1, e2, hq, h1, hL, h2, h3⟩, st⟩ | ⟨q, vm₁, ⟨U', l2, c2, s2⟩, hW₁, X', ⟨g', mk, t, L, E, ce, e1, e2, hq, hce, hcv, hcl, h1, hL, h2, h3⟩, st⟩
  · dsimp only [Pt.U, Pt.locs, Pt.cells, Pt.slots] at X' e1 e2 h1 h2 h3 st
    subst h1; subst h2; subst h3
    exact Or.inl ⟨v, (T.setVm vm₁).calling g' mk As.toArray, t, U', L, hT, X', hL, e1, e2, hq, st⟩
  · dsimp only [Pt.U, Pt.locs, Pt.cells, Pt.slots] at X' e1 e2 h1 h2 h3 st hcl
    subst h1; subst h2; subst h3
    exact Or.inr ⟨q, (T.setVm vm₁).calling g' mk As.toArray, t, U', L, E, ce, hT, X', hL, e1, e2, hq, hce, hcv, vx_cls hW₁ hcl, st⟩
end Runs
section Rows
variable {p : Program} {l : Launch} {e : Env} {R : Room} {s : State} {m : MethodId} {args : Array Value} {below : List Frame} {meth : Method} {c : Code} {H : Heap} {locs : List Loc} {cells slots : Nat} {Q : State → Prop}
variable {mc ms : Nat} {free : Addr → Prop} {A0 A1 : Nat → Prop} {H0 : Heap} {a : Array Value} {pc : Nat} {ls : Array Slot} {st0 rest : List Value}
theorem vx_keep {st₀ t T' : State} {L : List Loc} (h0 : st₀.heap = H) (e1 : T'.heap = t.heap) (hS : va_S A0 H0 H locs) (hA : ∀ q, q < H.size → A1 q → A0 q) (hf : ∀ q, free q → A0 q) (hL : ∀ q ∈ L, free q.base) (hF : va_F A1 st₀ t) :
    H.size ≤ T'.heap.size ∧ (∀ q : Nat, q < H.size → ¬ A1 q → T'.heap[q]? = H[q]?) ∧ va_S A0 H0 T'.heap (locs ++ L) := by
  obtain ⟨hz, hk⟩ := hF
  rw [h0] at hz hk
  exact ⟨by rw [e1]; exact hz, fun q h1 h2 => by rw [e1]; exact hk q h1 h2,
    ⟨Nat.le_trans hS.1 (by rw [e1]; exact hz), fun q h1 h2 => by rw [e1, hk q (Nat.lt_of_lt_of_le h1 hS.1) (fun z => h2 (hA q (Nat.lt_of_lt_of_le h1 hS.1) z))]; exact hS.2.1 q h1 h2, fun q hq => by
      rcases List.mem_append.mp hq with h | h
      · exact hS.2.2 q h
      · exact hf _ (hL q h)⟩⟩
theorem vx_calli {S SX : Type} {post : Int32 → S → Prop} {px : SX → Prop} {B : S → State → Prop} {BX : String → SX → State → Prop} {AX : Nat → Prop} (hr : vx_Run p l e R s m args below meth c H locs cells slots mc ms (F0 m pc ls st0) rest (va_Qi post B A1 a) (vx_X px BX AX) free) (hS : va_S A0 H0 H locs) (hA : ∀ q, q < H.size → A1 q → A0 q) (hf : ∀ q, free q → A0 q) (hAX : ∀ q, q < H.size → AX q → A0 q)
    (kx : ∀ (E : String) (ce : Cell) (q9 : Addr) (u : SX) (t : State) (H1 : Heap) (locs1 : List Loc), t.heap = H1 → s.vm.Alike t.vm → px u → BX E u t → H.size ≤ H1.size → (∀ q : Nat, q < H.size → ¬ AX q → H1[q]? = H[q]?) → va_S A0 H0 H1 locs1 → H1[q9]? = some ce → ce.vm = .none → s.vm.findClass E = some ce.cls → vx_W p l e R s m args below meth c H1 locs1 (cells + mc) (slots + ms) Q (F0 m pc ls rest) q9)
    (kk : ∀ (r : Int32) (u : S) (t : State) (H1 : Heap) (locs1 : List Loc), t.heap = H1 → s.vm.Alike t.vm → post r u → B u t → H.size ≤ H1.size → (∀ q : Nat, q < H.size → ¬ A1 q → H1[q]? = H[q]?) → va_S A0 H0 H1 locs1 → W p l e R s m args below meth c H1 locs1 (cells + mc) (slots + ms) Q (F0 m (pc + 3) ls (.int r :: rest))) : W p l e R s m args below meth c H locs cells slots Q (F0 m pc ls st0) := by
  intro T hT X
  rcases hr T hT X with ⟨v, st₀, t, T', L, h0, X', hL, e1, e2, ⟨⟨r, u, hv, hp, hb⟩, hF⟩, st⟩ | ⟨q, st₀, t, T', L, E, ce, h0, X', hL, e1, e2, ⟨u, hp, hb, hF⟩, hce, hcv, hcl, st⟩
  · cases hv
    obtain ⟨k1, k2, k3⟩ := vx_keep h0 e1 hS hA hf hL hF
    obtain ⟨t2, a1, b1⟩ := kk r u t T'.heap (locs ++ L) e1.symm (by rw [← e2]; exact X'.warmed.alike) hp hb k1 k2 k3 T' rfl X'
    exact ⟨t2, st t2 a1, b1⟩
  · obtain ⟨k1, k2, k3⟩ := vx_keep h0 e1 hS hAX hf hL hF
    obtain ⟨t2, a1, b1⟩ := kx E ce q u t T'.heap (locs ++ L) e1.symm (by rw [← e2]; exact X'.warmed.alike) hp hb k1 k2 k3 (by rw [e1]; exact hce) hcv hcl T' rfl X'
    exact ⟨t2, st.trans a1, b1⟩
theorem vx_calll {S SX : Type} {post : Int64 → S → Prop} {px : SX → Prop} {B : S → State → Prop} {BX : String → SX → State → Prop} {AX : Nat → Prop} (hr : vx_Run p l e R s m args below meth c H locs cells slots mc ms (F0 m pc ls st0) rest (va_Ql post B A1 a) (vx_X px BX AX) free) (hS : va_S A0 H0 H locs) (hA : ∀ q, q < H.size → A1 q → A0 q) (hf : ∀ q, free q → A0 q) (hAX : ∀ q, q < H.size → AX q → A0 q)
    (kx : ∀ (E : String) (ce : Cell) (q9 : Addr) (u : SX) (t : State) (H1 : Heap) (locs1 : List Loc), t.heap = H1 → s.vm.Alike t.vm → px u → BX E u t → H.size ≤ H1.size → (∀ q : Nat, q < H.size → ¬ AX q → H1[q]? = H[q]?) → va_S A0 H0 H1 locs1 → H1[q9]? = some ce → ce.vm = .none → s.vm.findClass E = some ce.cls → vx_W p l e R s m args below meth c H1 locs1 (cells + mc) (slots + ms) Q (F0 m pc ls rest) q9)
    (kk : ∀ (r : Int64) (u : S) (t : State) (H1 : Heap) (locs1 : List Loc), t.heap = H1 → s.vm.Alike t.vm → post r u → B u t → H.size ≤ H1.size → (∀ q : Nat, q < H.size → ¬ A1 q → H1[q]? = H[q]?) → va_S A0 H0 H1 locs1 → W p l e R s m args below meth c H1 locs1 (cells + mc) (slots + ms) Q (F0 m (pc + 3) ls (.long r :: rest))) : W p l e R s m args below meth c H locs cells slots Q (F0 m pc ls st0) := by
  intro T hT X
  rcases hr T hT X with ⟨v, st₀, t, T', L, h0, X', hL, e1, e2, ⟨⟨r, u, hv, hp, hb⟩, hF⟩, st⟩ | ⟨q, st₀, t, T', L, E, ce, h0, X', hL, e1, e2, ⟨u, hp, hb, hF⟩, hce, hcv, hcl, st⟩
  · cases hv
    obtain ⟨k1, k2, k3⟩ := vx_keep h0 e1 hS hA hf hL hF
    obtain ⟨t2, a1, b1⟩ := kk r u t T'.heap (locs ++ L) e1.symm (by rw [← e2]; exact X'.warmed.alike) hp hb k1 k2 k3 T' rfl X'
    exact ⟨t2, st t2 a1, b1⟩
  · obtain ⟨k1, k2, k3⟩ := vx_keep h0 e1 hS hAX hf hL hF
    obtain ⟨t2, a1, b1⟩ := kx E ce q u t T'.heap (locs ++ L) e1.symm (by rw [← e2]; exact X'.warmed.alike) hp hb k1 k2 k3 (by rw [e1]; exact hce) hcv hcl T' rfl X'
    exact ⟨t2, st.trans a1, b1⟩
theorem vx_callf {S SX : Type} {post : UInt32 → S → Prop} {px : SX → Prop} {B : S → State → Prop} {BX : String → SX → State → Prop} {AX : Nat → Prop} (hr : vx_Run p l e R s m args below meth c H locs cells slots mc ms (F0 m pc ls st0) rest (va_Qf post B A1 a) (vx_X px BX AX) free) (hS : va_S A0 H0 H locs) (hA : ∀ q, q < H.size → A1 q → A0 q) (hf : ∀ q, free q → A0 q) (hAX : ∀ q, q < H.size → AX q → A0 q)
    (kx : ∀ (E : String) (ce : Cell) (q9 : Addr) (u : SX) (t : State) (H1 : Heap) (locs1 : List Loc), t.heap = H1 → s.vm.Alike t.vm → px u → BX E u t → H.size ≤ H1.size → (∀ q : Nat, q < H.size → ¬ AX q → H1[q]? = H[q]?) → va_S A0 H0 H1 locs1 → H1[q9]? = some ce → ce.vm = .none → s.vm.findClass E = some ce.cls → vx_W p l e R s m args below meth c H1 locs1 (cells + mc) (slots + ms) Q (F0 m pc ls rest) q9)
    (kk : ∀ (r : UInt32) (u : S) (t : State) (H1 : Heap) (locs1 : List Loc), t.heap = H1 → s.vm.Alike t.vm → post r u → B u t → H.size ≤ H1.size → (∀ q : Nat, q < H.size → ¬ A1 q → H1[q]? = H[q]?) → va_S A0 H0 H1 locs1 → W p l e R s m args below meth c H1 locs1 (cells + mc) (slots + ms) Q (F0 m (pc + 3) ls (.float r :: rest))) : W p l e R s m args below meth c H locs cells slots Q (F0 m pc ls st0) := by
  intro T hT X
  rcases hr T hT X with ⟨v, st₀, t, T', L, h0, X', hL, e1, e2, ⟨⟨r, u, hv, hp, hb⟩, hF⟩, st⟩ | ⟨q, st₀, t, T', L, E, ce, h0, X', hL, e1, e2, ⟨u, hp, hb, hF⟩, hce, hcv, hcl, st⟩
  · cases hv
    obtain ⟨k1, k2, k3⟩ := vx_keep h0 e1 hS hA hf hL hF
    obtain ⟨t2, a1, b1⟩ := kk r u t T'.heap (locs ++ L) e1.symm (by rw [← e2]; exact X'.warmed.alike) hp hb k1 k2 k3 T' rfl X'
    exact ⟨t2, st t2 a1, b1⟩
  · obtain ⟨k1, k2, k3⟩ := vx_keep h0 e1 hS hAX hf hL hF
    obtain ⟨t2, a1, b1⟩ := kx E ce q u t T'.heap (locs ++ L) e1.symm (by rw [← e2]; exact X'.warmed.alike) hp hb k1 k2 k3 (by rw [e1]; exact hce) hcv hcl T' rfl X'
    exact ⟨t2, st.trans a1, b1⟩
theorem vx_calld {S SX : Type} {post : UInt64 → S → Prop} {px : SX → Prop} {B : S → State → Prop} {BX : String → SX → State → Prop} {AX : Nat → Prop} (hr : vx_Run p l e R s m args below meth c H locs cells slots mc ms (F0 m pc ls st0) rest (va_Qd post B A1 a) (vx_X px BX AX) free) (hS : va_S A0 H0 H locs) (hA : ∀ q, q < H.size → A1 q → A0 q) (hf : ∀ q, free q → A0 q) (hAX : ∀ q, q < H.size → AX q → A0 q)
    (kx : ∀ (E : String) (ce : Cell) (q9 : Addr) (u : SX) (t : State) (H1 : Heap) (locs1 : List Loc), t.heap = H1 → s.vm.Alike t.vm → px u → BX E u t → H.size ≤ H1.size → (∀ q : Nat, q < H.size → ¬ AX q → H1[q]? = H[q]?) → va_S A0 H0 H1 locs1 → H1[q9]? = some ce → ce.vm = .none → s.vm.findClass E = some ce.cls → vx_W p l e R s m args below meth c H1 locs1 (cells + mc) (slots + ms) Q (F0 m pc ls rest) q9)
    (kk : ∀ (r : UInt64) (u : S) (t : State) (H1 : Heap) (locs1 : List Loc), t.heap = H1 → s.vm.Alike t.vm → post r u → B u t → H.size ≤ H1.size → (∀ q : Nat, q < H.size → ¬ A1 q → H1[q]? = H[q]?) → va_S A0 H0 H1 locs1 → W p l e R s m args below meth c H1 locs1 (cells + mc) (slots + ms) Q (F0 m (pc + 3) ls (.double r :: rest))) : W p l e R s m args below meth c H locs cells slots Q (F0 m pc ls st0) := by
  intro T hT X
  rcases hr T hT X with ⟨v, st₀, t, T', L, h0, X', hL, e1, e2, ⟨⟨r, u, hv, hp, hb⟩, hF⟩, st⟩ | ⟨q, st₀, t, T', L, E, ce, h0, X', hL, e1, e2, ⟨u, hp, hb, hF⟩, hce, hcv, hcl, st⟩
  · cases hv
    obtain ⟨k1, k2, k3⟩ := vx_keep h0 e1 hS hA hf hL hF
    obtain ⟨t2, a1, b1⟩ := kk r u t T'.heap (locs ++ L) e1.symm (by rw [← e2]; exact X'.warmed.alike) hp hb k1 k2 k3 T' rfl X'
    exact ⟨t2, st t2 a1, b1⟩
  · obtain ⟨k1, k2, k3⟩ := vx_keep h0 e1 hS hAX hf hL hF
    obtain ⟨t2, a1, b1⟩ := kx E ce q u t T'.heap (locs ++ L) e1.symm (by rw [← e2]; exact X'.warmed.alike) hp hb k1 k2 k3 (by rw [e1]; exact hce) hcv hcl T' rfl X'
    exact ⟨t2, st.trans a1, b1⟩
theorem vx_callv {S SX : Type} {post : S → Prop} {px : SX → Prop} {B : S → State → Prop} {BX : String → SX → State → Prop} {AX : Nat → Prop} (hr : vx_Run p l e R s m args below meth c H locs cells slots mc ms (F0 m pc ls st0) rest (va_Qv post B A1 a) (vx_X px BX AX) free) (hS : va_S A0 H0 H locs) (hA : ∀ q, q < H.size → A1 q → A0 q) (hf : ∀ q, free q → A0 q) (hAX : ∀ q, q < H.size → AX q → A0 q)
    (kx : ∀ (E : String) (ce : Cell) (q9 : Addr) (u : SX) (t : State) (H1 : Heap) (locs1 : List Loc), t.heap = H1 → s.vm.Alike t.vm → px u → BX E u t → H.size ≤ H1.size → (∀ q : Nat, q < H.size → ¬ AX q → H1[q]? = H[q]?) → va_S A0 H0 H1 locs1 → H1[q9]? = some ce → ce.vm = .none → s.vm.findClass E = some ce.cls → vx_W p l e R s m args below meth c H1 locs1 (cells + mc) (slots + ms) Q (F0 m pc ls rest) q9)
    (kk : ∀ (u : S) (t : State) (H1 : Heap) (locs1 : List Loc), t.heap = H1 → s.vm.Alike t.vm → post u → B u t → H.size ≤ H1.size → (∀ q : Nat, q < H.size → ¬ A1 q → H1[q]? = H[q]?) → va_S A0 H0 H1 locs1 → W p l e R s m args below meth c H1 locs1 (cells + mc) (slots + ms) Q (F0 m (pc + 3) ls (rest))) : W p l e R s m args below meth c H locs cells slots Q (F0 m pc ls st0) := by
  intro T hT X
  rcases hr T hT X with ⟨v, st₀, t, T', L, h0, X', hL, e1, e2, ⟨⟨u, hv, hp, hb⟩, hF⟩, st⟩ | ⟨q, st₀, t, T', L, E, ce, h0, X', hL, e1, e2, ⟨u, hp, hb, hF⟩, hce, hcv, hcl, st⟩
  · cases hv
    obtain ⟨k1, k2, k3⟩ := vx_keep h0 e1 hS hA hf hL hF
    obtain ⟨t2, a1, b1⟩ := kk u t T'.heap (locs ++ L) e1.symm (by rw [← e2]; exact X'.warmed.alike) hp hb k1 k2 k3 T' rfl X'
    exact ⟨t2, st t2 a1, b1⟩
  · obtain ⟨k1, k2, k3⟩ := vx_keep h0 e1 hS hAX hf hL hF
    obtain ⟨t2, a1, b1⟩ := kx E ce q u t T'.heap (locs ++ L) e1.symm (by rw [← e2]; exact X'.warmed.alike) hp hb k1 k2 k3 (by rw [e1]; exact hce) hcv hcl T' rfl X'
    exact ⟨t2, st.trans a1, b1⟩
/-- caught by the row x of this method's table; the rows ahead don't take it -/
theorem vx_catch {own name : String} {E : String} {ce : Cell} {q : Addr} (hown : s.vm.findClass own = some m.cls) (pre : List ExceptionTableEntry) (x : ExceptionTableEntry) (suf : List ExceptionTableEntry) (hsplit : c.exceptionTable.toList = pre ++ x :: suf)
    (hpass : ∀ z ∈ pre, covers z pc = false ∨ (z.catchType ≠ 0 ∧ ∃ nm : String, (Cond.classLink own z.catchType nm).before args s = true ∧ va_Nc E nm s)) (hx : covers x pc = true) (h0 : x.catchType ≠ 0)
    (hlink : (Cond.classLink own x.catchType name).before args s = true) (hcast : (Cond.castable E name).before args s = true) (hcell : H[q]? = some ce) (hv : ce.vm = .none) (hcl : s.vm.findClass E = some ce.cls)
    (kk : W p l e R s m args below meth c H locs cells slots Q (F0 m x.handlerPc ls [.ref q])) : vx_W p l e R s m args below meth c H locs cells slots Q (F0 m pc ls rest) q := by
  intro T hT X
  have hpl : e.platform.magicAccessors = ({} : Platform).magicAccessors := by rw [X.admits.platform]
  obtain ⟨c3, c4, hc3, hc4, hasg⟩ := Cond.castable_spec hcast
  cases Option.some.inj (hc3.symm.trans hcl)
  obtain ⟨c5, hc5, hcl5⟩ := Cond.classLink_spec hown hlink e.platform hpl
  cases Option.some.inj (hc4.symm.trans hc5)
  obtain ⟨vm', X', st⟩ := X.thenCaughtThrough q (g := F0 m pc ls rest) rfl (Steps.refl _) (by rw [hT]; exact hcell) (by rw [hv]; rfl) (by obtain ⟨k9, h9, -⟩ := Vm.findClass_spec hcl; exact ⟨k9, h9⟩) pre x suf hsplit
    (fun z hz => by
      rcases hpass z hz with h | ⟨hz0, nm, hl1, hn1⟩
      · exact Or.inl h
      · obtain ⟨c6, hc6, hcl6⟩ := Cond.classLink_spec hown hl1 e.platform hpl
        obtain ⟨a8, b8, h1, h2, h3⟩ := hn1
        cases Option.some.inj (h1.symm.trans hcl)
        cases Option.some.inj (h2.symm.trans hc6)
        exact Or.inr ⟨hz0, _, hcl6, h3⟩) hx (Or.inr ⟨h0, c4, hcl5, hasg⟩)
  obtain ⟨t, a1, b1⟩ := kk (T.setVm vm') hT X'
  exact ⟨t, st.trans a1, b1⟩
end Rows
section Ends
variable {p : Program} {l : Launch} {e : Env} {R : Room} {s : State} {m : MethodId} {args : Array Value} {below : List Frame} {meth : Method} {c : Code} {H : Heap} {locs : List Loc} {cells slots : Nat} {Q : State → Prop}
variable {mc ms : Nat} {free : Addr → Prop} {A0 A1 : Nat → Prop} {H0 : Heap} {a : Array Value} {ls : Array Slot} {st0 rest : List Value}
variable {Qc : Array Value → State → Outcome → State → Prop} {XC : String → State → State → Prop}
/-- what a body that may throw owes at its end -/
def vx_MQ (below : List Frame) (Qc : Array Value → State → Outcome → State → Prop) (XC : String → State → State → Prop) (a : Array Value) (s : State) (mc ms : Nat) (free : Addr → Prop) : State → Prop := fun t =>
  ∃ o, t.status = .running ∧ Ended t below o ∧ vx_Q Qc XC mc ms free a s o t
theorem vx_ret {g : JFrame} {mc ms : Nat} (k : W p l e R s m args below meth c H locs cells slots (MQ below Qc args s mc ms free) g) : W p l e R s m args below meth c H locs cells slots (vx_MQ below Qc XC args s mc ms free) g := by
  intro T hT X
  obtain ⟨t, a1, o, b1, b2, b3, b4⟩ := k T hT X
  exact ⟨t, a1, o, b1, b2, Or.inl ⟨b3, b4⟩⟩
/-- not caught here: it goes on to the caller -/
theorem vx_widen {g : JFrame} {q : Addr} {k n : Nat} (h1 : cells ≤ k) (h2 : slots ≤ n) (kk : vx_W p l e R s m args below meth c H locs k n Q g q) : vx_W p l e R s m args below meth c H locs cells slots Q g q := fun T hT X => kk T hT (stand_widen X h1 h2)
theorem vx_out {pc : Nat} {E : String} {ce : Cell} {q : Addr} {mc ms : Nat} (hout : ∀ x ∈ c.exceptionTable.toList, covers x pc = false) (hlocks : meth.locks = false) (hcell : H[q]? = some ce) (hv : ce.vm = .none) (hcl : s.vm.findClass E = some ce.cls)
    (hx : ∀ t : State, t.heap = H → s.vm.Alike t.vm → XC E s t) (hf : ∀ z ∈ locs, free z.base) (hc : cells ≤ mc) (hs : slots ≤ ms) :
    vx_W p l e R s m args below meth c H locs cells slots (vx_MQ below Qc XC args s mc ms free) (F0 m pc ls rest) q := by
  intro T hT X
  obtain ⟨st1, hrun, hend, hW, hsm⟩ := X.leaveThrown q (g := F0 m pc ls rest) rfl rfl rfl hout hlocks
  have hcell9 : (T.setFrames (.throwing q :: below)).heap[q]? = some ce := by
    show T.heap[q]? = some ce
    rw [hT]; exact hcell
  exact ⟨_, st1, .threw q, hrun, hend, Or.inr ⟨q, rfl, E, ce, locs, hx _ hT hW.alike, hcell9, hv, hcl, hW, hsm.mono hc hs, hf⟩⟩
theorem vx_frame {U : State} {k n : Nat} (h : s.sameButNew ({ U with vm := s.vm } : State) locs k n) : s.heap.size ≤ U.heap.size ∧ ∀ q : Nat, q < s.heap.size → (∀ z ∈ locs, z.base ≠ q) → U.heap[q]? = s.heap[q]? := by
  obtain ⟨-, h2, -, -, -, h6⟩ := h
  refine ⟨h2, fun q hq hz => ?_⟩
  obtain ⟨c9, e1, e2, e3, e4⟩ := h6 q _ (Array.getElem?_eq_getElem hq)
  have hs : c9.slots = (s.heap[q]).slots := Array.ext_getElem? fun i => e4 i fun hm => hz _ hm rfl
  have h9 : c9 = s.heap[q] := by
    rw [hs] at e2
    exact e2
  have e5 : U.heap[q]? = some c9 := e1
  rw [e5, h9, Array.getElem?_eq_getElem hq]
/-- the words of a throw but the four that speak of the heap -/
def vx_no (w : Cond) : Bool := decide (w ≠ .isRef (.static Bundle.tN "UNASSIGNED_STACK" Bundle.steD)) && decide (w ≠ .isRef (.static Bundle.tN "SUPPRESSED_SENTINEL" Bundle.listD)) && decide (w ≠ .laysStatic Bundle.tN "UNASSIGNED_STACK" Bundle.steD) && decide (w ≠ .laysStatic Bundle.tN "SUPPRESSED_SENTINEL" Bundle.listD)
def vx_at0 (own : String) (ic : Nat) (X : String) (names : List String) : List Cond := (Bundle.ownAtoms0 own ic X names).filter vx_no
def vx_atS (own : String) (ic : Nat) (X : String) (names : List String) : List Cond := (Bundle.ownAtoms own ic X names).filter vx_no
/-- a word that the tables alone decide, or a good one -/
def vx_ot (w : Cond) : Bool := w.onTables || goodWord w
theorem vx_ot_at {args a' : Array Value} {s U : State} {w : Cond} (hW : s.WarmedH U.vm) (hvm : s.vm = U.vm) (hg : vx_ot w = true) (h : w.before args s = true) : w.before a' U = true := by
  simp only [vx_ot, Bool.or_eq_true] at hg
  rcases hg with hg | hg
  · exact va_tabs hg hvm h
  · exact word_at hW (good_of_word hg) h
/-- a list's words: the good ones out of the method's own list, the others by premises of their own -/
theorem vx_hat {args : Array Value} {s : State} {L B : List Cond} (h1 : ∀ w ∈ L.filter goodWord, w.before args s = true) (h2 : ∀ w ∈ L.filter (fun w => !goodWord w), w ∈ B) (h3 : ∀ w ∈ B, w.before args s = true) : ∀ w ∈ L, w.before args s = true := by
  intro w hw
  by_cases g : goodWord w = true
  · exact h1 w (List.mem_filter.mpr ⟨hw, g⟩)
  · refine h3 w (h2 w (List.mem_filter.mpr ⟨hw, ?_⟩))
    show (!goodWord w) = true
    cases hgw : goodWord w
    · rfl
    · exact absurd hgw g
theorem vx_c {args : Array Value} {s : State} {w : Cond} {B : List Cond} (h : w.before args s = true) (t : ∀ w ∈ B, w.before args s = true) : ∀ w' ∈ w :: B, w'.before args s = true := fun w' h' => (List.mem_cons.mp h').elim (fun e => by rw [e]; exact h) (t w')
theorem vx_n {args : Array Value} {s : State} : ∀ w ∈ ([] : List Cond), w.before args s = true := fun _ h => nomatch h
theorem vx_own {args : Array Value} {s : State} {L : List Cond} (h1 : ∀ w ∈ L.filter vx_no, w.before args s = true)
    (hU : (Cond.isRef (.static Bundle.tN "UNASSIGNED_STACK" Bundle.steD)).before args s = true) (hN : (Cond.isRef (.static Bundle.tN "SUPPRESSED_SENTINEL" Bundle.listD)).before args s = true)
    (lU : (Cond.laysStatic Bundle.tN "UNASSIGNED_STACK" Bundle.steD).before args s = true) (lN : (Cond.laysStatic Bundle.tN "SUPPRESSED_SENTINEL" Bundle.listD).before args s = true) : ∀ w ∈ L, w.before args s = true := by
  intro w hw
  by_cases e1 : w = .isRef (.static Bundle.tN "UNASSIGNED_STACK" Bundle.steD)
  · rw [e1]; exact hU
  · by_cases e2 : w = .isRef (.static Bundle.tN "SUPPRESSED_SENTINEL" Bundle.listD)
    · rw [e2]; exact hN
    · by_cases e3 : w = .laysStatic Bundle.tN "UNASSIGNED_STACK" Bundle.steD
      · rw [e3]; exact lU
      · by_cases e4 : w = .laysStatic Bundle.tN "SUPPRESSED_SENTINEL" Bundle.listD
        · rw [e4]; exact lN
        · exact h1 w (List.mem_filter.mpr ⟨hw, by unfold vx_no; rw [decide_eq_true e1, decide_eq_true e2, decide_eq_true e3, decide_eq_true e4]; rfl⟩)
/-- where a static field lies, its class's statics cell in H -/
def vx_L (C n d : String) (A : Nat → Prop) (U : State) (H : Heap) : Prop := ∃ (c : ClassId) (k : Class) (i : Nat) (f : Field) (a : Nat) (cell : Cell), U.vm.findClass C = some c ∧ U.fieldFound? C n d = some (c, k, i, f) ∧ f.isStatic = true ∧ k.statics = some a ∧ H[a]? = some cell ∧ cell.vm.isStatics = true ∧ cell.cls = c ∧ f.slot < cell.slots.size ∧ k.staticTypes[f.slot]? = some f.type ∧ ¬ A a
theorem vx_L.moved {C n d : String} {A : Nat → Prop} {u U : State} {H : Heap} (hvm : u.vm.Alike U.vm) (h : vx_L C n d A u H) : vx_L C n d A U H := by
  obtain ⟨c, k, i, f, a, cell, h1, h2, h3, h4, h5, h6, h7, h8, h9, h10⟩ := h
  obtain ⟨k', hi', he⟩ := State.fieldFound?_setVm hvm h2
  exact ⟨c, k', i, f, a, cell, by rw [hvm.findClass]; exact h1, hi', h3, by rw [he]; exact h4, h5, h6, h7, h8, by rw [he]; exact h9, h10⟩
theorem vx_L.kept {C n d : String} {A : Nat → Prop} {U : State} {H H1 : Heap} (h : vx_L C n d A U H) (hq : ∀ a : Nat, a < H.size → ¬ A a → H1[a]? = H[a]?) : vx_L C n d A U H1 := by
  obtain ⟨c, k, i, f, a, cell, h1, h2, h3, h4, h5, h6, h7, h8, h9, h10⟩ := h
  exact ⟨c, k, i, f, a, cell, h1, h2, h3, h4, by rw [hq a (Array.getElem?_eq_some_iff.mp h5).1 h10]; exact h5, h6, h7, h8, h9, h10⟩
theorem vx_L.narrow {C n d : String} {A B : Nat → Prop} {U : State} {H : Heap} (h : vx_L C n d A U H) (hAB : ∀ q, B q → A q) : vx_L C n d B U H := by
  obtain ⟨c, k, i, f, a, cell, h1, h2, h3, h4, h5, h6, h7, h8, h9, h10⟩ := h
  exact ⟨c, k, i, f, a, cell, h1, h2, h3, h4, h5, h6, h7, h8, h9, fun z => h10 (hAB _ z)⟩
theorem vx_L.word {C n d : String} {A : Nat → Prop} {s : State} {args : Array Value} (h : vx_L C n d A s s.heap) : (Cond.laysStatic C n d).before args s = true := by
  obtain ⟨c, k, i, f, a, cell, h1, h2, h3, h4, h5, h6, h7, h8, h9, -⟩ := h
  show (Cond.laysStatic C n d).holds args s none s [] = true
  exact Cond.laysStatic_of h1 h2 h3 h4 h5 h6 h7 h8 h9
/-- .. and what it holds: null or some reference -/
def vx_Zq (C n d : String) (A : Nat → Prop) (U : State) (H : Heap) : Prop := va_Zq C n d A U H ∧ vx_L C n d A U H
theorem vx_Zq.moved {C n d : String} {A : Nat → Prop} {u U : State} {H : Heap} (hvm : u.vm.Alike U.vm) (h : vx_Zq C n d A u H) : vx_Zq C n d A U H := ⟨va_Zq.moved hvm h.1, vx_L.moved hvm h.2⟩
theorem vx_Zq.kept {C n d : String} {A : Nat → Prop} {U : State} {H H1 : Heap} (h : vx_Zq C n d A U H) (hq : ∀ a : Nat, a < H.size → ¬ A a → H1[a]? = H[a]?) : vx_Zq C n d A U H1 := ⟨va_Zq.kept h.1 hq, vx_L.kept h.2 hq⟩
theorem vx_Zq.narrow {C n d : String} {A B : Nat → Prop} {U : State} {H : Heap} (h : vx_Zq C n d A U H) (hAB : ∀ q, B q → A q) : vx_Zq C n d B U H := ⟨va_Zq.narrow h.1 hAB, vx_L.narrow h.2 hAB⟩
theorem vx_Zqof {args : Array Value} {s : State} {C n d : String} {A : Nat → Prop} (hl : (Cond.laysStatic C n d).before args s = true) (hini : (Cond.initialized C).before args s = true) (h : (Cond.isRef (.static C n d)).before args s = true) (hA : ∀ a : Nat, a < s.heap.size → ¬ A a) : vx_Zq C n d A s s.heap := by
  refine ⟨va_Zqof hl hini h hA, ?_⟩
  obtain ⟨c, k, i, f, a, cell, h1, h2, h3, h4, h5, h6, h7, h8, h9⟩ := Cond.laysStatic_spec hl
  exact ⟨c, k, i, f, a, cell, h1, h2, h3, h4, h5, h6, h7, h8, h9, hA a (Array.getElem?_eq_some_iff.mp h5).1⟩
theorem vx_isRef {C n d : String} {v : Value} {A : Nat → Prop} {s : State} {args : Array Value} (h : va_Z C n d v A s s.heap) (hv : v.isRef = true) : (Cond.isRef (.static C n d)).before args s = true := by
  obtain ⟨cf, kf, fi, f, a, cell, h1, h2, h3, h4, h5, h6, h7, -⟩ := h
  have he : (Term.static C n d).eval args s none [] s = some v := by
    simp [Term.eval, State.fieldNamed?, h1, h2, h4, h5, h6, h7]
  simp only [Cond.before, Cond.holds, Cond.value, he]
  cases v <;> simp_all [Value.isRef]
theorem vx_isRefq {C n d : String} {A : Nat → Prop} {s : State} {args : Array Value} (h : va_Zq C n d A s s.heap) : (Cond.isRef (.static C n d)).before args s = true := by
  rcases h with h | ⟨t, h⟩
  · exact vx_isRef h rfl
  · exact vx_isRef h rfl
/-- the same frame, seen from here: as if the method were called anew in this heap -/
theorem vx_rebase {T : State} (X : Stand p l e R s m args below meth c T locs cells slots) {R' : Room} (hf : R'.frames ≤ R.frames) (hl : R'.locals ≤ R.locals) (hc : cells + R'.cells ≤ R.cells) (hs : slots + R'.slots ≤ R.slots) :
    Stand p l e R' ((T.setVm s.vm).setFrames (.invoking m args :: below)) m args below meth c T [] 0 0 := by
  have htop : (T.setVm s.vm).topJava?.isSome := X.here.top
  have hF : ((T.setVm s.vm).setFrames (.invoking m args :: below)).frames = .invoking m args :: below := State.frames_setFrames _ (State.cur_lt_of_top htop)
  obtain ⟨g₀, hg0⟩ := Option.isSome_iff_exists.mp htop
  obtain ⟨r, hr⟩ := State.topJava?_eq_some.mp hg0
  have hl9 : e.platform.stackLimits (T.setVm s.vm).me = e.platform.stackLimits s.me := X.limits
  have hb9 : (T.setVm s.vm).me.stackBytes = s.me.stackBytes := X.bytes
  refine ⟨X.admits, X.cas, X.clock, hF, ?_, X.hears, X.method, X.code, X.here, X.tail, X.warmed, ?_, ?_, ?_⟩
  · have h := X.room
    have hU : ((T.setVm s.vm).setFrames (.invoking m args :: below)).localsInUse = s.localsInUse := by
      rw [State.localsInUse_invoking hF (meth := meth) (c := c) X.method X.code, State.localsInUse_invoking X.frames X.method X.code]
    simp only [State.hasRoom, Bool.and_eq_true, decide_eq_true_eq] at h ⊢
    obtain ⟨⟨⟨⟨h1, h2, h3, h4, h5, h6⟩, h7⟩, h8⟩, h9⟩ := h
    rw [X.frames, List.length_cons] at h2 h3
    have q1 := X.heapSize
    have q2 := X.used
    simp only [hF, hU, List.length_cons, State.stackLimits_setFrames, State.stackBytes_setFrames, hl9, hb9]
    refine ⟨⟨⟨⟨by omega, by omega, by omega, by omega, by omega, h6⟩, ?_⟩, ?_⟩, X.book⟩
    · show T.heap.size + R'.cells ≤ e.platform.maxCells
      omega
    · show T.slotsUsed + R'.slots ≤ e.platform.maxSlots
      omega
  · rw [State.stackLimits_setFrames]; rfl
  · rw [State.stackBytes_setFrames]; rfl
  · refine ⟨?_, Nat.le_refl _, Nat.le_refl _, ?_, ?_, fun a c9 h9 => ⟨c9, h9, rfl, rfl, fun _ _ => rfl⟩⟩
    · obtain ⟨t, ht, -⟩ := State.frames_cons hr
      show T.setVm s.vm = { ((T.setVm s.vm).setFrames (.invoking m args :: below)).setFrames (T.setVm s.vm).frames with heap := T.heap, slotsUsed := T.slotsUsed }
      rw [State.setFrames_setFrames, State.setFrames_self ht]
      rfl
    · show T.slotsUsed = T.slotsUsed + ((T.heap.toList.drop T.heap.size).map (·.slots.size)).sum
      rw [List.drop_eq_nil_of_le (Nat.le_of_eq Array.length_toList)]
      rfl
    · show ((T.heap.toList.drop T.heap.size).map (·.slots.size)).sum ≤ 0
      rw [List.drop_eq_nil_of_le (Nat.le_of_eq Array.length_toList)]
      exact Nat.le_refl _
/-- 'throw new E()': new; dup; invokespecial; athrow -/
theorem vx_throw0 {cc : ByteArray} {pc : Nat} (hexec : p.tables.exec = Jvm.exec) (hb : c.code = cc) (hl : l.stackTraces = false) {own cls : String} {names : List String} {ik ic mc ms : Nat} {A : Nat → Prop}
    (hown : s.vm.findClass own = some m.cls) (hcls : Bundle.fit cls = true) (hnames : ∀ n ∈ names, Bundle.fit n = true)
    (hk : (Cond.classLink own ik cls).before args s = true) (hini : (Cond.initialized cls).before args s = true) (hat : ∀ w ∈ vx_at0 own ic cls names, w.before args s = true)
    (hgood : ∀ w ∈ Cond.classLink own ik cls :: Cond.initialized cls :: vx_at0 own ic cls names, vx_ot w = true)
    (hU : vx_Zq Bundle.tN "UNASSIGNED_STACK" Bundle.steD A s s.heap) (hN : vx_Zq Bundle.tN "SUPPRESSED_SENTINEL" Bundle.listD A s s.heap) (hS : va_S A s.heap H locs) (hsize : ls.size = c.maxLocals)
    (d0 : decode cc pc = .ok (.new ik, 3)) (d3 : decode cc (pc + 3) = .ok (.dup, 1)) (d4 : decode cc (pc + 4) = .ok (.invokespecial ic, 3)) (d7 : decode cc (pc + 7) = .ok (.athrow, 1))
    (hout : ∀ x ∈ c.exceptionTable.toList, covers x (pc + 7) = false)
    (hRframes : names.length + 3 < R.frames) (hRlocals : (rest.map fun v => v.category).sum + (13 * (names.length + 1) + 42) ≤ R.locals) (hRcells : cells + 1 ≤ R.cells) (hRslots : slots + 6 ≤ R.slots) (hlocks : meth.locks = false)
    (hx : ∀ t : State, s.vm.Alike t.vm → H.size ≤ t.heap.size → (∀ q : Nat, q < H.size → t.heap[q]? = H[q]?) → XC cls s t)
    (hf : ∀ z ∈ locs, free z.base) (hc : cells + 1 ≤ mc) (hs : slots + 6 ≤ ms) :
    W p l e R s m args below meth c H locs cells slots (vx_MQ below Qc XC args s mc ms free) (F0 m pc ls rest) := by
  intro T hT X
  have htr : e.platform.stackTraces = false := (show e.platform.stackTraces = l.stackTraces by rw [X.admits.platform]).trans hl
  have Y := vx_rebase X (R' := { frames := R.frames, locals := R.locals, cells := 1, slots := 6 }) (Nat.le_refl _) (Nat.le_refl _) hRcells hRslots
  obtain ⟨s', hA⟩ : ∃ z, z = (T.setVm s.vm).setFrames (.invoking m args :: below) := ⟨_, rfl⟩
  rw [← hA] at Y
  have hvm : s'.vm = s.vm := by rw [hA]; rfl
  have hhp : s'.heap = H := by rw [hA]; exact hT
  have hW0 : s.WarmedH s'.vm := by rw [hvm]; exact State.WarmedH.refl s
  have hat' : ∀ w ∈ vx_at0 own ic cls names, w.before args s' = true := fun w hw => vx_ot_at hW0 hvm.symm (hgood w (List.mem_cons_of_mem _ (List.mem_cons_of_mem _ hw))) (hat w hw)
  have hk' : (Cond.classLink own ik cls).before args s' = true := vx_ot_at hW0 hvm.symm (hgood _ List.mem_cons_self) hk
  have hini' : (Cond.initialized cls).before args s' = true := vx_ot_at hW0 hvm.symm (hgood _ (List.mem_cons_of_mem _ List.mem_cons_self)) hini
  have hU' : vx_Zq Bundle.tN "UNASSIGNED_STACK" Bundle.steD A s' s'.heap := by rw [hhp]; exact vx_Zq.moved hW0.alike (hU.kept hS.2.1)
  have hN' : vx_Zq Bundle.tN "SUPPRESSED_SENTINEL" Bundle.listD A s' s'.heap := by rw [hhp]; exact vx_Zq.moved hW0.alike (hN.kept hS.2.1)
  have h : ∀ w ∈ Bundle.ownAtoms0 own ic cls names, w.before args s' = true := vx_own hat' (vx_isRefq hU'.1) (vx_isRefq hN'.1) hU'.2.word hN'.2.word
  have hown' : s'.vm.findClass own = some m.cls := by rw [hvm]; exact hown
  have hins : (Cond.instantiable cls 6).before args s' = true := h _ (by simp [Bundle.ownAtoms0])
  obtain ⟨vm₁, cX, kX, hfX, hkX, -, -, X₁, st1⟩ := Y.newCold hexec (own := own) (C := cls) (index := ik) (n := 6) hown' hk' hins hini'
    (g := F0 m pc ls rest) rfl (by rw [hb]; exact d0) (Nat.le_refl _) (Nat.le_refl _)
  generalize hT1 : (T.setVm vm₁).pushCell { cls := cX, slots := kX.instanceTypes.map defaultValue, vm := .none } = T1 at X₁ st1
  have hcat : (Value.ref T.heap.size).category = 1 := rfl
  have hcellA : T1.heap[T.heap.size]? = some (freshCell cX kX) := by rw [← hT1]; exact State.heap_pushCell_size _ _
  have d3' : decode c.code (pc + 3) = .ok (.dup, 1) := by rw [hb]; exact d3
  obtain ⟨U, hsteps, hrun, hend, hW, hsame, ce, hce, hO⟩ := X₁.ctorThrow0 hexec htr (own := own) (cls := cls) (names := names) (ic := ic) hown' hcls hnames h (fun x hx => nomatch hx) hfX hkX hcellA (by rw [hhp, hT]; exact Nat.le_refl _)
    (g := { method := m, pc := pc + 4, locals := ls, stack := .ref T.heap.size :: .ref T.heap.size :: rest, locked := none }) rfl hsize rfl rfl (rest := rest) rfl
    (by rw [hb]; exact d4) (by rw [hb]; exact d7) hout hRframes (by simp only [List.map_cons, List.sum_cons, hcat]; omega) hlocks
  obtain ⟨f1, f2⟩ := vx_frame hsame
  rw [hhp] at f1 f2
  have hWs : s.WarmedH U.vm := State.WarmedH.trans hW0 hW
  have hcl : s.vm.findClass cls = some ce.cls := by
    have h9 := hO.cls
    rw [hvm] at h9
    exact h9
  have hall : s.sameButNew ({ U with vm := s.vm } : State) locs mc ms := by
    subst hA
    obtain ⟨e1, e2⟩ := hsame
    rw [State.setFrames_setFrames] at e1
    have h2 : (T.setVm s.vm).sameButNew ({ U with vm := s.vm } : State) [] (0 + 1) (0 + 6) := ⟨e1, e2⟩
    have h3 := X.same.trans h2
    rw [List.append_nil] at h3
    exact h3.mono hc hs
  refine ⟨U, ?_, .threw T.heap.size, hrun, hend, Or.inr ⟨T.heap.size, rfl, cls, ce, locs, hx U hWs.alike f1 (fun q hq => f2 q hq (fun z hz => nomatch hz)), hce, hO.vm, hcl, hWs, hall, hf⟩⟩
  refine st1 _ ?_
  show Steps p.tables e below (T1.setTop { method := m, pc := pc + 3, locals := ls, stack := .ref T.heap.size :: rest, locked := none }) _
  jvm_step X₁.here [X₁.here.top, hexec, d3', Value.category]
  exact hsteps
/-- 'throw new E("text")': new; dup; ldc; invokespecial; athrow -/
theorem vx_throwS {cc : ByteArray} {pc : Nat} (hexec : p.tables.exec = Jvm.exec) (hb : c.code = cc) (hl : l.stackTraces = false) {own cls text : String} {names : List String} {ik is ic mc ms sa : Nat} {A : Nat → Prop}
    (hown : s.vm.findClass own = some m.cls) (hcls : Bundle.fit cls = true) (hnames : ∀ n ∈ names, Bundle.fit n = true)
    (hk : (Cond.classLink own ik cls).before args s = true) (hini : (Cond.initialized cls).before args s = true) (hstr : vk_R own is text sa s) (hat : ∀ w ∈ vx_atS own ic cls names, w.before args s = true)
    (hgood : ∀ w ∈ Cond.classLink own ik cls :: Cond.initialized cls :: vx_atS own ic cls names, vx_ot w = true)
    (hU : vx_Zq Bundle.tN "UNASSIGNED_STACK" Bundle.steD A s s.heap) (hN : vx_Zq Bundle.tN "SUPPRESSED_SENTINEL" Bundle.listD A s s.heap) (hS : va_S A s.heap H locs) (hsize : ls.size = c.maxLocals)
    (d0 : decode cc pc = .ok (.new ik, 3)) (d3 : decode cc (pc + 3) = .ok (.dup, 1)) (d4 : decode cc (pc + 4) = .ok (.ldc is, 2)) (d6 : decode cc (pc + 6) = .ok (.invokespecial ic, 3)) (d9 : decode cc (pc + 9) = .ok (.athrow, 1))
    (hout : ∀ x ∈ c.exceptionTable.toList, covers x (pc + 9) = false)
    (hRframes : names.length + 3 < R.frames) (hRlocals : (rest.map fun v => v.category).sum + (13 * (names.length + 1) + 43) ≤ R.locals) (hRcells : cells + 1 ≤ R.cells) (hRslots : slots + 6 ≤ R.slots) (hlocks : meth.locks = false)
    (hx : ∀ t : State, s.vm.Alike t.vm → H.size ≤ t.heap.size → (∀ q : Nat, q < H.size → t.heap[q]? = H[q]?) → XC cls s t)
    (hf : ∀ z ∈ locs, free z.base) (hc : cells + 1 ≤ mc) (hs : slots + 6 ≤ ms) :
    W p l e R s m args below meth c H locs cells slots (vx_MQ below Qc XC args s mc ms free) (F0 m pc ls rest) := by
  intro T hT X
  have htr : e.platform.stackTraces = false := (show e.platform.stackTraces = l.stackTraces by rw [X.admits.platform]).trans hl
  have Y := vx_rebase X (R' := { frames := R.frames, locals := R.locals, cells := 1, slots := 6 }) (Nat.le_refl _) (Nat.le_refl _) hRcells hRslots
  obtain ⟨s', hA⟩ : ∃ z, z = (T.setVm s.vm).setFrames (.invoking m args :: below) := ⟨_, rfl⟩
  rw [← hA] at Y
  have hvm : s'.vm = s.vm := by rw [hA]; rfl
  have hhp : s'.heap = H := by rw [hA]; exact hT
  have hW0 : s.WarmedH s'.vm := by rw [hvm]; exact State.WarmedH.refl s
  have hat' : ∀ w ∈ vx_atS own ic cls names, w.before args s' = true := fun w hw => vx_ot_at hW0 hvm.symm (hgood w (List.mem_cons_of_mem _ (List.mem_cons_of_mem _ hw))) (hat w hw)
  have hk' : (Cond.classLink own ik cls).before args s' = true := vx_ot_at hW0 hvm.symm (hgood _ List.mem_cons_self) hk
  have hini' : (Cond.initialized cls).before args s' = true := vx_ot_at hW0 hvm.symm (hgood _ (List.mem_cons_of_mem _ List.mem_cons_self)) hini
  have hU' : vx_Zq Bundle.tN "UNASSIGNED_STACK" Bundle.steD A s' s'.heap := by rw [hhp]; exact vx_Zq.moved hW0.alike (hU.kept hS.2.1)
  have hN' : vx_Zq Bundle.tN "SUPPRESSED_SENTINEL" Bundle.listD A s' s'.heap := by rw [hhp]; exact vx_Zq.moved hW0.alike (hN.kept hS.2.1)
  have h : ∀ w ∈ Bundle.ownAtoms own ic cls names, w.before args s' = true := vx_own hat' (vx_isRefq hU'.1) (vx_isRefq hN'.1) hU'.2.word hN'.2.word
  have hown' : s'.vm.findClass own = some m.cls := by rw [hvm]; exact hown
  have hins : (Cond.instantiable cls 6).before args s' = true := h _ (by simp [Bundle.ownAtoms])
  obtain ⟨vm₁, cX, kX, hfX, hkX, -, -, X₁, st1⟩ := Y.newCold hexec (own := own) (C := cls) (index := ik) (n := 6) hown' hk' hins hini'
    (g := F0 m pc ls rest) rfl (by rw [hb]; exact d0) (Nat.le_refl _) (Nat.le_refl _)
  generalize hT1 : (T.setVm vm₁).pushCell { cls := cX, slots := kX.instanceTypes.map defaultValue, vm := .none } = T1 at X₁ st1
  have hcat : (Value.ref T.heap.size).category = 1 := rfl
  have hcellA : T1.heap[T.heap.size]? = some (freshCell cX kX) := by rw [← hT1]; exact State.heap_pushCell_size _ _
  have d3' : decode c.code (pc + 3) = .ok (.dup, 1) := by rw [hb]; exact d3
  have d4' : decode c.code (pc + 4) = .ok (.ldc is, 2) := by rw [hb]; exact d4
  have hstr' : vk_R own is text sa s' := vk_R.warm hW0 hstr
  obtain ⟨U, hsteps, hrun, hend, hW, hsame, ce, hce, hO⟩ := X₁.ctorThrowS hexec htr (own := own) (cls := cls) (names := names) (ic := ic) hown' hcls hnames h (fun x hx => nomatch hx) hfX hkX hcellA (by rw [hhp, hT]; exact Nat.le_refl _) (msg := .ref sa) rfl
    (g := { method := m, pc := pc + 6, locals := ls, stack := .ref sa :: .ref T.heap.size :: .ref T.heap.size :: rest, locked := none }) rfl hsize rfl rfl (rest := rest) rfl
    (by rw [hb]; exact d6) (by rw [hb]; exact d9) hout hRframes (by simp only [List.map_cons, List.sum_cons, hcat]; omega) hlocks
  obtain ⟨f1, f2⟩ := vx_frame hsame
  rw [hhp] at f1 f2
  have hWs : s.WarmedH U.vm := State.WarmedH.trans hW0 hW
  have hcl : s.vm.findClass cls = some ce.cls := by
    have h9 := hO.cls
    rw [hvm] at h9
    exact h9
  have hall : s.sameButNew ({ U with vm := s.vm } : State) locs mc ms := by
    subst hA
    obtain ⟨e1, e2⟩ := hsame
    rw [State.setFrames_setFrames] at e1
    have h2 : (T.setVm s.vm).sameButNew ({ U with vm := s.vm } : State) [] (0 + 1) (0 + 6) := ⟨e1, e2⟩
    have h3 := X.same.trans h2
    rw [List.append_nil] at h3
    exact h3.mono hc hs
  refine ⟨U, ?_, .threw T.heap.size, hrun, hend, Or.inr ⟨T.heap.size, rfl, cls, ce, locs, hx U hWs.alike f1 (fun q hq => f2 q hq (fun z hz => nomatch hz)), hce, hO.vm, hcl, hWs, hall, hf⟩⟩
  refine st1 _ ?_
  show Steps p.tables e below (T1.setTop { method := m, pc := pc + 3, locals := ls, stack := .ref T.heap.size :: rest, locked := none }) _
  jvm_step X₁.here [X₁.here.top, hexec, d3', Value.category]
  exact X₁.ldcString hexec (own := own) (text := text) (index := is) (a := sa) hown' hstr'.1 hstr'.2
    (g := { method := m, pc := pc + 4, locals := ls, stack := .ref T.heap.size :: .ref T.heap.size :: rest, locked := none }) rfl d4' _ hsteps
/-- 'throw new E("text")', the text by a wide index -/
theorem vx_throwSW {cc : ByteArray} {pc : Nat} (hexec : p.tables.exec = Jvm.exec) (hb : c.code = cc) (hl : l.stackTraces = false) {own cls text : String} {names : List String} {ik is ic mc ms sa : Nat} {A : Nat → Prop}
    (hown : s.vm.findClass own = some m.cls) (hcls : Bundle.fit cls = true) (hnames : ∀ n ∈ names, Bundle.fit n = true)
    (hk : (Cond.classLink own ik cls).before args s = true) (hini : (Cond.initialized cls).before args s = true) (hstr : vk_R own is text sa s) (hat : ∀ w ∈ vx_atS own ic cls names, w.before args s = true)
    (hgood : ∀ w ∈ Cond.classLink own ik cls :: Cond.initialized cls :: vx_atS own ic cls names, vx_ot w = true)
    (hU : vx_Zq Bundle.tN "UNASSIGNED_STACK" Bundle.steD A s s.heap) (hN : vx_Zq Bundle.tN "SUPPRESSED_SENTINEL" Bundle.listD A s s.heap) (hS : va_S A s.heap H locs) (hsize : ls.size = c.maxLocals)
    (d0 : decode cc pc = .ok (.new ik, 3)) (d3 : decode cc (pc + 3) = .ok (.dup, 1)) (d4 : decode cc (pc + 4) = .ok (.ldc_w is, 3)) (d7 : decode cc (pc + 7) = .ok (.invokespecial ic, 3)) (d10 : decode cc (pc + 10) = .ok (.athrow, 1))
    (hout : ∀ x ∈ c.exceptionTable.toList, covers x (pc + 10) = false)
    (hRframes : names.length + 3 < R.frames) (hRlocals : (rest.map fun v => v.category).sum + (13 * (names.length + 1) + 43) ≤ R.locals) (hRcells : cells + 1 ≤ R.cells) (hRslots : slots + 6 ≤ R.slots) (hlocks : meth.locks = false)
    (hx : ∀ t : State, s.vm.Alike t.vm → H.size ≤ t.heap.size → (∀ q : Nat, q < H.size → t.heap[q]? = H[q]?) → XC cls s t)
    (hf : ∀ z ∈ locs, free z.base) (hc : cells + 1 ≤ mc) (hs : slots + 6 ≤ ms) :
    W p l e R s m args below meth c H locs cells slots (vx_MQ below Qc XC args s mc ms free) (F0 m pc ls rest) := by
  intro T hT X
  have htr : e.platform.stackTraces = false := (show e.platform.stackTraces = l.stackTraces by rw [X.admits.platform]).trans hl
  have Y := vx_rebase X (R' := { frames := R.frames, locals := R.locals, cells := 1, slots := 6 }) (Nat.le_refl _) (Nat.le_refl _) hRcells hRslots
  obtain ⟨s', hA⟩ : ∃ z, z = (T.setVm s.vm).setFrames (.invoking m args :: below) := ⟨_, rfl⟩
  rw [← hA] at Y
  have hvm : s'.vm = s.vm := by rw [hA]; rfl
  have hhp : s'.heap = H := by rw [hA]; exact hT
  have hW0 : s.WarmedH s'.vm := by rw [hvm]; exact State.WarmedH.refl s
  have hat' : ∀ w ∈ vx_atS own ic cls names, w.before args s' = true := fun w hw => vx_ot_at hW0 hvm.symm (hgood w (List.mem_cons_of_mem _ (List.mem_cons_of_mem _ hw))) (hat w hw)
  have hk' : (Cond.classLink own ik cls).before args s' = true := vx_ot_at hW0 hvm.symm (hgood _ List.mem_cons_self) hk
  have hini' : (Cond.initialized cls).before args s' = true := vx_ot_at hW0 hvm.symm (hgood _ (List.mem_cons_of_mem _ List.mem_cons_self)) hini
  have hU' : vx_Zq Bundle.tN "UNASSIGNED_STACK" Bundle.steD A s' s'.heap := by rw [hhp]; exact vx_Zq.moved hW0.alike (hU.kept hS.2.1)
  have hN' : vx_Zq Bundle.tN "SUPPRESSED_SENTINEL" Bundle.listD A s' s'.heap := by rw [hhp]; exact vx_Zq.moved hW0.alike (hN.kept hS.2.1)
  have h : ∀ w ∈ Bundle.ownAtoms own ic cls names, w.before args s' = true := vx_own hat' (vx_isRefq hU'.1) (vx_isRefq hN'.1) hU'.2.word hN'.2.word
  have hown' : s'.vm.findClass own = some m.cls := by rw [hvm]; exact hown
  have hins : (Cond.instantiable cls 6).before args s' = true := h _ (by simp [Bundle.ownAtoms])
  obtain ⟨vm₁, cX, kX, hfX, hkX, -, -, X₁, st1⟩ := Y.newCold hexec (own := own) (C := cls) (index := ik) (n := 6) hown' hk' hins hini'
    (g := F0 m pc ls rest) rfl (by rw [hb]; exact d0) (Nat.le_refl _) (Nat.le_refl _)
  generalize hT1 : (T.setVm vm₁).pushCell { cls := cX, slots := kX.instanceTypes.map defaultValue, vm := .none } = T1 at X₁ st1
  have hcat : (Value.ref T.heap.size).category = 1 := rfl
  have hcellA : T1.heap[T.heap.size]? = some (freshCell cX kX) := by rw [← hT1]; exact State.heap_pushCell_size _ _
  have d3' : decode c.code (pc + 3) = .ok (.dup, 1) := by rw [hb]; exact d3
  have d4' : decode c.code (pc + 4) = .ok (.ldc_w is, 3) := by rw [hb]; exact d4
  have hstr' : vk_R own is text sa s' := vk_R.warm hW0 hstr
  obtain ⟨U, hsteps, hrun, hend, hW, hsame, ce, hce, hO⟩ := X₁.ctorThrowS hexec htr (own := own) (cls := cls) (names := names) (ic := ic) hown' hcls hnames h (fun x hx => nomatch hx) hfX hkX hcellA (by rw [hhp, hT]; exact Nat.le_refl _) (msg := .ref sa) rfl
    (g := { method := m, pc := pc + 7, locals := ls, stack := .ref sa :: .ref T.heap.size :: .ref T.heap.size :: rest, locked := none }) rfl hsize rfl rfl (rest := rest) rfl
    (by rw [hb]; exact d7) (by rw [hb]; exact d10) hout hRframes (by simp only [List.map_cons, List.sum_cons, hcat]; omega) hlocks
  obtain ⟨f1, f2⟩ := vx_frame hsame
  rw [hhp] at f1 f2
  have hWs : s.WarmedH U.vm := State.WarmedH.trans hW0 hW
  have hcl : s.vm.findClass cls = some ce.cls := by
    have h9 := hO.cls
    rw [hvm] at h9
    exact h9
  have hall : s.sameButNew ({ U with vm := s.vm } : State) locs mc ms := by
    subst hA
    obtain ⟨e1, e2⟩ := hsame
    rw [State.setFrames_setFrames] at e1
    have h2 : (T.setVm s.vm).sameButNew ({ U with vm := s.vm } : State) [] (0 + 1) (0 + 6) := ⟨e1, e2⟩
    have h3 := X.same.trans h2
    rw [List.append_nil] at h3
    exact h3.mono hc hs
  refine ⟨U, ?_, .threw T.heap.size, hrun, hend, Or.inr ⟨T.heap.size, rfl, cls, ce, locs, hx U hWs.alike f1 (fun q hq => f2 q hq (fun z hz => nomatch hz)), hce, hO.vm, hcl, hWs, hall, hf⟩⟩
  refine st1 _ ?_
  show Steps p.tables e below (T1.setTop { method := m, pc := pc + 3, locals := ls, stack := .ref T.heap.size :: rest, locked := none }) _
  jvm_step X₁.here [X₁.here.top, hexec, d3', Value.category]
  exact X₁.ldcStringW hexec (own := own) (text := text) (index := is) (a := sa) hown' hstr'.1 hstr'.2
    (g := { method := m, pc := pc + 4, locals := ls, stack := .ref T.heap.size :: .ref T.heap.size :: rest, locked := none }) rfl d4' _ hsteps
end Ends
section Bodies
variable {l : Launch}
theorem vx_ofW {y : MethodName} {ws ws' : List Cond} {rm : Room} {Pc : Array Value → State → Prop} {Qc : Array Value → State → Outcome → State → Prop} {XC : String → State → State → Prop} {mc ms : Nat} {free : Addr → Prop} {cc : ByteArray} {maxL : Nat} {ret : Option FieldType}
    (hy : plainName y.cls = true) (hw : ws = Cond.code y cc maxL ret :: ws')
    (body : ∀ p e s m args below meth c s₁, BodyLoose p l y (headSpec ws rm) cc maxL ret e s m args below meth c s₁ → c.maxLocals = maxL → (∀ x ∈ c.exceptionTable.toList, False) → Pc args s →
      W p l e (headSpec ws rm).room s m args below meth c s.heap [] 0 0 (vx_MQ below Qc XC args s mc ms free) (entryFrame m args maxL)) : vx_Met l y ws rm Pc Qc XC mc ms free := by
  refine MetFree.of_bodyS (code := cc) (maxLocals := maxL) (ret := ret) hy ?_ ?_
  · intro args s m h hn
    obtain ⟨meth, c, h1, h2, h3, h4, h5, h6, -, -⟩ := Cond.code_spec hn (atoms_spec (ws := ws) h _ (by rw [hw]; exact List.mem_cons_self))
    exact ⟨meth, c, h1, h2, h3, h4, h5, h6⟩
  · intro p e s m args below meth c s₁ B hml hP _
    have hh0 : s₁.heap = s.heap := by rw [B.state]; rfl
    have ht : ∀ x ∈ c.exceptionTable.toList, False := by
      obtain ⟨meth9, c9, h1, h2, -, -, -, -, h7, -⟩ := Cond.code_spec B.named (atoms_spec (ws := ws) B.pre _ (by rw [hw]; exact List.mem_cons_self))
      cases Option.some.inj (h1.symm.trans B.method)
      cases Option.some.inj (h2.symm.trans (Stand.of_body B).code)
      intro x hx
      rw [Array.isEmpty_iff.mp h7] at hx
      cases hx
    obtain ⟨t, a1, o, b1, b2, b3⟩ := body p e s m args below meth c s₁ B hml ht hP s₁ hh0 (Stand.of_body B)
    exact ⟨t, o, a1, b1, b2, b3⟩
/-- the table of a body with handlers -/
theorem vx_table {p : Program} {x y : MethodName} {S : Spec} {cc bytes : ByteArray} {maxL maxL' : Nat} {ret ret' : Option FieldType} {e : Env} {s s₁ : State} {m : MethodId} {args : Array Value} {below : List Frame} {meth : Method} {c : Code} {hh : List (Nat × Nat × Nat × Nat)}
    (B : BodyLoose p l y S cc maxL ret e s m args below meth c s₁) (h : (Cond.codeWith y bytes maxL' ret' hh).before args s = true) : c.exceptionTable.toList = tableOf hh := by
  obtain ⟨m9, meth9, c9, hn9, h1, h2, -, -, h6, -⟩ := Cond.codeWith_spec h
  cases Option.some.inj (hn9.symm.trans B.named)
  cases Option.some.inj (h1.symm.trans B.method)
  cases Option.some.inj (h2.symm.trans (Stand.of_body B).code)
  rw [← h6, table_eq]
end Bodies
end VXA
/-! ===== END ===== -/
/-! ===== BEGIN a static call of a method with an exception table ===== -/
section VXS
variable {p : Program} {l : Launch} {e : Env} {R : Room} {s : State} {m : MethodId} {args : Array Value} {below : List Frame} {meth : Method} {c : Code} {T : State} {H : Heap} {locs : List Loc} {cells slots : Nat}
abbrev vx_CSW (R : Room) (s : State) (args : Array Value) (own : String) (index : Nat) (y : MethodName) (bytes : ByteArray) (maxL : Nat) (ret : Option FieldType) (hh : List (Nat × Nat × Nat × Nat)) (ws : List Cond) (rm : Room) (mc ms n : Nat) : Prop :=
  (rm.cells = mc ∧ rm.slots = ms ∧ rm.frames + 1 ≤ R.frames ∧ 8 + (maxL + 11) + rm.locals ≤ R.locals ∧ (∀ w ∈ ws, ∀ (a' : Array Value) (U : State), s.WarmedH U.vm → w.before a' U = true) ∧ Cond.codeWith y bytes maxL ret hh ∈ ws) ∧
  (Cond.codeWith y bytes maxL ret hh).before args s = true ∧ (Cond.initialized y.cls).before args s = true ∧ (y.cls ≠ "java/lang/invoke/MethodHandle" ∧ y.cls ≠ "java/lang/invoke/VarHandle") ∧
  (∀ sig, parseMethodDescriptor y.desc = some sig → n = sig.parameters.length) ∧ (Cond.methodLink own index y).before args s = true ∧ (Cond.static y).before args s = true
theorem vx_cwSW {own : String} {index maxL mc ms : Nat} {y : MethodName} {bytes : ByteArray} {ret : Option FieldType} {hh : List (Nat × Nat × Nat × Nat)} {Ts ws ws' : List Cond} {rm : Room} (n : Nat) (ht : ∀ w ∈ Ts, w.before args s = true) (hT : GoodIn Ts (va_wsS own index y ws)) (hw : ws = Cond.codeWith y bytes maxL ret hh :: ws') (hrc : rm.cells = mc) (hrs : rm.slots = ms)
    (hd : y.cls ≠ "java/lang/invoke/MethodHandle" ∧ y.cls ≠ "java/lang/invoke/VarHandle" ∧ (parseMethodDescriptor y.desc).map (fun d => d.parameters.length) = some n) (hR : rm.frames + 1 ≤ R.frames ∧ 8 + (maxL + 11) + rm.locals ≤ R.locals) :
    vx_CSW R s args own index y bytes maxL ret hh ws rm mc ms n := by
  have ok : ∀ w ∈ va_wsS own index y ws, w.before args s = true := fun w h => ht w (hT w h).1
  have hG : GoodIn Ts ws := fun w h => hT w (by unfold va_wsS; exact List.mem_append_right _ h)
  have hc : Cond.codeWith y bytes maxL ret hh ∈ ws := by rw [hw]; exact List.mem_cons_self
  refine ⟨⟨hrc, hrs, hR.1, hR.2, pay_in ht hG, hc⟩, ht _ (hG _ hc).1, ok _ (by simp [va_wsS]), ⟨hd.1, hd.2.1⟩, fun sig h => ?_, ok _ (by simp [va_wsS]), ok _ (by simp [va_wsS])⟩
  have h2 := hd.2.2
  rw [h] at h2
  exact (Option.some.inj h2).symm
theorem vx_callSW (X : Stand p l e R s m args below meth c T locs cells slots) (hexec : p.tables.exec = Jvm.exec) {own : String} {index : Nat} {y : MethodName} {bytes : ByteArray} {maxL : Nat} {ret : Option FieldType} {hh : List (Nat × Nat × Nat × Nat)}
    (hown : s.vm.findClass own = some m.cls) (hlink : (Cond.methodLink own index y).before args s = true) (hstat : (Cond.static y).before args s = true) (hinit : (Cond.initialized y.cls).before args s = true)
    (hcode : (Cond.codeWith y bytes maxL ret hh).before args s = true) (hy : y.cls ≠ "java/lang/invoke/MethodHandle" ∧ y.cls ≠ "java/lang/invoke/VarHandle")
    {W9 : Nat} {Pre : Pt → Array Value → Prop} {Post : Pt → Array Value → Option Value → Pt → Prop} (hK : Back l R p e below s args y 3 W9 Pre Post)
    {g : JFrame} (hg : g.method = m) (hsize : g.locals.size = c.maxLocals) {argsL rest : List Value} (hlen : ∀ sig, parseMethodDescriptor y.desc = some sig → argsL.length = sig.parameters.length)
    (hstack : g.stack = argsL.reverse ++ rest) (hW : 2 * g.monitorRoom + (rest.map fun v => v.category).sum ≤ W9) (hdg : decode c.code g.pc = .ok (.invokestatic index, 3))
    (hpre : ∀ vm₁, s.WarmedH vm₁ → Pre ⟨T.setVm vm₁, locs, cells, slots⟩ argsL.toArray) :
    ∃ (v : Option Value) (vm₁ : Vm) (B : Pt), s.WarmedH vm₁ ∧ Stand p l e R s m args below meth c B.U B.locs B.cells B.slots ∧ Post ⟨T.setVm vm₁, locs, cells, slots⟩ argsL.toArray v B ∧
      ∀ target, Steps p.tables e below (B.U.setTop { g with pc := g.pc + 3, stack := v.toList ++ rest }) target → Steps p.tables e below (T.setTop g) target := by
  obtain ⟨mk, methM, cM, hnamed, hmethM, -, -, -, -, -, -, hsigM⟩ := Cond.codeWith_spec hcode
  have hstatic : methM.isStatic = true := Cond.static_spec hnamed hmethM hstat
  obtain ⟨kP, hkP, -⟩ := className_of_methodNamed hnamed
  have hinitP : kP.init = .initialized := Cond.initialized_spec (findClass_of_methodNamed hnamed) hkP hinit
  obtain ⟨vm₁, X₁, hstep₁⟩ := X.invokestatic hexec hown hlink hnamed hmethM hstatic hkP hinitP hy (g := g) hg (argsL := argsL) (rest := rest) (hlen _ hsigM) hstack hdg
  obtain ⟨v, B, X', hpost, hsteps⟩ := hK m meth c ⟨T.setVm vm₁, locs, cells, slots⟩ { g with stack := rest } (.invokestatic index) mk argsL.toArray X₁ hg hsize hdg hW (X₁.named hnamed) (hpre vm₁ X₁.warmed)
  exact ⟨v, vm₁, B, X₁.warmed, X', hpost, fun target h => hstep₁ _ fun acts => by rw [doInvoke_state]; exact hsteps.trans h⟩
theorem vx_runSW {y : MethodName} {bytes cc : ByteArray} {maxL nL mc ms n index : Nat} {ret : Option FieldType} {hh : List (Nat × Nat × Nat × Nat)} {ws : List Cond} {rm : Room} {Pc : Array Value → State → Prop} {Qc : Array Value → State → Outcome → State → Prop} {free : Addr → Prop} {Ts : List Cond} {own : String} {As rest : List Value} {g : JFrame}
    (S : CallFix p m c cc nL s args Ts own) (hM : Met l y ws rm Pc Qc mc ms free) (cw : vx_CSW R s args own index y bytes maxL ret hh ws rm mc ms n) (hp : PreS s H Pc As)
    (hg : g.method = m) (hn : As.length = n) (hsize : g.locals.size = nL) (hstack : g.stack = As.reverse ++ rest) (hW : 2 * g.monitorRoom + (rest.map fun v => v.category).sum ≤ 8) (hdg : decode cc g.pc = .ok (.invokestatic index, 3)) (hf : cells + mc ≤ R.cells ∧ slots + ms ≤ R.slots) :
    va_Run p l e R s m args below meth c H locs cells slots mc ms g rest (Qc As.toArray) (free) := by
  obtain ⟨⟨hrc, hrs, hfr, hlo, hws, hcw⟩, hcode, hini, hy, hlen, hl, hstt⟩ := cw
  have hK : Back l R p e below s args y 3 8 (PreOf R mc ms Pc) (PostOf Qc mc ms free) := va_backW (hh := hh) (bytes := bytes) (maxL := maxL) (ret := ret) hM hp.1 hrc hrs hfr hlo hws hcw (fun a' U hW => word_at hW (Or.inl (by first | rfl | simp [Cond.onTables, Cond.keeps, Cond.steady])) hini)
  obtain ⟨hx, hb, hml, ho, -⟩ := S
  intro T hT X
  obtain ⟨v, vm₁, ⟨U', l2, c2, s2⟩, hW₁, X', ⟨g', mk, t, L, e1, e2, hq, h1, hL, h2, h3⟩, st⟩ := vx_callSW X hx (hh := hh) (bytes := bytes) (maxL := maxL) (ret := ret) ho hl hstt hini hcode hy hK hg (hsize.trans hml.symm) (argsL := As) (rest := rest) (fun sig h => hn.trans (hlen sig h)) hstack hW (by rw [hb]; exact hdg)
    (fun vm₁ hW₁ => ⟨hf.1, hf.2, hp.2 (T.setVm vm₁) hT hW₁⟩)
  dsimp only [Pt.U, Pt.locs, Pt.cells, Pt.slots] at X' e1 e2 h1 h2 h3 st
  subst h1; subst h2; subst h3
  exact ⟨v, (T.setVm vm₁).calling g' mk As.toArray, t, U', L, hT, X', hL, e1, e2, hq, st⟩
/-- not caught here, past rows that name other classes: it goes on to the caller -/
theorem vx_outP {p : Program} {l : Launch} {e : Env} {R : Room} {s : State} {m : MethodId} {args : Array Value} {below : List Frame} {meth : Method} {c : Code} {H : Heap} {locs : List Loc} {cells slots : Nat} {free : Addr → Prop} {ls : Array Slot} {rest : List Value} {Qc : Array Value → State → Outcome → State → Prop} {XC : String → State → State → Prop}
    {pc : Nat} {own E : String} {ce : Cell} {q : Addr} {mc ms : Nat} (hown : s.vm.findClass own = some m.cls) (hlocks : meth.locks = false)
    (hpass : ∀ z ∈ c.exceptionTable.toList, covers z pc = false ∨ (z.catchType ≠ 0 ∧ ∃ nm : String, (Cond.classLink own z.catchType nm).before args s = true ∧ va_Nc E nm s)) (hcell : H[q]? = some ce) (hv : ce.vm = .none) (hcl : s.vm.findClass E = some ce.cls)
    (hx : ∀ t : State, t.heap = H → s.vm.Alike t.vm → XC E s t) (hf : ∀ z ∈ locs, free z.base) (hc : cells ≤ mc) (hs : slots ≤ ms) :
    vx_W p l e R s m args below meth c H locs cells slots (vx_MQ below Qc XC args s mc ms free) (F0 m pc ls rest) q := by
  intro T hT X
  have hpl : e.platform.magicAccessors = ({} : Platform).magicAccessors := by rw [X.admits.platform]
  obtain ⟨vm', hW', X', st⟩ := X.outThrough hlocks q (g := F0 m pc ls rest) rfl rfl rfl (cell := ce) (by rw [hT]; exact hcell) (by rw [hv]; rfl)
    (by obtain ⟨k9, h9, -⟩ := Vm.findClass_spec hcl; exact ⟨k9, h9⟩) (fun z hz => by
      rcases hpass z hz with h | ⟨hz0, nm, hl1, hn1⟩
      · exact Or.inl h
      · obtain ⟨c6, hc6, hcl6⟩ := Cond.classLink_spec hown hl1 e.platform hpl
        obtain ⟨a8, b8, h1, h2, h3⟩ := hn1
        cases Option.some.inj (h1.symm.trans hcl)
        cases Option.some.inj (h2.symm.trans hc6)
        exact Or.inr ⟨hz0, _, hcl6, h3⟩)
  obtain ⟨g₀, hfr⟩ := X'.frames_eq
  have hcell9 : ((T.setVm vm').setFrames (.throwing q :: below)).heap[q]? = some ce := by
    show T.heap[q]? = some ce
    rw [hT]; exact hcell
  have hend : Ended ((T.setVm vm').setFrames (.throwing q :: below)) below (.threw q) := State.frames_setFrames _ (State.cur_lt_of_frames hfr)
  refine ⟨(T.setVm vm').setFrames (.throwing q :: below), ?_, .threw q, X'.here.running, hend, Or.inr ⟨q, rfl, E, ce, locs, hx _ hT (X'.ends _).1.alike, hcell9, hv, hcl, (X'.ends _).1, (X'.ends _).2.mono hc hs, hf⟩⟩
  rw [X.pushThrowing_eq]
  exact st
/-- a thing of a world lies in the heap -/
theorem vx_lt {D : va_G} {cl : List vw_C} {ws : va_W} {H1 : Heap} (h : va_P D cl ws H1) {k : Nat} {q : Nat × va_E} (hk : ws[k]? = some q) : q.1 < H1.size := (h k q hk).lt
end VXS
/-! ===== END ===== -/
/-! ===== BEGIN methods with a table of their own: called by a name, returning or throwing ===== -/
section VXH
/-! vx_backW, vx_callVX, vx_callSX, vx_callVW, vx_runVW, vx_runVX, vx_runSX, vx_ofWH follow the same proofs as their sisters above (Free/Laws.lean, Shelf42/LK1.lean); vx_outP calls Shelf42/NT130.lean (outThrough). -/
section
variable {l : Launch} {R : Room} {p : Program} {e : Env} {below : List Frame} {s : State} {sargs : Array Value} {y : MethodName} {len W9 : Nat}
theorem vx_backW {ws : List Cond} {rm : Room} {Pc : Array Value → State → Prop} {Qc : Array Value → State → Outcome → State → Prop} {XC : String → State → State → Prop} {mc ms : Nat} {free : Addr → Prop} {bytes : ByteArray} {maxL : Nat} {ret : Option FieldType} {hh : List (Nat × Nat × Nat × Nat)}
    (hM : vx_Met l y ws rm Pc Qc XC mc ms free) (hblind : FrameBlind Pc) (hrc : rm.cells = mc) (hrs : rm.slots = ms)
    (hframes : rm.frames + 1 ≤ R.frames) (hlocals : W9 + (maxL + 11) + rm.locals ≤ R.locals)
    (hws : ∀ w ∈ ws, ∀ a' U, s.WarmedH U.vm → w.before a' U = true) (hcode : Cond.codeWith y bytes maxL ret hh ∈ ws) (hinit : ∀ a' U, s.WarmedH U.vm → (Cond.initialized y.cls).before a' U = true) :
    vx_Back l R p e below s sargs y len W9 (PreOf R mc ms Pc) (PostOf Qc mc ms free) (vx_Post XC mc ms free) := by
  intro m meth c A g ig mk a X hg hsize hdg hW hn hp
  have h1 : (headSpec ws rm).pre.before a A.U = true := atoms_intro fun w hw => hws w hw _ _ X.warmed
  have h2 : (Cond.codeWith y bytes maxL ret hh).before a A.U = true := hws _ hcode _ _ X.warmed
  have h3 : (Cond.initialized y.cls).before a A.U = true := hinit _ _ X.warmed
  have h4 : A.cells + (headSpec ws rm).room.cells ≤ R.cells := by rw [show (headSpec ws rm).room.cells = mc from hrc]; exact hp.1
  have h5 : A.slots + (headSpec ws rm).room.slots ≤ R.slots := by rw [show (headSpec ws rm).room.slots = ms from hrs]; exact hp.2.1
  have hPc : Pc a (A.U.calling g mk a) := hblind _ _ _ _ hp.2.2
  obtain ⟨U, Ls, c0, s0⟩ := A
  dsimp only [Pt.U, Pt.locs, Pt.cells, Pt.slots] at h1 h2 h3 h4 h5 X hn hPc ⊢
  obtain ⟨m9, methY, cY, hn9, hmY, hcY, -, hlY, -⟩ := Cond.codeWith_spec h2
  cases Option.some.inj (hn9.symm.trans hn)
  obtain ⟨kY, hkY, -⟩ := className_of_methodNamed hn
  have hinitY : kY.init = .initialized := Cond.initialized_spec (findClass_of_methodNamed hn) hkY h3
  have h : At U g.method c below := by rw [hg]; exact X.here
  have hlocals9 : W9 + (maxL + 11) + (headSpec ws rm).room.locals ≤ R.locals := hlocals
  have happ : (headSpec ws rm).appliesLoose y e.platform (U.calling g mk a) = true :=
    Spec.appliesLoose_calling (g := g) h hdg hn hkY hinitY
      (X.room_calling (g := g) (R' := (headSpec ws rm).room) hsize hmY hcY hframes (by rw [hlY]; omega) h4 h5) h1
  obtain ⟨mid, hmid⟩ := h.above
  have hfr : (U.setTop g).frames = (.java g :: mid) ++ below := by rw [State.frames_setTop' g h.top, hmid]; rfl
  obtain ⟨o, s₂, hsteps, -, hend, hq⟩ := Steps.callFree hM p X.admits X.cas X.clock (acts := []) hfr happ hPc trivial
  have hq' : vx_Q Qc XC mc ms free a (U.calling g mk a) o s₂ := hq
  rw [State.frames_setTop' g h.top] at hend
  obtain ⟨g₀, hg0⟩ := Option.isSome_iff_exists.mp h.top
  obtain ⟨r, hr⟩ := State.topJava?_eq_some.mp hg0
  have hr' : (({ U with heap := s₂.heap, slotsUsed := s₂.slotsUsed } : State).setVm s₂.vm).frames = .java g₀ :: r := hr
  rcases hq' with ⟨hqc, L, hfe, hL⟩ | ⟨q, rfl, E, ce, L, hx, hce, hcv, hcl, hW₂, hsm, hL⟩
  · obtain ⟨⟨v, rfl⟩, hW₂, e2, q2, q3, q4, q5, q6⟩ := id hfe
    have e3 : s₂ = ({ (U.calling g mk a).setFrames s₂.frames with heap := s₂.heap, slotsUsed := s₂.slotsUsed } : State).setVm s₂.vm := by
      have : s₂ = ({ s₂ with vm := (U.calling g mk a).vm } : State).setVm s₂.vm := rfl
      rw [e2] at this
      exact this
    obtain ⟨c₂, i₂, len₂, hc₂, hd₂, hf₂⟩ := hend
    have hW' : U.WarmedH s₂.vm := hW₂
    have hcc : c₂ = c := by
      have h1 : s₂.code? g.method = U.code? g.method := by
        rw [State.code?_eq, State.code?_eq, hW'.alike.method?]
      exact Option.some.inj (hc₂.symm.trans (h1.trans h.code))
    subst hcc
    have hlen : len₂ = len := by rw [hdg] at hd₂; cases hd₂; rfl
    subst hlen
    have hs₂ : s₂ = (({ U with heap := s₂.heap, slotsUsed := s₂.slotsUsed } : State).setVm s₂.vm).setTop { g with pc := g.pc + len₂, stack := v.toList ++ g.stack } := by
      refine e3.trans ?_
      rw [hf₂, State.calling_eq h.top, State.setFrames_setFrames, State.setTop_of_frames _ hr', hr]
      rfl
    have hsame : U.sameButNew ({ U with heap := s₂.heap, slotsUsed := s₂.slotsUsed } : State) L mc ms := by
      refine ⟨?_, q2, q3, q4, q5, q6⟩
      obtain ⟨t, ht, -⟩ := State.frames_cons hr
      show ({ U with heap := s₂.heap, slotsUsed := s₂.slotsUsed } : State) = { U.setFrames U.frames with heap := s₂.heap, slotsUsed := s₂.slotsUsed }
      rw [State.setFrames_self ht]
    subst hg
    refine Or.inl ⟨v, ⟨(({ U with heap := s₂.heap, slotsUsed := s₂.slotsUsed } : State).setVm s₂.vm), Ls ++ L, c0 + mc, s0 + ms⟩,
      ⟨X.admits, X.cas, X.clock, X.frames, X.room, X.hears, X.method, X.code, (X.here.setHeapUsed s₂.heap s₂.slotsUsed).setVm hW'.alike, X.tail, State.WarmedH.trans X.warmed hW', X.limits, X.bytes, X.same.trans (hsame.setVm s.vm)⟩,
      ⟨g, mk, s₂, L, rfl, rfl, hqc, rfl, hL, rfl, rfl⟩, ?_⟩
    show Steps p.tables e below _ ((({ U with heap := s₂.heap, slotsUsed := s₂.slotsUsed } : State).setVm s₂.vm).setTop { g with pc := g.pc + len₂, stack := v.toList ++ g.stack })
    rw [← hs₂]
    exact hsteps
  · obtain ⟨e2, q2, q3, q4, q5, q6⟩ := id hsm
    have e3 : s₂ = ({ (U.calling g mk a).setFrames s₂.frames with heap := s₂.heap, slotsUsed := s₂.slotsUsed } : State).setVm s₂.vm := by
      have : s₂ = ({ s₂ with vm := (U.calling g mk a).vm } : State).setVm s₂.vm := rfl
      rw [e2] at this
      exact this
    have hf₂ : s₂.frames = .throwing q :: .java g :: U.frames.tail := hend
    have hW' : U.WarmedH s₂.vm := hW₂
    have hs₂ : s₂ = ((({ U with heap := s₂.heap, slotsUsed := s₂.slotsUsed } : State).setVm s₂.vm).setTop g).pushFrame (.throwing q) := by
      refine e3.trans ?_
      rw [hf₂, State.calling_eq h.top, State.setFrames_setFrames, State.pushFrame, State.frames_setTop _ hr', State.setTop_of_frames _ hr', State.setFrames_setFrames, hr]
      rfl
    have hsame : U.sameButNew ({ U with heap := s₂.heap, slotsUsed := s₂.slotsUsed } : State) L mc ms := by
      refine ⟨?_, q2, q3, q4, q5, q6⟩
      obtain ⟨t, ht, -⟩ := State.frames_cons hr
      show ({ U with heap := s₂.heap, slotsUsed := s₂.slotsUsed } : State) = { U.setFrames U.frames with heap := s₂.heap, slotsUsed := s₂.slotsUsed }
      rw [State.setFrames_self ht]
    subst hg
    refine Or.inr ⟨q, ⟨(({ U with heap := s₂.heap, slotsUsed := s₂.slotsUsed } : State).setVm s₂.vm), Ls ++ L, c0 + mc, s0 + ms⟩,
      ⟨X.admits, X.cas, X.clock, X.frames, X.room, X.hears, X.method, X.code, (X.here.setHeapUsed s₂.heap s₂.slotsUsed).setVm hW'.alike, X.tail, State.WarmedH.trans X.warmed hW', X.limits, X.bytes, X.same.trans (hsame.setVm s.vm)⟩,
      ⟨g, mk, s₂, L, E, ce, rfl, rfl, hx, hce, hcv, hcl, rfl, hL, rfl, rfl⟩, ?_⟩
    show Steps p.tables e below _ (((({ U with heap := s₂.heap, slotsUsed := s₂.slotsUsed } : State).setVm s₂.vm).setTop g).pushFrame (.throwing q))
    rw [← hs₂]
    exact hsteps
end
variable {p : Program} {l : Launch} {e : Env} {R : Room} {s : State} {m : MethodId} {args : Array Value} {below : List Frame} {meth : Method} {c : Code} {T : State} {H : Heap} {locs : List Loc} {cells slots : Nat}
theorem vx_callVX (X : Stand p l e R s m args below meth c T locs cells slots) (hexec : p.tables.exec = Jvm.exec) {own C : String} {index : Nat} {y : MethodName} {bytes : ByteArray} {maxL : Nat} {ret : Option FieldType} {hh : List (Nat × Nat × Nat × Nat)}
    (hown : s.vm.findClass own = some m.cls) (hlink : (Cond.methodLink own index y).before args s = true) (hinst : (Cond.instanceMethod y).before args s = true) (hsel : (Cond.selects C y y).before args s = true)
    (hcode : (Cond.codeWith y bytes maxL ret hh).before args s = true) (hy : y.cls ≠ "java/lang/invoke/MethodHandle" ∧ y.cls ≠ "java/lang/invoke/VarHandle")
    {W9 : Nat} {Pre : Pt → Array Value → Prop} {Post : Pt → Array Value → Option Value → Pt → Prop} {PostX : Pt → Array Value → Addr → Pt → Prop} (hK : vx_Back l R p e below s args y 3 W9 Pre Post PostX)
    {b : Addr} {cellB : Cell} (hcell : T.heap[b]? = some cellB) (hobj : cellB.vm.isStatics = false) (hcls : s.vm.findClass C = some cellB.cls)
    {g : JFrame} (hg : g.method = m) (hsize : g.locals.size = c.maxLocals) {argsL rest : List Value} (hlen : ∀ sig, parseMethodDescriptor y.desc = some sig → argsL.length = sig.parameters.length)
    (hstack : g.stack = argsL.reverse ++ .ref b :: rest) (hW : 2 * g.monitorRoom + (rest.map fun v => v.category).sum ≤ W9) (hdg : decode c.code g.pc = .ok (.invokevirtual index, 3))
    (hpre : ∀ vm₁, s.WarmedH vm₁ → Pre ⟨T.setVm vm₁, locs, cells, slots⟩ (Value.ref b :: argsL).toArray) :
    (∃ (v : Option Value) (vm₁ : Vm) (B : Pt), s.WarmedH vm₁ ∧ Stand p l e R s m args below meth c B.U B.locs B.cells B.slots ∧ Post ⟨T.setVm vm₁, locs, cells, slots⟩ (Value.ref b :: argsL).toArray v B ∧
      ∀ target, Steps p.tables e below (B.U.setTop { g with pc := g.pc + 3, stack := v.toList ++ rest }) target → Steps p.tables e below (T.setTop g) target) ∨
    (∃ (q : Addr) (vm₁ : Vm) (B : Pt), s.WarmedH vm₁ ∧ Stand p l e R s m args below meth c B.U B.locs B.cells B.slots ∧ PostX ⟨T.setVm vm₁, locs, cells, slots⟩ (Value.ref b :: argsL).toArray q B ∧
      Steps p.tables e below (T.setTop g) ((B.U.setTop { g with stack := rest }).pushFrame (.throwing q))) := by
  obtain ⟨mk, methM, hnamed, hmethM, hstM, habM⟩ := Cond.instanceMethod_spec hinst
  obtain ⟨m8, methM', cM, hn8, hmethM', -, -, -, -, -, -, hsigM⟩ := Cond.codeWith_spec hcode
  cases Option.some.inj (hn8.symm.trans hnamed)
  cases hmethM.symm.trans hmethM'
  obtain ⟨c2, r2, m2, q1, q2, q3, q4, kP, hkP, hkPi⟩ := Cond.selects_spec hsel
  cases hcls.symm.trans q1
  cases (State.methodFound?_of_named hnamed hy).symm.trans q2
  cases hnamed.symm.trans q3
  have hselP : selectMethod e.platform s.vm cellB.cls mk = .method mk := by rw [Launch.admits_selectMethod X.admits]; exact q4
  obtain ⟨vm₁, X₁, hstep₁⟩ := X.invokevirtual hexec hown hlink hnamed hmethM hstM hkP hkPi hy (a := b) (cell := cellB) hcell
    (fun z h => by rw [h] at hobj; cases hobj) hselP hmethM habM hkP hkPi (g := g) hg (argsL := argsL) (rest := rest) (hlen _ hsigM) hstack hdg
  rcases hK m meth c ⟨T.setVm vm₁, locs, cells, slots⟩ { g with stack := rest } (.invokevirtual index) mk (Value.ref b :: argsL).toArray X₁ hg hsize hdg hW (X₁.named hnamed) (hpre vm₁ X₁.warmed) with ⟨v, B, X', hpost, hsteps⟩ | ⟨q, B, X', hpost, hsteps⟩
  · exact Or.inl ⟨v, vm₁, B, X₁.warmed, X', hpost, fun target h => hstep₁ _ fun acts => by rw [doInvoke_state]; exact hsteps.trans h⟩
  · exact Or.inr ⟨q, vm₁, B, X₁.warmed, X', hpost, hstep₁ _ fun acts => by rw [doInvoke_state]; exact hsteps⟩
theorem vx_callSX (X : Stand p l e R s m args below meth c T locs cells slots) (hexec : p.tables.exec = Jvm.exec) {own : String} {index : Nat} {y : MethodName} {bytes : ByteArray} {maxL : Nat} {ret : Option FieldType} {hh : List (Nat × Nat × Nat × Nat)}
    (hown : s.vm.findClass own = some m.cls) (hlink : (Cond.methodLink own index y).before args s = true) (hstat : (Cond.static y).before args s = true) (hinit : (Cond.initialized y.cls).before args s = true)
    (hcode : (Cond.codeWith y bytes maxL ret hh).before args s = true) (hy : y.cls ≠ "java/lang/invoke/MethodHandle" ∧ y.cls ≠ "java/lang/invoke/VarHandle")
    {W9 : Nat} {Pre : Pt → Array Value → Prop} {Post : Pt → Array Value → Option Value → Pt → Prop} {PostX : Pt → Array Value → Addr → Pt → Prop} (hK : vx_Back l R p e below s args y 3 W9 Pre Post PostX)
    {g : JFrame} (hg : g.method = m) (hsize : g.locals.size = c.maxLocals) {argsL rest : List Value} (hlen : ∀ sig, parseMethodDescriptor y.desc = some sig → argsL.length = sig.parameters.length)
    (hstack : g.stack = argsL.reverse ++ rest) (hW : 2 * g.monitorRoom + (rest.map fun v => v.category).sum ≤ W9) (hdg : decode c.code g.pc = .ok (.invokestatic index, 3))
    (hpre : ∀ vm₁, s.WarmedH vm₁ → Pre ⟨T.setVm vm₁, locs, cells, slots⟩ argsL.toArray) :
    (∃ (v : Option Value) (vm₁ : Vm) (B : Pt), s.WarmedH vm₁ ∧ Stand p l e R s m args below meth c B.U B.locs B.cells B.slots ∧ Post ⟨T.setVm vm₁, locs, cells, slots⟩ argsL.toArray v B ∧
      ∀ target, Steps p.tables e below (B.U.setTop { g with pc := g.pc + 3, stack := v.toList ++ rest }) target → Steps p.tables e below (T.setTop g) target) ∨
    (∃ (q : Addr) (vm₁ : Vm) (B : Pt), s.WarmedH vm₁ ∧ Stand p l e R s m args below meth c B.U B.locs B.cells B.slots ∧ PostX ⟨T.setVm vm₁, locs, cells, slots⟩ argsL.toArray q B ∧
      Steps p.tables e below (T.setTop g) ((B.U.setTop { g with stack := rest }).pushFrame (.throwing q))) := by
  obtain ⟨mk, methM, cM, hnamed, hmethM, -, -, -, -, -, -, hsigM⟩ := Cond.codeWith_spec hcode
  have hstatic : methM.isStatic = true := Cond.static_spec hnamed hmethM hstat
  obtain ⟨kP, hkP, -⟩ := className_of_methodNamed hnamed
  have hinitP : kP.init = .initialized := Cond.initialized_spec (findClass_of_methodNamed hnamed) hkP hinit
  obtain ⟨vm₁, X₁, hstep₁⟩ := X.invokestatic hexec hown hlink hnamed hmethM hstatic hkP hinitP hy (g := g) hg (argsL := argsL) (rest := rest) (hlen _ hsigM) hstack hdg
  rcases hK m meth c ⟨T.setVm vm₁, locs, cells, slots⟩ { g with stack := rest } (.invokestatic index) mk argsL.toArray X₁ hg hsize hdg hW (X₁.named hnamed) (hpre vm₁ X₁.warmed) with ⟨v, B, X', hpost, hsteps⟩ | ⟨q, B, X', hpost, hsteps⟩
  · exact Or.inl ⟨v, vm₁, B, X₁.warmed, X', hpost, fun target h => hstep₁ _ fun acts => by rw [doInvoke_state]; exact hsteps.trans h⟩
  · exact Or.inr ⟨q, vm₁, B, X₁.warmed, X', hpost, hstep₁ _ fun acts => by rw [doInvoke_state]; exact hsteps⟩
theorem vx_callVW (X : Stand p l e R s m args below meth c T locs cells slots) (hexec : p.tables.exec = Jvm.exec) {own C : String} {index : Nat} {y : MethodName} {bytes : ByteArray} {maxL : Nat} {ret : Option FieldType} {hh : List (Nat × Nat × Nat × Nat)}
    (hown : s.vm.findClass own = some m.cls) (hlink : (Cond.methodLink own index y).before args s = true) (hinst : (Cond.instanceMethod y).before args s = true) (hsel : (Cond.selects C y y).before args s = true)
    (hcode : (Cond.codeWith y bytes maxL ret hh).before args s = true) (hy : y.cls ≠ "java/lang/invoke/MethodHandle" ∧ y.cls ≠ "java/lang/invoke/VarHandle")
    {W9 : Nat} {Pre : Pt → Array Value → Prop} {Post : Pt → Array Value → Option Value → Pt → Prop} (hK : Back l R p e below s args y 3 W9 Pre Post)
    {b : Addr} {cellB : Cell} (hcell : T.heap[b]? = some cellB) (hobj : cellB.vm.isStatics = false) (hcls : s.vm.findClass C = some cellB.cls)
    {g : JFrame} (hg : g.method = m) (hsize : g.locals.size = c.maxLocals) {argsL rest : List Value} (hlen : ∀ sig, parseMethodDescriptor y.desc = some sig → argsL.length = sig.parameters.length)
    (hstack : g.stack = argsL.reverse ++ .ref b :: rest) (hW : 2 * g.monitorRoom + (rest.map fun v => v.category).sum ≤ W9) (hdg : decode c.code g.pc = .ok (.invokevirtual index, 3))
    (hpre : ∀ vm₁, s.WarmedH vm₁ → Pre ⟨T.setVm vm₁, locs, cells, slots⟩ (Value.ref b :: argsL).toArray) :
    ∃ (v : Option Value) (vm₁ : Vm) (B : Pt), s.WarmedH vm₁ ∧ Stand p l e R s m args below meth c B.U B.locs B.cells B.slots ∧ Post ⟨T.setVm vm₁, locs, cells, slots⟩ (Value.ref b :: argsL).toArray v B ∧
      ∀ target, Steps p.tables e below (B.U.setTop { g with pc := g.pc + 3, stack := v.toList ++ rest }) target → Steps p.tables e below (T.setTop g) target := by
  obtain ⟨mk, methM, hnamed, hmethM, hstM, habM⟩ := Cond.instanceMethod_spec hinst
  obtain ⟨m8, methM', cM, hn8, hmethM', -, -, -, -, -, -, hsigM⟩ := Cond.codeWith_spec hcode
  cases Option.some.inj (hn8.symm.trans hnamed)
  cases hmethM.symm.trans hmethM'
  obtain ⟨c2, r2, m2, q1, q2, q3, q4, kP, hkP, hkPi⟩ := Cond.selects_spec hsel
  cases hcls.symm.trans q1
  cases (State.methodFound?_of_named hnamed hy).symm.trans q2
  cases hnamed.symm.trans q3
  have hselP : selectMethod e.platform s.vm cellB.cls mk = .method mk := by rw [Launch.admits_selectMethod X.admits]; exact q4
  obtain ⟨vm₁, X₁, hstep₁⟩ := X.invokevirtual hexec hown hlink hnamed hmethM hstM hkP hkPi hy (a := b) (cell := cellB) hcell
    (fun z h => by rw [h] at hobj; cases hobj) hselP hmethM habM hkP hkPi (g := g) hg (argsL := argsL) (rest := rest) (hlen _ hsigM) hstack hdg
  obtain ⟨v, B, X', hpost, hsteps⟩ := hK m meth c ⟨T.setVm vm₁, locs, cells, slots⟩ { g with stack := rest } (.invokevirtual index) mk (Value.ref b :: argsL).toArray X₁ hg hsize hdg hW (X₁.named hnamed) (hpre vm₁ X₁.warmed)
  exact ⟨v, vm₁, B, X₁.warmed, X', hpost, fun target h => hstep₁ _ fun acts => by rw [doInvoke_state]; exact hsteps.trans h⟩
abbrev vx_CVW (R : Room) (s : State) (args : Array Value) (own C : String) (index : Nat) (y : MethodName) (bytes : ByteArray) (maxL : Nat) (ret : Option FieldType) (hh : List (Nat × Nat × Nat × Nat)) (ws : List Cond) (rm : Room) (mc ms n : Nat) : Prop :=
  (rm.cells = mc ∧ rm.slots = ms ∧ rm.frames + 1 ≤ R.frames ∧ 8 + (maxL + 11) + rm.locals ≤ R.locals ∧ (∀ w ∈ ws, ∀ (a' : Array Value) (U : State), s.WarmedH U.vm → w.before a' U = true) ∧ Cond.codeWith y bytes maxL ret hh ∈ ws) ∧
  (Cond.codeWith y bytes maxL ret hh).before args s = true ∧ (Cond.initialized y.cls).before args s = true ∧ (y.cls ≠ "java/lang/invoke/MethodHandle" ∧ y.cls ≠ "java/lang/invoke/VarHandle") ∧
  (∀ sig, parseMethodDescriptor y.desc = some sig → n = sig.parameters.length) ∧ (Cond.methodLink own index y).before args s = true ∧ (Cond.instanceMethod y).before args s = true ∧ (Cond.selects C y y).before args s = true
theorem vx_cwVW {own C : String} {index maxL mc ms : Nat} {y : MethodName} {bytes : ByteArray} {ret : Option FieldType} {hh : List (Nat × Nat × Nat × Nat)} {Ts ws ws' : List Cond} {rm : Room} (n : Nat) (ht : ∀ w ∈ Ts, w.before args s = true) (hT : GoodIn Ts (wsV own index C y ws)) (hw : ws = Cond.codeWith y bytes maxL ret hh :: ws') (hrc : rm.cells = mc) (hrs : rm.slots = ms)
    (hd : y.cls = C ∧ y.cls ≠ "java/lang/invoke/MethodHandle" ∧ y.cls ≠ "java/lang/invoke/VarHandle" ∧ (parseMethodDescriptor y.desc).map (fun d => d.parameters.length) = some n) (hR : rm.frames + 1 ≤ R.frames ∧ 8 + (maxL + 11) + rm.locals ≤ R.locals) :
    vx_CVW R s args own C index y bytes maxL ret hh ws rm mc ms n := by
  obtain ⟨hC, hd⟩ := hd
  subst hC
  have ok : ∀ w ∈ wsV own index y.cls y ws, w.before args s = true := fun w h => ht w (hT w h).1
  have hG : GoodIn Ts ws := fun w h => hT w (by unfold wsV; exact List.mem_append_right _ h)
  have hc : Cond.codeWith y bytes maxL ret hh ∈ ws := by rw [hw]; exact List.mem_cons_self
  refine ⟨⟨hrc, hrs, hR.1, hR.2, pay_in ht hG, hc⟩, ht _ (hG _ hc).1, ok _ (by simp [wsV]), ⟨hd.1, hd.2.1⟩, fun sig h => ?_, ok _ (by simp [wsV]), ok _ (by simp [wsV]), ok _ (by simp [wsV])⟩
  have h2 := hd.2.2
  rw [h] at h2
  exact (Option.some.inj h2).symm
theorem vx_runVW {y : MethodName} {bytes cc : ByteArray} {maxL nL mc ms n index : Nat} {ret : Option FieldType} {hh : List (Nat × Nat × Nat × Nat)} {ws : List Cond} {rm : Room} {Pc : Array Value → State → Prop} {Qc : Array Value → State → Outcome → State → Prop} {free : Addr → Prop} {Ts : List Cond} {own C : String} {b : Addr} {As rest : List Value} {g : JFrame}
    (S : CallFix p m c cc nL s args Ts own) (hM : Met l y ws rm Pc Qc mc ms free) (cw : vx_CVW R s args own C index y bytes maxL ret hh ws rm mc ms n) (hp : PreV s H C b Pc As)
    (hg : g.method = m) (hn : As.length = n) (hsize : g.locals.size = nL) (hstack : g.stack = As.reverse ++ .ref b :: rest) (hW : 2 * g.monitorRoom + (rest.map fun v => v.category).sum ≤ 8) (hdg : decode cc g.pc = .ok (.invokevirtual index, 3)) (hf : cells + mc ≤ R.cells ∧ slots + ms ≤ R.slots) :
    va_Run p l e R s m args below meth c H locs cells slots mc ms g rest (Qc (Value.ref b :: As).toArray) free := by
  obtain ⟨⟨hrc, hrs, hfr, hlo, hws, hcw⟩, hcode, hini, hy, hlen, hl, hin, hse⟩ := cw
  have hK : Back l R p e below s args y 3 8 (PreOf R mc ms Pc) (PostOf Qc mc ms free) := va_backW (hh := hh) (bytes := bytes) (maxL := maxL) (ret := ret) hM hp.1 hrc hrs hfr hlo hws hcw (fun a' U hW => word_at hW (Or.inl (by first | rfl | simp [Cond.onTables, Cond.keeps, Cond.steady])) hini)
  obtain ⟨hx, hb, hml, ho, -⟩ := S
  obtain ⟨-, ⟨cellB, hcB, hoB, hclB⟩, hPc⟩ := hp
  intro T hT X
  obtain ⟨v, vm₁, ⟨U', l2, c2, s2⟩, hW₁, X', ⟨g', mk, t, L, e1, e2, hq, h1, hL, h2, h3⟩, st⟩ := vx_callVW X hx (C := C) (hh := hh) (bytes := bytes) (maxL := maxL) (ret := ret) ho hl hin hse hcode hy hK (by rw [hT]; exact hcB) hoB hclB hg (hsize.trans hml.symm) (argsL := As) (rest := rest) (fun sig h => hn.trans (hlen sig h)) hstack hW (by rw [hb]; exact hdg)
    (fun vm₁ hW₁ => ⟨hf.1, hf.2, hPc (T.setVm vm₁) hT hW₁⟩)
  dsimp only [Pt.U, Pt.locs, Pt.cells, Pt.slots] at X' e1 e2 h1 h2 h3 st
  subst h1; subst h2; subst h3
  exact ⟨v, (T.setVm vm₁).calling g' mk (Value.ref b :: As).toArray, t, U', L, hT, X', hL, e1, e2, hq, st⟩
section
variable {y : MethodName} {bytes cc : ByteArray} {maxL nL mc ms n index : Nat} {ret : Option FieldType} {ws : List Cond} {rm : Room} {Pc : Array Value → State → Prop} {Qc : Array Value → State → Outcome → State → Prop} {XC : String → State → State → Prop} {free : Addr → Prop} {Ts : List Cond} {own C : String} {b : Addr} {As rest : List Value} {g : JFrame}
theorem vx_runVX {hh : List (Nat × Nat × Nat × Nat)} (S : CallFix p m c cc nL s args Ts own) (hM : vx_Met l y ws rm Pc Qc XC mc ms free) (cw : vx_CVW R s args own C index y bytes maxL ret hh ws rm mc ms n) (hp : PreV s H C b Pc As)
    (hg : g.method = m) (hn : As.length = n) (hsize : g.locals.size = nL) (hstack : g.stack = As.reverse ++ .ref b :: rest) (hW : 2 * g.monitorRoom + (rest.map fun v => v.category).sum ≤ 8) (hdg : decode cc g.pc = .ok (.invokevirtual index, 3)) (hf : cells + mc ≤ R.cells ∧ slots + ms ≤ R.slots) :
    vx_Run p l e R s m args below meth c H locs cells slots mc ms g rest (Qc (Value.ref b :: As).toArray) XC free := by
  obtain ⟨⟨hrc, hrs, hfr, hlo, hws, hcw⟩, hcode, hini, hy, hlen, hl, hin, hse⟩ := cw
  have hK : vx_Back l R p e below s args y 3 8 (PreOf R mc ms Pc) (PostOf Qc mc ms free) (vx_Post XC mc ms free) := vx_backW (hh := hh) (bytes := bytes) (maxL := maxL) (ret := ret) hM hp.1 hrc hrs hfr hlo hws hcw (fun a' U hW => word_at hW (Or.inl (by first | rfl | simp [Cond.onTables, Cond.keeps, Cond.steady])) hini)
  obtain ⟨hx, hb, hml, ho, -⟩ := S
  obtain ⟨-, ⟨cellB, hcB, hoB, hclB⟩, hPc⟩ := hp
  intro T hT X
  rcases vx_callVX X hx (C := C) (hh := hh) (bytes := bytes) (maxL := maxL) (ret := ret) ho hl hin hse hcode hy hK (by rw [hT]; exact hcB) hoB hclB hg (hsize.trans hml.symm) (argsL := As) (rest := rest) (fun sig h => hn.trans (hlen sig h)) hstack hW (by rw [hb]; exact hdg)
    (fun vm₁ hW₁ => ⟨hf.1, hf.2, hPc (T.setVm vm₁) hT hW₁⟩) with ⟨v, vm₁, ⟨U', l2, c2, s2⟩, hW₁, X', ⟨g', mk, t, L, e1, e2, hq, h1, hL, h2, h3⟩, st⟩ | ⟨q, vm₁, ⟨U', l2, c2, s2⟩, hW₁, X', ⟨g', mk, t, L, E, ce, e1, e2, hq, hce, hcv, hcl, h1, hL, h2, h3⟩, st⟩
  · dsimp only [Pt.U, Pt.locs, Pt.cells, Pt.slots] at X' e1 e2 h1 h2 h3 st
    subst h1; subst h2; subst h3
    exact Or.inl ⟨v, (T.setVm vm₁).calling g' mk (Value.ref b :: As).toArray, t, U', L, hT, X', hL, e1, e2, hq, st⟩
  · dsimp only [Pt.U, Pt.locs, Pt.cells, Pt.slots] at X' e1 e2 h1 h2 h3 st hcl
    subst h1; subst h2; subst h3
    exact Or.inr ⟨q, (T.setVm vm₁).calling g' mk (Value.ref b :: As).toArray, t, U', L, E, ce, hT, X', hL, e1, e2, hq, hce, hcv, vx_cls hW₁ hcl, st⟩
theorem vx_runSX {hh : List (Nat × Nat × Nat × Nat)} (S : CallFix p m c cc nL s args Ts own) (hM : vx_Met l y ws rm Pc Qc XC mc ms free) (cw : vx_CSW R s args own index y bytes maxL ret hh ws rm mc ms n) (hp : PreS s H Pc As)
    (hg : g.method = m) (hn : As.length = n) (hsize : g.locals.size = nL) (hstack : g.stack = As.reverse ++ rest) (hW : 2 * g.monitorRoom + (rest.map fun v => v.category).sum ≤ 8) (hdg : decode cc g.pc = .ok (.invokestatic index, 3)) (hf : cells + mc ≤ R.cells ∧ slots + ms ≤ R.slots) :
    vx_Run p l e R s m args below meth c H locs cells slots mc ms g rest (Qc As.toArray) XC free := by
  obtain ⟨⟨hrc, hrs, hfr, hlo, hws, hcw⟩, hcode, hini, hy, hlen, hl, hstt⟩ := cw
  have hK : vx_Back l R p e below s args y 3 8 (PreOf R mc ms Pc) (PostOf Qc mc ms free) (vx_Post XC mc ms free) := vx_backW (hh := hh) (bytes := bytes) (maxL := maxL) (ret := ret) hM hp.1 hrc hrs hfr hlo hws hcw (fun a' U hW => word_at hW (Or.inl (by first | rfl | simp [Cond.onTables, Cond.keeps, Cond.steady])) hini)
  obtain ⟨hx, hb, hml, ho, -⟩ := S
  intro T hT X
  rcases vx_callSX X hx (hh := hh) (bytes := bytes) (maxL := maxL) (ret := ret) ho hl hstt hini hcode hy hK hg (hsize.trans hml.symm) (argsL := As) (rest := rest) (fun sig h => hn.trans (hlen sig h)) hstack hW (by rw [hb]; exact hdg)
    (fun vm₁ hW₁ => ⟨hf.1, hf.2, hp.2 (T.setVm vm₁) hT hW₁⟩) with ⟨v, vm₁, ⟨U', l2, c2, s2⟩, hW₁, X', ⟨g', mk, t, L, e1, e2, hq, h1, hL, h2, h3⟩, st⟩ | ⟨q, vm₁, ⟨U', l2, c2, s2⟩, hW₁, X', ⟨g', mk, t, L, E, ce, e1, e2, hq, hce, hcv, hcl, h1, hL, h2, h3⟩, st⟩
  · dsimp only [Pt.U, Pt.locs, Pt.cells, Pt.slots] at X' e1 e2 h1 h2 h3 st
    subst h1; subst h2; subst h3
    exact Or.inl ⟨v, (T.setVm vm₁).calling g' mk As.toArray, t, U', L, hT, X', hL, e1, e2, hq, st⟩
  · dsimp only [Pt.U, Pt.locs, Pt.cells, Pt.slots] at X' e1 e2 h1 h2 h3 st hcl
    subst h1; subst h2; subst h3
    exact Or.inr ⟨q, (T.setVm vm₁).calling g' mk As.toArray, t, U', L, E, ce, hT, X', hL, e1, e2, hq, hce, hcv, vx_cls hW₁ hcl, st⟩
end
end VXH
theorem vx_ofWH {l : Launch} {y : MethodName} {ws ws' : List Cond} {rm : Room} {Pc : Array Value → State → Prop} {Qc : Array Value → State → Outcome → State → Prop} {XC : String → State → State → Prop} {mc ms : Nat} {free : Addr → Prop} {cc : ByteArray} {maxL : Nat} {ret : Option FieldType} {hh : List (Nat × Nat × Nat × Nat)}
    (hy : plainName y.cls = true) (hw : ws = Cond.codeWith y cc maxL ret hh :: ws')
    (body : ∀ p e s m args below meth c s₁, BodyLoose p l y (headSpec ws rm) cc maxL ret e s m args below meth c s₁ → c.maxLocals = maxL → Pc args s →
      W p l e (headSpec ws rm).room s m args below meth c s.heap [] 0 0 (vx_MQ below Qc XC args s mc ms free) (entryFrame m args maxL)) : vx_Met l y ws rm Pc Qc XC mc ms free := by
  refine MetFree.of_bodyS (code := cc) (maxLocals := maxL) (ret := ret) hy ?_ ?_
  · intro args s m h hn
    obtain ⟨m9, meth, c, hn9, h1, h2, h3, h4, -, h5, h6, -⟩ := Cond.codeWith_spec (atoms_spec (ws := ws) h _ (by rw [hw]; exact List.mem_cons_self))
    cases hn.symm.trans hn9
    exact ⟨meth, c, h1, h2, h3, h4, h5, h6⟩
  · intro p e s m args below meth c s₁ B hml hP _
    have hh0 : s₁.heap = s.heap := by rw [B.state]; rfl
    obtain ⟨t, a1, o, b1, b2, b3⟩ := body p e s m args below meth c s₁ B hml hP s₁ hh0 (Stand.of_body B)
    exact ⟨t, o, a1, b1, b2, b3⟩
/-! ===== END ===== -/
end
section
/-! Names: laid by wip/gen/names.py out of the Statement. -/
def RH : String := "TicketHouse"
def FH : u_T := fun k => match k with
  | 0 => ("TicketHouse", "users", "[LTicketHouse$User;", true)
  | 1 => ("TicketHouse", "flags", "[I", true)
  | 2 => ("TicketHouse", "works", "[Z", true)
  | 3 => ("TicketHouse", "sessions", "[LTicketHouse$Session;", true)
  | 4 => ("TicketHouse", "tickets", "[LTicketHouse$Ticket;", true)
  | 5 => ("TicketHouse", "messages", "[I", true)
  | 6 => ("TicketHouse", "draft", "LTicketHouse$Text;", true)
  | 7 => ("TicketHouse", "page", "LTicketHouse$Text;", true)
  | 8 => ("TicketHouse", "sessionCount", "I", false)
  | 9 => ("TicketHouse", "ticketCount", "I", false)
  | 10 => ("TicketHouse", "messageCount", "I", false)
  | _ => ("TicketHouse", "clock", "I", false)
def tH : Nat → FieldType := fun k => match k with
  | 0 => .array (.object "TicketHouse$User")
  | 1 => .array .int
  | 2 => .array .boolean
  | 3 => .array (.object "TicketHouse$Session")
  | 4 => .array (.object "TicketHouse$Ticket")
  | 5 => .array .int
  | 6 => .object "TicketHouse$Text"
  | 7 => .object "TicketHouse$Text"
  | 8 => .int
  | 9 => .int
  | 10 => .int
  | _ => .int
theorem nH_ok : ∀ a, a < 12 → ∀ b, b < 12 → a ≠ b → (FH a).2.1 ≠ (FH b).2.1 := by decide +kernel
theorem tH_ok : ∀ k, k < 12 → parseFieldDescriptor (FH k).2.2.1 = some (tH k) := by decide +kernel
def RU : String := "TicketHouse$User"
def FU : u_T := fun k => match k with
  | 0 => ("TicketHouse$User", "number", "I", true)
  | 1 => ("TicketHouse$User", "texts", "[LTicketHouse$Text;", true)
  | 2 => ("TicketHouse$User", "hasWord", "Z", false)
  | 3 => ("TicketHouse$User", "word", "I", false)
  | 4 => ("TicketHouse$User", "wrongTries", "I", false)
  | _ => ("TicketHouse$User", "latestWrong", "I", false)
def tU : Nat → FieldType := fun k => match k with
  | 0 => .int
  | 1 => .array (.object "TicketHouse$Text")
  | 2 => .boolean
  | 3 => .int
  | 4 => .int
  | _ => .int
theorem nU_ok : ∀ a, a < 6 → ∀ b, b < 6 → a ≠ b → (FU a).2.1 ≠ (FU b).2.1 := by decide +kernel
theorem tU_ok : ∀ k, k < 6 → parseFieldDescriptor (FU k).2.2.1 = some (tU k) := by decide +kernel
def RT : String := "TicketHouse$Text"
def FT : u_T := fun k => match k with
  | 0 => ("TicketHouse$Text", "characters", "[C", true)
  | _ => ("TicketHouse$Text", "length", "I", false)
def tT : Nat → FieldType := fun k => match k with
  | 0 => .array .char
  | _ => .int
theorem nT_ok : ∀ a, a < 2 → ∀ b, b < 2 → a ≠ b → (FT a).2.1 ≠ (FT b).2.1 := by decide +kernel
theorem tT_ok : ∀ k, k < 2 → parseFieldDescriptor (FT k).2.2.1 = some (tT k) := by decide +kernel
def RS : String := "TicketHouse$Session"
def FS : u_T := fun k => match k with
  | 0 => ("TicketHouse$Session", "number", "I", true)
  | 1 => ("TicketHouse$Session", "user", "LTicketHouse$User;", true)
  | 2 => ("TicketHouse$Session", "login", "I", true)
  | 3 => ("TicketHouse$Session", "remembered", "Z", true)
  | 4 => ("TicketHouse$Session", "used", "I", false)
  | _ => ("TicketHouse$Session", String.ofList ['o', 'p', 'e', 'n'], "Z", false)
def tS : Nat → FieldType := fun k => match k with
  | 0 => .int
  | 1 => .object "TicketHouse$User"
  | 2 => .int
  | 3 => .boolean
  | 4 => .int
  | _ => .boolean
theorem nS_ok : ∀ a, a < 6 → ∀ b, b < 6 → a ≠ b → (FS a).2.1 ≠ (FS b).2.1 := by decide +kernel
theorem tS_ok : ∀ k, k < 6 → parseFieldDescriptor (FS k).2.2.1 = some (tS k) := by decide +kernel
def RK : String := "TicketHouse$Ticket"
def FK : u_T := fun k => match k with
  | 0 => ("TicketHouse$Ticket", "number", "I", true)
  | 1 => ("TicketHouse$Ticket", "kind", "I", true)
  | 2 => ("TicketHouse$Ticket", "session", "LTicketHouse$Session;", true)
  | 3 => ("TicketHouse$Ticket", "target", "I", true)
  | 4 => ("TicketHouse$Ticket", "given", "I", true)
  | 5 => ("TicketHouse$Ticket", "from", "LTicketHouse$Ticket;", true)
  | 6 => ("TicketHouse$Ticket", "chainLength", "I", true)
  | 7 => ("TicketHouse$Ticket", "fresh", "Z", false)
  | _ => ("TicketHouse$Ticket", "spent", "Z", false)
def tK : Nat → FieldType := fun k => match k with
  | 0 => .int
  | 1 => .int
  | 2 => .object "TicketHouse$Session"
  | 3 => .int
  | 4 => .int
  | 5 => .object "TicketHouse$Ticket"
  | 6 => .int
  | 7 => .boolean
  | _ => .boolean
theorem nK_ok : ∀ a, a < 9 → ∀ b, b < 9 → a ≠ b → (FK a).2.1 ≠ (FK b).2.1 := by decide +kernel
theorem tK_ok : ∀ k, k < 9 → parseFieldDescriptor (FK k).2.2.1 = some (tK k) := by decide +kernel
def RM : String := "TicketHouseModel"
def FM : u_T := fun k => match k with
  | 0 => ("TicketHouseModel", "threw", "I", false)
  | 1 => ("TicketHouseModel", "clock", "I", false)
  | 2 => ("TicketHouseModel", "draft", "[I", true)
  | 3 => ("TicketHouseModel", "drafted", "I", false)
  | 4 => ("TicketHouseModel", "texts", "[I", true)
  | 5 => ("TicketHouseModel", "lengths", "[I", true)
  | 6 => ("TicketHouseModel", "known", "[Z", true)
  | 7 => ("TicketHouseModel", "words", "[I", true)
  | 8 => ("TicketHouseModel", "wrongs", "[I", true)
  | 9 => ("TicketHouseModel", "wrongAt", "[I", true)
  | 10 => ("TicketHouseModel", "flags", "[I", true)
  | 11 => ("TicketHouseModel", "broken", "[Z", true)
  | 12 => ("TicketHouseModel", "sessions", "I", false)
  | 13 => ("TicketHouseModel", "user", "[I", true)
  | 14 => ("TicketHouseModel", "login", "[I", true)
  | 15 => ("TicketHouseModel", "used", "[I", true)
  | 16 => ("TicketHouseModel", "remembered", "[Z", true)
  | 17 => ("TicketHouseModel", "ended", "[Z", true)
  | 18 => ("TicketHouseModel", "tickets", "I", false)
  | 19 => ("TicketHouseModel", "kind", "[I", true)
  | 20 => ("TicketHouseModel", "of", "[I", true)
  | 21 => ("TicketHouseModel", "whom", "[I", true)
  | 22 => ("TicketHouseModel", "given", "[I", true)
  | 23 => ("TicketHouseModel", "fresh", "[Z", true)
  | 24 => ("TicketHouseModel", "parent", "[I", true)
  | 25 => ("TicketHouseModel", "spent", "[Z", true)
  | 26 => ("TicketHouseModel", "messages", "I", false)
  | 27 => ("TicketHouseModel", "message", "[I", true)
  | 28 => ("TicketHouseModel", "paper", "[I", true)
  | 29 => ("TicketHouseModel", "written", "I", false)
  | _ => ("TicketHouseModel", "digits", "[I", true)
def tM : Nat → FieldType := fun k => match k with
  | 0 => .int
  | 1 => .int
  | 2 => .array .int
  | 3 => .int
  | 4 => .array .int
  | 5 => .array .int
  | 6 => .array .boolean
  | 7 => .array .int
  | 8 => .array .int
  | 9 => .array .int
  | 10 => .array .int
  | 11 => .array .boolean
  | 12 => .int
  | 13 => .array .int
  | 14 => .array .int
  | 15 => .array .int
  | 16 => .array .boolean
  | 17 => .array .boolean
  | 18 => .int
  | 19 => .array .int
  | 20 => .array .int
  | 21 => .array .int
  | 22 => .array .int
  | 23 => .array .boolean
  | 24 => .array .int
  | 25 => .array .boolean
  | 26 => .int
  | 27 => .array .int
  | 28 => .array .int
  | 29 => .int
  | _ => .array .int
theorem nM_ok : ∀ a, a < 31 → ∀ b, b < 31 → a ≠ b → (FM a).2.1 ≠ (FM b).2.1 := by decide +kernel
theorem tM_ok : ∀ k, k < 31 → parseFieldDescriptor (FM k).2.2.1 = some (tM k) := by decide +kernel
def RL : String := "TicketHouseLaw"
def vwCl : List vw_C := [(RH, FH, 12), (RU, FU, 6), (RT, FT, 2), (RS, FS, 6), (RK, FK, 9), (RM, FM, 31)]
abbrev cH_init : ByteArray := prog_1_method_1_code
abbrev yH_init : MethodName := ⟨"TicketHouse", "<init>", "()V"⟩
abbrev cT_init : ByteArray := prog_3_method_1_code
abbrev yT_init : MethodName := ⟨"TicketHouse$Text", "<init>", "(I)V"⟩
abbrev cU_init : ByteArray := prog_5_method_1_code
abbrev yU_init : MethodName := ⟨"TicketHouse$User", "<init>", "(I)V"⟩
abbrev cH_document : ByteArray := prog_1_method_14_code
abbrev yH_document : MethodName := ⟨"TicketHouse", "document", "(I)I"⟩
abbrev cT_at : ByteArray := prog_3_method_11_code
abbrev yT_at : MethodName := ⟨"TicketHouse$Text", "at", "(I)I"⟩
abbrev cH_session : ByteArray := prog_1_method_15_code
abbrev yH_session : MethodName := ⟨"TicketHouse", "session", "(II)I"⟩
abbrev cH_findSession : ByteArray := prog_1_method_21_code
abbrev yH_findSession : MethodName := ⟨"TicketHouse", "findSession", "(I)LTicketHouse$Session;"⟩
abbrev cH_oneIf : ByteArray := prog_1_method_26_code
abbrev yH_oneIf : MethodName := ⟨"TicketHouse", "oneIf", "(Z)I"⟩
abbrev cH_about : ByteArray := prog_1_method_16_code
abbrev yH_about : MethodName := ⟨"TicketHouse", "about", "(II)I"⟩
abbrev cH_findTicket : ByteArray := prog_1_method_22_code
abbrev yH_findTicket : MethodName := ⟨"TicketHouse", "findTicket", "(I)LTicketHouse$Ticket;"⟩
abbrev cK_isGood : ByteArray := prog_4_method_2_code
abbrev yK_isGood : MethodName := ⟨"TicketHouse$Ticket", "isGood", "(I)Z"⟩
abbrev cH_message : ByteArray := prog_1_method_17_code
abbrev yH_message : MethodName := ⟨"TicketHouse", "message", "(I)I"⟩
abbrev cH_house : ByteArray := prog_1_method_18_code
abbrev yH_house : MethodName := ⟨"TicketHouse", "house", "(I)I"⟩
abbrev cH_wrongTries : ByteArray := prog_1_method_19_code
abbrev yH_wrongTries : MethodName := ⟨"TicketHouse", "wrongTries", "(I)I"⟩
abbrev cH_findUser : ByteArray := prog_1_method_20_code
abbrev yH_findUser : MethodName := ⟨"TicketHouse", "findUser", "(I)LTicketHouse$User;"⟩
abbrev cL_letter : ByteArray := method_3_code
abbrev yL_letter : MethodName := ⟨"TicketHouseLaw", "letter", "(LTicketHouse;I[J)I"⟩
abbrev cH_letter : ByteArray := prog_1_method_2_code
abbrev yH_letter : MethodName := ⟨"TicketHouse", "letter", "(I)I"⟩
abbrev cT_add : ByteArray := prog_3_method_3_code
abbrev yT_add : MethodName := ⟨"TicketHouse$Text", "add", "(C)V"⟩
abbrev cL_text : ByteArray := method_4_code
abbrev yL_text : MethodName := ⟨"TicketHouseLaw", "text", "(LTicketHouse;II[J)I"⟩
abbrev cH_text : ByteArray := prog_1_method_3_code
abbrev yH_text : MethodName := ⟨"TicketHouse", "text", "(II)I"⟩
abbrev cT_become : ByteArray := prog_3_method_10_code
abbrev yT_become : MethodName := ⟨"TicketHouse$Text", "become", "(LTicketHouse$Text;)V"⟩
abbrev cT_clear : ByteArray := prog_3_method_2_code
abbrev yT_clear : MethodName := ⟨"TicketHouse$Text", "clear", "()V"⟩
abbrev cL_password : ByteArray := method_5_code
abbrev yL_password : MethodName := ⟨"TicketHouseLaw", "password", "(LTicketHouse;II[J)I"⟩
abbrev cH_password : ByteArray := prog_1_method_4_code
abbrev yH_password : MethodName := ⟨"TicketHouse", "password", "(II)Z"⟩
abbrev cU_setWord : ByteArray := prog_5_method_2_code
abbrev yU_setWord : MethodName := ⟨"TicketHouse$User", "setWord", "(I)V"⟩
abbrev cL_service : ByteArray := method_6_code
abbrev yL_service : MethodName := ⟨"TicketHouseLaw", "service", "(LTicketHouse;II[J)I"⟩
abbrev cH_service : ByteArray := prog_1_method_5_code
abbrev yH_service : MethodName := ⟨"TicketHouse", "service", "(II)I"⟩
abbrev cH_isService : ByteArray := prog_1_method_23_code
abbrev yH_isService : MethodName := ⟨"TicketHouse", "isService", "(I)Z"⟩
abbrev cL_callback : ByteArray := method_7_code
abbrev yL_callback : MethodName := ⟨"TicketHouseLaw", "callback", "(LTicketHouse;IZ[J)I"⟩
abbrev cH_callback : ByteArray := prog_1_method_6_code
abbrev yH_callback : MethodName := ⟨"TicketHouse", "callback", "(IZ)Z"⟩
abbrev cL_login : ByteArray := method_8_code
abbrev yL_login : MethodName := ⟨"TicketHouseLaw", "login", "(LTicketHouse;IIZ[J)I"⟩
abbrev cH_login : ByteArray := prog_1_method_7_code
abbrev yH_login : MethodName := ⟨"TicketHouse", "login", "(IIZ)I"⟩
abbrev cU_attempt : ByteArray := prog_5_method_3_code
abbrev yU_attempt : MethodName := ⟨"TicketHouse$User", "attempt", "(II)I"⟩
abbrev cH_openSession : ByteArray := prog_1_method_27_code
abbrev yH_openSession : MethodName := ⟨"TicketHouse", "openSession", "(LTicketHouse$User;Z)LTicketHouse$Session;"⟩
abbrev cS_init : ByteArray := prog_2_method_1_code
abbrev yS_init : MethodName := ⟨"TicketHouse$Session", "<init>", "(ILTicketHouse$User;IZ)V"⟩
abbrev cL_enter : ByteArray := method_9_code
abbrev yL_enter : MethodName := ⟨"TicketHouseLaw", "enter", "(LTicketHouse;III[J)I"⟩
abbrev cH_enter : ByteArray := prog_1_method_8_code
abbrev yH_enter : MethodName := ⟨"TicketHouse", "enter", "(III)I"⟩
abbrev cH_isEnabled : ByteArray := prog_1_method_24_code
abbrev yH_isEnabled : MethodName := ⟨"TicketHouse", "isEnabled", "(I)Z"⟩
abbrev cH_hasFlag : ByteArray := prog_1_method_25_code
abbrev yH_hasFlag : MethodName := ⟨"TicketHouse", "hasFlag", "(II)Z"⟩
abbrev cH_giveTicket : ByteArray := prog_1_method_28_code
abbrev yH_giveTicket : MethodName := ⟨"TicketHouse", "giveTicket", "(ILTicketHouse$Session;ILTicketHouse$Ticket;)LTicketHouse$Ticket;"⟩
abbrev cK_init : ByteArray := prog_4_method_1_code
abbrev yK_init : MethodName := ⟨"TicketHouse$Ticket", "<init>", "(IILTicketHouse$Session;IILTicketHouse$Ticket;)V"⟩
abbrev cL_ticket : ByteArray := method_10_code
abbrev yL_ticket : MethodName := ⟨"TicketHouseLaw", "ticket", "(LTicketHouse;II[J)I"⟩
abbrev cH_ticket : ByteArray := prog_1_method_9_code
abbrev yH_ticket : MethodName := ⟨"TicketHouse", "ticket", "(II)I"⟩
abbrev cL_proxy : ByteArray := method_11_code
abbrev yL_proxy : MethodName := ⟨"TicketHouseLaw", "proxy", "(LTicketHouse;II[J)I"⟩
abbrev cH_proxy : ByteArray := prog_1_method_10_code
abbrev yH_proxy : MethodName := ⟨"TicketHouse", "proxy", "(II)I"⟩
abbrev cL_validate : ByteArray := method_12_code
abbrev yL_validate : MethodName := ⟨"TicketHouseLaw", "validate", "(LTicketHouse;IIII[J)I"⟩
abbrev cH_validate : ByteArray := prog_1_method_11_code
abbrev yH_validate : MethodName := ⟨"TicketHouse", "validate", "(IIII)I"⟩
abbrev cH_refuse : ByteArray := prog_1_method_32_code
abbrev yH_refuse : MethodName := ⟨"TicketHouse", "refuse", "(II)I"⟩
abbrev cT_addAll : ByteArray := prog_3_method_4_code
abbrev yT_addAll : MethodName := ⟨"TicketHouse$Text", "addAll", "(Ljava/lang/String;)V"⟩
abbrev cJs_length : ByteArray := prog_12_method_54_code
abbrev yJs_length : MethodName := ⟨"java/lang/String", "length", "()I"⟩
abbrev cJs_coder : ByteArray := prog_12_method_152_code
abbrev yJs_coder : MethodName := ⟨"java/lang/String", "coder", "()B"⟩
abbrev cJs_charAt : ByteArray := prog_12_method_56_code
abbrev yJs_charAt : MethodName := ⟨"java/lang/String", "charAt", "(I)C"⟩
abbrev cJs_isLatin1 : ByteArray := prog_12_method_154_code
abbrev yJs_isLatin1 : MethodName := ⟨"java/lang/String", "isLatin1", "()Z"⟩
abbrev cJl_charAt : ByteArray := prog_13_method_2_code
abbrev yJl_charAt : MethodName := ⟨"java/lang/StringLatin1", "charAt", "([BI)C"⟩
abbrev cJs_checkIndex : ByteArray := prog_12_method_155_code
abbrev yJs_checkIndex : MethodName := ⟨"java/lang/String", "checkIndex", "(II)V"⟩
abbrev cT_addNumber : ByteArray := prog_3_method_5_code
abbrev yT_addNumber : MethodName := ⟨"TicketHouse$Text", "addNumber", "(I)V"⟩
abbrev cT_turnRound : ByteArray := prog_3_method_6_code
abbrev yT_turnRound : MethodName := ⟨"TicketHouse$Text", "turnRound", "(I)V"⟩
abbrev cK_judge : ByteArray := prog_4_method_3_code
abbrev yK_judge : MethodName := ⟨"TicketHouse$Ticket", "judge", "(III)I"⟩
abbrev cH_grantFor : ByteArray := prog_1_method_29_code
abbrev yH_grantFor : MethodName := ⟨"TicketHouse", "grantFor", "(LTicketHouse$Ticket;I)LTicketHouse$Ticket;"⟩
abbrev cH_writeAcceptance : ByteArray := prog_1_method_33_code
abbrev yH_writeAcceptance : MethodName := ⟨"TicketHouse", "writeAcceptance", "(LTicketHouse$Ticket;ZLTicketHouse$Ticket;)V"⟩
abbrev cT_addEscapedT : ByteArray := prog_3_method_8_code
abbrev yT_addEscapedT : MethodName := ⟨"TicketHouse$Text", "addEscaped", "(LTicketHouse$Text;)V"⟩
abbrev cT_addEscapedC : ByteArray := prog_3_method_9_code
abbrev yT_addEscapedC : MethodName := ⟨"TicketHouse$Text", "addEscaped", "(C)V"⟩
abbrev cH_writeAttributes : ByteArray := prog_1_method_34_code
abbrev yH_writeAttributes : MethodName := ⟨"TicketHouse", "writeAttributes", "(LTicketHouse$User;I)V"⟩
abbrev cT_addElement : ByteArray := prog_3_method_7_code
abbrev yT_addElement : MethodName := ⟨"TicketHouse$Text", "addElement", "(CI)V"⟩
abbrev cH_writeChain : ByteArray := prog_1_method_35_code
abbrev yH_writeChain : MethodName := ⟨"TicketHouse", "writeChain", "(LTicketHouse$Ticket;)V"⟩
abbrev cL_logout : ByteArray := method_13_code
abbrev yL_logout : MethodName := ⟨"TicketHouseLaw", "logout", "(LTicketHouse;I[J)I"⟩
abbrev cH_logout : ByteArray := prog_1_method_12_code
abbrev yH_logout : MethodName := ⟨"TicketHouse", "logout", "(I)I"⟩
abbrev cH_end : ByteArray := prog_1_method_30_code
abbrev yH_end : MethodName := ⟨"TicketHouse", "end", "(LTicketHouse$Session;)I"⟩
abbrev cH_tellOfEnd : ByteArray := prog_1_method_31_code
abbrev yH_tellOfEnd : MethodName := ⟨"TicketHouse", "tellOfEnd", "(LTicketHouse$Ticket;)V"⟩
abbrev cL_tick : ByteArray := method_14_code
abbrev yL_tick : MethodName := ⟨"TicketHouseLaw", "tick", "(LTicketHouse;I[J)I"⟩
abbrev cH_tick : ByteArray := prog_1_method_13_code
abbrev yH_tick : MethodName := ⟨"TicketHouse", "tick", "(I)I"⟩
abbrev cU_unlockIfDue : ByteArray := prog_5_method_4_code
abbrev yU_unlockIfDue : MethodName := ⟨"TicketHouse$User", "unlockIfDue", "(I)V"⟩
abbrev cS_isOver : ByteArray := prog_2_method_2_code
abbrev yS_isOver : MethodName := ⟨"TicketHouse$Session", "isOver", "(I)Z"⟩
abbrev cM_init : ByteArray := prog_7_method_1_code
abbrev yM_init : MethodName := ⟨"TicketHouseModel", "<init>", "()V"⟩
abbrev cM_thrown : ByteArray := prog_7_method_2_code
abbrev yM_thrown : MethodName := ⟨"TicketHouseModel", "thrown", "()I"⟩
abbrev cM_letter : ByteArray := prog_7_method_5_code
abbrev yM_letter : MethodName := ⟨"TicketHouseModel", "letter", "(I)I"⟩
abbrev cM_within : ByteArray := prog_7_method_3_code
abbrev yM_within : MethodName := ⟨"TicketHouseModel", "within", "(III)Z"⟩
abbrev cM_text : ByteArray := prog_7_method_6_code
abbrev yM_text : MethodName := ⟨"TicketHouseModel", "text", "(II)I"⟩
abbrev cM_password : ByteArray := prog_7_method_7_code
abbrev yM_password : MethodName := ⟨"TicketHouseModel", "password", "(II)Z"⟩
abbrev cM_service : ByteArray := prog_7_method_8_code
abbrev yM_service : MethodName := ⟨"TicketHouseModel", "service", "(II)I"⟩
abbrev cM_callback : ByteArray := prog_7_method_9_code
abbrev yM_callback : MethodName := ⟨"TicketHouseModel", "callback", "(IZ)Z"⟩
abbrev cM_login : ByteArray := prog_7_method_12_code
abbrev yM_login : MethodName := ⟨"TicketHouseModel", "login", "(IIZ)I"⟩
abbrev cM_tries : ByteArray := prog_7_method_11_code
abbrev yM_tries : MethodName := ⟨"TicketHouseModel", "tries", "(IIZ)I"⟩
abbrev cM_counting : ByteArray := prog_7_method_10_code
abbrev yM_counting : MethodName := ⟨"TicketHouseModel", "counting", "(I)I"⟩
abbrev cM_enter : ByteArray := prog_7_method_14_code
abbrev yM_enter : MethodName := ⟨"TicketHouseModel", "enter", "(III)I"⟩
abbrev cM_enabled : ByteArray := prog_7_method_4_code
abbrev yM_enabled : MethodName := ⟨"TicketHouseModel", "enabled", "(I)Z"⟩
abbrev cM_give : ByteArray := prog_7_method_13_code
abbrev yM_give : MethodName := ⟨"TicketHouseModel", "give", "(IIIZI)I"⟩
abbrev cM_ticket : ByteArray := prog_7_method_15_code
abbrev yM_ticket : MethodName := ⟨"TicketHouseModel", "ticket", "(II)I"⟩
abbrev cM_proxy : ByteArray := prog_7_method_17_code
abbrev yM_proxy : MethodName := ⟨"TicketHouseModel", "proxy", "(II)I"⟩
abbrev cM_good : ByteArray := prog_7_method_16_code
abbrev yM_good : MethodName := ⟨"TicketHouseModel", "good", "(I)Z"⟩
abbrev cM_validate : ByteArray := prog_7_method_27_code
abbrev yM_validate : MethodName := ⟨"TicketHouseModel", "validate", "(IIII)I"⟩
abbrev cM_judged : ByteArray := prog_7_method_28_code
abbrev yM_judged : MethodName := ⟨"TicketHouseModel", "judged", "(III)I"⟩
abbrev cM_no : ByteArray := prog_7_method_24_code
abbrev yM_no : MethodName := ⟨"TicketHouseModel", "no", "(II)V"⟩
abbrev cM_put : ByteArray := prog_7_method_18_code
abbrev yM_put : MethodName := ⟨"TicketHouseModel", "put", "(I)V"⟩
abbrev cM_number : ByteArray := prog_7_method_20_code
abbrev yM_number : MethodName := ⟨"TicketHouseModel", "number", "(I)V"⟩
abbrev cM_tag : ByteArray := prog_7_method_19_code
abbrev yM_tag : MethodName := ⟨"TicketHouseModel", "tag", "(IIZ)V"⟩
abbrev cM_ok : ByteArray := prog_7_method_26_code
abbrev yM_ok : MethodName := ⟨"TicketHouseModel", "ok", "(IIZI)V"⟩
abbrev cM_letters : ByteArray := prog_7_method_22_code
abbrev yM_letters : MethodName := ⟨"TicketHouseModel", "letters", "(I)V"⟩
abbrev cM_entity : ByteArray := prog_7_method_21_code
abbrev yM_entity : MethodName := ⟨"TicketHouseModel", "entity", "(IIII)V"⟩
abbrev cM_element : ByteArray := prog_7_method_23_code
abbrev yM_element : MethodName := ⟨"TicketHouseModel", "element", "(II)V"⟩
abbrev cM_grant : ByteArray := prog_7_method_25_code
abbrev yM_grant : MethodName := ⟨"TicketHouseModel", "grant", "(I)I"⟩
abbrev cM_logout : ByteArray := prog_7_method_30_code
abbrev yM_logout : MethodName := ⟨"TicketHouseModel", "logout", "(I)I"⟩
abbrev cM_ends : ByteArray := prog_7_method_29_code
abbrev yM_ends : MethodName := ⟨"TicketHouseModel", "ends", "(I)I"⟩
abbrev cM_tick : ByteArray := prog_7_method_31_code
abbrev yM_tick : MethodName := ⟨"TicketHouseModel", "tick", "(I)I"⟩
abbrev cM_document : ByteArray := prog_7_method_32_code
abbrev yM_document : MethodName := ⟨"TicketHouseModel", "document", "(I)I"⟩
abbrev cM_session : ByteArray := prog_7_method_33_code
abbrev yM_session : MethodName := ⟨"TicketHouseModel", "session", "(II)I"⟩
abbrev cM_about : ByteArray := prog_7_method_34_code
abbrev yM_about : MethodName := ⟨"TicketHouseModel", "about", "(II)I"⟩
abbrev cM_message : ByteArray := prog_7_method_35_code
abbrev yM_message : MethodName := ⟨"TicketHouseModel", "message", "(I)I"⟩
abbrev cM_house : ByteArray := prog_7_method_36_code
abbrev yM_house : MethodName := ⟨"TicketHouseModel", "house", "(I)I"⟩
abbrev cL_law : ByteArray := code
abbrev yL_law : MethodName := ⟨"TicketHouseLaw", "law", "([I)Z"⟩
/-- a cell of kind k: an object of the class number .. of vwCl, or an array of element code .. -/
def hw_kd (k : Nat) : Nat ⊕ Nat := match k with
  | 0 => .inl 0
  | 2 => .inl 1
  | 4 => .inl 2
  | 9 => .inl 3
  | 11 => .inl 4
  | 20 => .inl 5
  | 1 => .inr 4
  | 3 => .inr 5
  | 5 => .inr 2
  | 6 => .inr 0
  | 7 => .inr 1
  | 8 => .inr 6
  | 10 => .inr 7
  | 12 => .inr 0
  | 21 => .inr 0
  | 22 => .inr 0
  | 23 => .inr 0
  | 24 => .inr 1
  | 25 => .inr 0
  | 26 => .inr 0
  | 27 => .inr 0
  | 28 => .inr 0
  | 29 => .inr 1
  | 30 => .inr 0
  | 31 => .inr 0
  | 32 => .inr 0
  | 33 => .inr 1
  | 34 => .inr 1
  | 35 => .inr 0
  | 36 => .inr 0
  | 37 => .inr 0
  | 38 => .inr 0
  | 39 => .inr 1
  | 40 => .inr 0
  | 41 => .inr 1
  | 42 => .inr 0
  | 43 => .inr 0
  | 44 => .inr 0
  | 50 => .inr 3
  | _ => .inr 0
/-- what slot j holds: 0 an int, 1 a long, k + 2 a reference to a cell of kind k -/
def hw_ty (k j : Nat) : Nat := match k with
  | 0 => (match j with | 0 => 3 | 1 => 8 | 2 => 9 | 3 => 10 | 4 => 12 | 5 => 14 | 6 => 6 | 7 => 6 | _ => 0)
  | 2 => (match j with | 1 => 5 | _ => 0)
  | 4 => (match j with | 0 => 7 | _ => 0)
  | 9 => (match j with | 1 => 4 | _ => 0)
  | 11 => (match j with | 2 => 11 | 5 => 13 | _ => 0)
  | 20 => (match j with | 2 => 23 | 4 => 24 | 5 => 25 | 6 => 26 | 7 => 27 | 8 => 28 | 9 => 29 | 10 => 30 | 11 => 31 | 13 => 32 | 14 => 33 | 15 => 34 | 16 => 35 | 17 => 36 | 19 => 37 | 20 => 38 | 21 => 39 | 22 => 40 | 23 => 41 | 24 => 42 | 25 => 43 | 27 => 44 | 28 => 45 | 30 => 46 | _ => 0)
  | 1 => 4
  | 3 => 6
  | 8 => 11
  | 10 => 13
  | 50 => 1
  | _ => 0
def hw_ln (k i : Nat) : Nat := match k with
  | 1 => 4
  | 3 => 4
  | 5 => if i = 17 then 1024 else 8
  | 6 => 6
  | 7 => 6
  | 8 => 40
  | 10 => 150
  | 12 => 150
  | 21 => 8
  | 22 => 128
  | 23 => 16
  | 24 => 4
  | 25 => 4
  | 26 => 4
  | 27 => 4
  | 28 => 6
  | 29 => 6
  | 30 => 40
  | 31 => 40
  | 32 => 40
  | 33 => 40
  | 34 => 40
  | 35 => 150
  | 36 => 150
  | 37 => 150
  | 38 => 150
  | 39 => 150
  | 40 => 150
  | 41 => 150
  | 42 => 200
  | 43 => 1400
  | 44 => 12
  | 50 => 1
  | _ => 0
theorem hw_ln_lt (k i : Nat) : hw_ln k i < 2 ^ 31 := by
  unfold hw_ln
  split <;> (try split) <;> decide
def hw_nt : Nat := 8
def hw_ft (e : Nat) : FieldType := match e with
  | 0 => .int
  | 1 => .boolean
  | 2 => .char
  | 3 => .long
  | 4 => .object "TicketHouse$User"
  | 5 => .object "TicketHouse$Text"
  | 6 => .object "TicketHouse$Session"
  | _ => .object "TicketHouse$Ticket"
/-- slots that hold the same from the constructors on -/
def hw_fx (k i j : Nat) : Option Nat := match k with
  | 0 => (match j with | 0 => some 0 | 1 => some 0 | 2 => some 0 | 3 => some 0 | 4 => some 0 | 5 => some 0 | 6 => some 16 | 7 => some 17 | _ => none)
  | 2 => (match j with | 0 => some i | 1 => some i | _ => none)
  | 4 => (match j with | 0 => some i | _ => none)
  | 20 => (match j with | 2 => some 0 | 4 => some 0 | 5 => some 0 | 6 => some 0 | 7 => some 0 | 8 => some 0 | 9 => some 0 | 10 => some 0 | 11 => some 0 | 13 => some 0 | 14 => some 0 | 15 => some 0 | 16 => some 0 | 17 => some 0 | 19 => some 0 | 20 => some 0 | 21 => some 0 | 22 => some 0 | 23 => some 0 | 24 => some 0 | 25 => some 0 | 27 => some 0 | 28 => some 0 | 30 => some 0 | _ => none)
  | 1 => some j
  | 3 => some (4 * i + j)
  | _ => none
def hw_okw : Cond → Bool
  | .fieldLinkNest .. => true
  | .methodLinkNest .. => true
  | .declares _ => true
  | .castable .. => true
  | .arrayOver (.object _) => true
  | w => goodWord w
def hw_TS : List Cond := lw_tbl.filter hw_okw
theorem hw_in {w : Cond} (i : Nat) (h : tables_1[i]? = some w) (ho : hw_okw w = true) : w ∈ hw_TS := List.mem_filter.mpr ⟨List.mem_append_right _ (List.mem_of_getElem? h), ho⟩
theorem hw_inl (ws : List Cond) (ps : List Nat) (hp : ws = ps.filterMap (fun i => tables_1[i]?)) (ho : ws.all hw_okw = true) : ∀ w ∈ ws, w ∈ hw_TS := fun w hw => by
  have h1 := List.all_eq_true.mp ho w hw
  rw [hp] at hw
  obtain ⟨i, -, hi⟩ := List.mem_filterMap.mp hw
  exact hw_in i hi h1
theorem hw_ok : hw_TS.all hw_okw = true := List.all_eq_true.mpr fun w hw => (List.mem_filter.mp hw).2
theorem hw_sel {y : MethodName} {n : Nat} (i : Nat) (h : lw_privs[i]? = some (y, n)) (ho : hw_okw (.selects y.cls y y) = true) : Cond.selects y.cls y y ∈ hw_TS := List.mem_filter.mpr ⟨List.mem_append_left _ (List.mem_map.mpr ⟨(y, n), List.mem_of_getElem? h, rfl⟩), ho⟩
def hw_strs : List (String × Nat × String) := [("TicketHouse", 53, "not a character of texts"), ("TicketHouse", 64, "the draft is full"), ("TicketHouse", 75, "no such user or text"), ("TicketHouse", 88, "no such user"), ("TicketHouse", 97, "no such service or flags"), ("TicketHouse", 99, "no such callback"), ("TicketHouse", 104, "no more sessions"), ("TicketHouse", 123, "no such user or enabled service"), ("TicketHouse", 128, "no more sessions or tickets"), ("TicketHouse", 143, "no such session or enabled service"), ("TicketHouse", 148, "the session has ended, or no more tickets"), ("TicketHouse", 160, "no such granting ticket or enabled service"), ("TicketHouse", 165, "the ticket is dead, or no more tickets"), ("TicketHouse", 171, "no such wishes or callback"), ("TicketHouse", 261, "<no c=\""), ("TicketHouse", 269, "\">"), ("TicketHouse", 271, "</no>"), ("TicketHouse", 273, "<ok u=\""), ("TicketHouse$Text", 48, "&amp;"), ("TicketHouse$Text", 50, "&lt;"), ("TicketHouse$Text", 52, "&gt;"), ("TicketHouse$Text", 54, "&quot;"), ("TicketHouse", 291, "<a"), ("TicketHouse", 293, "</a"), ("TicketHouse$Text", 39, "</"), ("TicketHouse", 289, "</ok>"), ("TicketHouse", 191, "no such session"), ("TicketHouse", 193, "the session has ended"), ("TicketHouse", 199, "the clock can't grow by that")]
def hw_sln (i : Nat) : Nat := match i with
  | 0 => 24
  | 1 => 17
  | 2 => 20
  | 3 => 12
  | 4 => 24
  | 5 => 16
  | 6 => 16
  | 7 => 31
  | 8 => 27
  | 9 => 34
  | 10 => 41
  | 11 => 42
  | 12 => 38
  | 13 => 26
  | 14 => 7
  | 15 => 2
  | 16 => 5
  | 17 => 7
  | 18 => 5
  | 19 => 4
  | 20 => 4
  | 21 => 6
  | 22 => 2
  | 23 => 3
  | 24 => 2
  | 25 => 5
  | 26 => 15
  | 27 => 21
  | 28 => 28
  | _ => 0
end
section
theorem dH_init_0 : decode cH_init 0 = .ok (.aload_n 0, 1) := by decide +kernel
theorem dH_init_1 : decode cH_init 1 = .ok (.invokespecial 1, 3) := by decide +kernel
theorem dH_init_4 : decode cH_init 4 = .ok (.aload_n 0, 1) := by decide +kernel
theorem dH_init_5 : decode cH_init 5 = .ok (.iconst 4, 1) := by decide +kernel
theorem dH_init_6 : decode cH_init 6 = .ok (.anewarray 9, 3) := by decide +kernel
theorem dH_init_9 : decode cH_init 9 = .ok (.putfield 11, 3) := by decide +kernel
theorem dH_init_12 : decode cH_init 12 = .ok (.aload_n 0, 1) := by decide +kernel
theorem dH_init_13 : decode cH_init 13 = .ok (.bipush 6, 2) := by decide +kernel
theorem dH_init_15 : decode cH_init 15 = .ok (.newarray .int, 2) := by decide +kernel
theorem dH_init_17 : decode cH_init 17 = .ok (.putfield 15, 3) := by decide +kernel
theorem dH_init_20 : decode cH_init 20 = .ok (.aload_n 0, 1) := by decide +kernel
theorem dH_init_21 : decode cH_init 21 = .ok (.bipush 6, 2) := by decide +kernel
theorem dH_init_23 : decode cH_init 23 = .ok (.newarray .boolean, 2) := by decide +kernel
theorem dH_init_25 : decode cH_init 25 = .ok (.putfield 19, 3) := by decide +kernel
theorem dH_init_28 : decode cH_init 28 = .ok (.aload_n 0, 1) := by decide +kernel
theorem dH_init_29 : decode cH_init 29 = .ok (.bipush 40, 2) := by decide +kernel
theorem dH_init_31 : decode cH_init 31 = .ok (.anewarray 23, 3) := by decide +kernel
theorem dH_init_34 : decode cH_init 34 = .ok (.putfield 25, 3) := by decide +kernel
theorem dH_init_37 : decode cH_init 37 = .ok (.aload_n 0, 1) := by decide +kernel
theorem dH_init_38 : decode cH_init 38 = .ok (.sipush 150, 3) := by decide +kernel
theorem dH_init_41 : decode cH_init 41 = .ok (.anewarray 29, 3) := by decide +kernel
theorem dH_init_44 : decode cH_init 44 = .ok (.putfield 31, 3) := by decide +kernel
theorem dH_init_47 : decode cH_init 47 = .ok (.aload_n 0, 1) := by decide +kernel
theorem dH_init_48 : decode cH_init 48 = .ok (.sipush 150, 3) := by decide +kernel
theorem dH_init_51 : decode cH_init 51 = .ok (.newarray .int, 2) := by decide +kernel
theorem dH_init_53 : decode cH_init 53 = .ok (.putfield 35, 3) := by decide +kernel
theorem dH_init_56 : decode cH_init 56 = .ok (.aload_n 0, 1) := by decide +kernel
theorem dH_init_57 : decode cH_init 57 = .ok (.new 38, 3) := by decide +kernel
theorem dH_init_60 : decode cH_init 60 = .ok (.dup, 1) := by decide +kernel
theorem dH_init_61 : decode cH_init 61 = .ok (.bipush 8, 2) := by decide +kernel
theorem dH_init_63 : decode cH_init 63 = .ok (.invokespecial 40, 3) := by decide +kernel
theorem dH_init_66 : decode cH_init 66 = .ok (.putfield 43, 3) := by decide +kernel
theorem dH_init_69 : decode cH_init 69 = .ok (.aload_n 0, 1) := by decide +kernel
theorem dH_init_70 : decode cH_init 70 = .ok (.new 38, 3) := by decide +kernel
theorem dH_init_73 : decode cH_init 73 = .ok (.dup, 1) := by decide +kernel
theorem dH_init_74 : decode cH_init 74 = .ok (.sipush 1024, 3) := by decide +kernel
theorem dH_init_77 : decode cH_init 77 = .ok (.invokespecial 40, 3) := by decide +kernel
theorem dH_init_80 : decode cH_init 80 = .ok (.putfield 47, 3) := by decide +kernel
theorem dH_init_83 : decode cH_init 83 = .ok (.iconst 0, 1) := by decide +kernel
theorem dH_init_84 : decode cH_init 84 = .ok (.istore_n 1, 1) := by decide +kernel
theorem dH_init_85 : decode cH_init 85 = .ok (.iload_n 1, 1) := by decide +kernel
theorem dH_init_86 : decode cH_init 86 = .ok (.iconst 4, 1) := by decide +kernel
theorem dH_init_87 : decode cH_init 87 = .ok (.if_icmp .ge 23, 3) := by decide +kernel
theorem dH_init_90 : decode cH_init 90 = .ok (.aload_n 0, 1) := by decide +kernel
theorem dH_init_91 : decode cH_init 91 = .ok (.getfield 11, 3) := by decide +kernel
theorem dH_init_94 : decode cH_init 94 = .ok (.iload_n 1, 1) := by decide +kernel
theorem dH_init_95 : decode cH_init 95 = .ok (.new 9, 3) := by decide +kernel
theorem dH_init_98 : decode cH_init 98 = .ok (.dup, 1) := by decide +kernel
theorem dH_init_99 : decode cH_init 99 = .ok (.iload_n 1, 1) := by decide +kernel
theorem dH_init_100 : decode cH_init 100 = .ok (.invokespecial 50, 3) := by decide +kernel
theorem dH_init_103 : decode cH_init 103 = .ok (.aastore, 1) := by decide +kernel
theorem dH_init_104 : decode cH_init 104 = .ok (.iinc 1 1, 3) := by decide +kernel
theorem dH_init_107 : decode cH_init 107 = .ok (.goto (-22), 3) := by decide +kernel
theorem dH_init_110 : decode cH_init 110 = .ok (.iconst 1, 1) := by decide +kernel
theorem dH_init_111 : decode cH_init 111 = .ok (.istore_n 1, 1) := by decide +kernel
theorem dH_init_112 : decode cH_init 112 = .ok (.iload_n 1, 1) := by decide +kernel
theorem dH_init_113 : decode cH_init 113 = .ok (.iconst 5, 1) := by decide +kernel
theorem dH_init_114 : decode cH_init 114 = .ok (.if_icmp .gt 16, 3) := by decide +kernel
theorem dH_init_117 : decode cH_init 117 = .ok (.aload_n 0, 1) := by decide +kernel
theorem dH_init_118 : decode cH_init 118 = .ok (.getfield 19, 3) := by decide +kernel
theorem dH_init_121 : decode cH_init 121 = .ok (.iload_n 1, 1) := by decide +kernel
theorem dH_init_122 : decode cH_init 122 = .ok (.iconst 1, 1) := by decide +kernel
theorem dH_init_123 : decode cH_init 123 = .ok (.bastore, 1) := by decide +kernel
theorem dH_init_124 : decode cH_init 124 = .ok (.iinc 1 1, 3) := by decide +kernel
theorem dH_init_127 : decode cH_init 127 = .ok (.goto (-15), 3) := by decide +kernel
theorem dH_init_130 : decode cH_init 130 = .ok (.return_, 1) := by decide +kernel
theorem dT_init_0 : decode cT_init 0 = .ok (.aload_n 0, 1) := by decide +kernel
theorem dT_init_1 : decode cT_init 1 = .ok (.invokespecial 3, 3) := by decide +kernel
theorem dT_init_4 : decode cT_init 4 = .ok (.aload_n 0, 1) := by decide +kernel
theorem dT_init_5 : decode cT_init 5 = .ok (.iload_n 1, 1) := by decide +kernel
theorem dT_init_6 : decode cT_init 6 = .ok (.newarray .char, 2) := by decide +kernel
theorem dT_init_8 : decode cT_init 8 = .ok (.putfield 9, 3) := by decide +kernel
theorem dT_init_11 : decode cT_init 11 = .ok (.return_, 1) := by decide +kernel
theorem dU_init_0 : decode cU_init 0 = .ok (.aload_n 0, 1) := by decide +kernel
theorem dU_init_1 : decode cU_init 1 = .ok (.invokespecial 3, 3) := by decide +kernel
theorem dU_init_4 : decode cU_init 4 = .ok (.aload_n 0, 1) := by decide +kernel
theorem dU_init_5 : decode cU_init 5 = .ok (.iconst 4, 1) := by decide +kernel
theorem dU_init_6 : decode cU_init 6 = .ok (.anewarray 9, 3) := by decide +kernel
theorem dU_init_9 : decode cU_init 9 = .ok (.putfield 11, 3) := by decide +kernel
theorem dU_init_12 : decode cU_init 12 = .ok (.aload_n 0, 1) := by decide +kernel
theorem dU_init_13 : decode cU_init 13 = .ok (.iload_n 1, 1) := by decide +kernel
theorem dU_init_14 : decode cU_init 14 = .ok (.putfield 17, 3) := by decide +kernel
theorem dU_init_17 : decode cU_init 17 = .ok (.iconst 0, 1) := by decide +kernel
theorem dU_init_18 : decode cU_init 18 = .ok (.istore_n 2, 1) := by decide +kernel
theorem dU_init_19 : decode cU_init 19 = .ok (.iload_n 2, 1) := by decide +kernel
theorem dU_init_20 : decode cU_init 20 = .ok (.aload_n 0, 1) := by decide +kernel
theorem dU_init_21 : decode cU_init 21 = .ok (.getfield 11, 3) := by decide +kernel
theorem dU_init_24 : decode cU_init 24 = .ok (.arraylength, 1) := by decide +kernel
theorem dU_init_25 : decode cU_init 25 = .ok (.if_icmp .ge 24, 3) := by decide +kernel
theorem dU_init_28 : decode cU_init 28 = .ok (.aload_n 0, 1) := by decide +kernel
theorem dU_init_29 : decode cU_init 29 = .ok (.getfield 11, 3) := by decide +kernel
theorem dU_init_32 : decode cU_init 32 = .ok (.iload_n 2, 1) := by decide +kernel
theorem dU_init_33 : decode cU_init 33 = .ok (.new 9, 3) := by decide +kernel
theorem dU_init_36 : decode cU_init 36 = .ok (.dup, 1) := by decide +kernel
theorem dU_init_37 : decode cU_init 37 = .ok (.bipush 8, 2) := by decide +kernel
theorem dU_init_39 : decode cU_init 39 = .ok (.invokespecial 21, 3) := by decide +kernel
theorem dU_init_42 : decode cU_init 42 = .ok (.aastore, 1) := by decide +kernel
theorem dU_init_43 : decode cU_init 43 = .ok (.iinc 2 1, 3) := by decide +kernel
theorem dU_init_46 : decode cU_init 46 = .ok (.goto (-27), 3) := by decide +kernel
theorem dU_init_49 : decode cU_init 49 = .ok (.return_, 1) := by decide +kernel
theorem dH_document_0 : decode cH_document 0 = .ok (.iload_n 1, 1) := by decide +kernel
theorem dH_document_1 : decode cH_document 1 = .ok (.iconst (-1), 1) := by decide +kernel
theorem dH_document_2 : decode cH_document 2 = .ok (.if_icmp .ne 13, 3) := by decide +kernel
theorem dH_document_5 : decode cH_document 5 = .ok (.aload_n 0, 1) := by decide +kernel
theorem dH_document_6 : decode cH_document 6 = .ok (.getfield 47, 3) := by decide +kernel
theorem dH_document_9 : decode cH_document 9 = .ok (.getfield 58, 3) := by decide +kernel
theorem dH_document_12 : decode cH_document 12 = .ok (.goto 11, 3) := by decide +kernel
theorem dH_document_15 : decode cH_document 15 = .ok (.aload_n 0, 1) := by decide +kernel
theorem dH_document_16 : decode cH_document 16 = .ok (.getfield 47, 3) := by decide +kernel
theorem dH_document_19 : decode cH_document 19 = .ok (.iload_n 1, 1) := by decide +kernel
theorem dH_document_20 : decode cH_document 20 = .ok (.invokevirtual 207, 3) := by decide +kernel
theorem dH_document_23 : decode cH_document 23 = .ok (.ireturn, 1) := by decide +kernel
theorem dT_at_0 : decode cT_at 0 = .ok (.iload_n 1, 1) := by decide +kernel
theorem dT_at_1 : decode cT_at 1 = .ok (.ifCond .lt 20, 3) := by decide +kernel
theorem dT_at_4 : decode cT_at 4 = .ok (.iload_n 1, 1) := by decide +kernel
theorem dT_at_5 : decode cT_at 5 = .ok (.aload_n 0, 1) := by decide +kernel
theorem dT_at_6 : decode cT_at 6 = .ok (.getfield 15, 3) := by decide +kernel
theorem dT_at_9 : decode cT_at 9 = .ok (.if_icmp .ge 12, 3) := by decide +kernel
theorem dT_at_12 : decode cT_at 12 = .ok (.aload_n 0, 1) := by decide +kernel
theorem dT_at_13 : decode cT_at 13 = .ok (.getfield 9, 3) := by decide +kernel
theorem dT_at_16 : decode cT_at 16 = .ok (.iload_n 1, 1) := by decide +kernel
theorem dT_at_17 : decode cT_at 17 = .ok (.caload, 1) := by decide +kernel
theorem dT_at_18 : decode cT_at 18 = .ok (.goto 4, 3) := by decide +kernel
theorem dT_at_21 : decode cT_at 21 = .ok (.iconst (-1), 1) := by decide +kernel
theorem dT_at_22 : decode cT_at 22 = .ok (.ireturn, 1) := by decide +kernel
theorem dH_session_0 : decode cH_session 0 = .ok (.aload_n 0, 1) := by decide +kernel
theorem dH_session_1 : decode cH_session 1 = .ok (.iload_n 1, 1) := by decide +kernel
theorem dH_session_2 : decode cH_session 2 = .ok (.invokevirtual 139, 3) := by decide +kernel
theorem dH_session_5 : decode cH_session 5 = .ok (.astore_n 3, 1) := by decide +kernel
theorem dH_session_6 : decode cH_session 6 = .ok (.aload_n 3, 1) := by decide +kernel
theorem dH_session_7 : decode cH_session 7 = .ok (.ifnonnull 5, 3) := by decide +kernel
theorem dH_session_10 : decode cH_session 10 = .ok (.iconst (-1), 1) := by decide +kernel
theorem dH_session_11 : decode cH_session 11 = .ok (.ireturn, 1) := by decide +kernel
theorem dH_session_12 : decode cH_session 12 = .ok (.iload_n 2, 1) := by decide +kernel
theorem dH_session_13 : decode cH_session 13 = .ok (.tableswitch 69 0 4 #[35, 43, 51, 56, 61], 35) := by decide +kernel
theorem dH_session_48 : decode cH_session 48 = .ok (.aload_n 3, 1) := by decide +kernel
theorem dH_session_49 : decode cH_session 49 = .ok (.getfield 211, 3) := by decide +kernel
theorem dH_session_52 : decode cH_session 52 = .ok (.getfield 215, 3) := by decide +kernel
theorem dH_session_55 : decode cH_session 55 = .ok (.ireturn, 1) := by decide +kernel
theorem dH_session_56 : decode cH_session 56 = .ok (.aload_n 3, 1) := by decide +kernel
theorem dH_session_57 : decode cH_session 57 = .ok (.getfield 145, 3) := by decide +kernel
theorem dH_session_60 : decode cH_session 60 = .ok (.invokestatic 216, 3) := by decide +kernel
theorem dH_session_63 : decode cH_session 63 = .ok (.ireturn, 1) := by decide +kernel
theorem dH_session_64 : decode cH_session 64 = .ok (.aload_n 3, 1) := by decide +kernel
theorem dH_session_65 : decode cH_session 65 = .ok (.getfield 220, 3) := by decide +kernel
theorem dH_session_68 : decode cH_session 68 = .ok (.ireturn, 1) := by decide +kernel
theorem dH_session_69 : decode cH_session 69 = .ok (.aload_n 3, 1) := by decide +kernel
theorem dH_session_70 : decode cH_session 70 = .ok (.getfield 150, 3) := by decide +kernel
theorem dH_session_73 : decode cH_session 73 = .ok (.ireturn, 1) := by decide +kernel
theorem dH_session_74 : decode cH_session 74 = .ok (.aload_n 3, 1) := by decide +kernel
theorem dH_session_75 : decode cH_session 75 = .ok (.getfield 223, 3) := by decide +kernel
theorem dH_session_78 : decode cH_session 78 = .ok (.invokestatic 216, 3) := by decide +kernel
theorem dH_session_81 : decode cH_session 81 = .ok (.ireturn, 1) := by decide +kernel
theorem dH_session_82 : decode cH_session 82 = .ok (.iconst (-1), 1) := by decide +kernel
theorem dH_session_83 : decode cH_session 83 = .ok (.ireturn, 1) := by decide +kernel
theorem dH_findSession_0 : decode cH_findSession 0 = .ok (.iload_n 1, 1) := by decide +kernel
theorem dH_findSession_1 : decode cH_findSession 1 = .ok (.ifCond .lt 20, 3) := by decide +kernel
theorem dH_findSession_4 : decode cH_findSession 4 = .ok (.iload_n 1, 1) := by decide +kernel
theorem dH_findSession_5 : decode cH_findSession 5 = .ok (.aload_n 0, 1) := by decide +kernel
theorem dH_findSession_6 : decode cH_findSession 6 = .ok (.getfield 101, 3) := by decide +kernel
theorem dH_findSession_9 : decode cH_findSession 9 = .ok (.if_icmp .ge 12, 3) := by decide +kernel
theorem dH_findSession_12 : decode cH_findSession 12 = .ok (.aload_n 0, 1) := by decide +kernel
theorem dH_findSession_13 : decode cH_findSession 13 = .ok (.getfield 25, 3) := by decide +kernel
theorem dH_findSession_16 : decode cH_findSession 16 = .ok (.iload_n 1, 1) := by decide +kernel
theorem dH_findSession_17 : decode cH_findSession 17 = .ok (.aaload, 1) := by decide +kernel
theorem dH_findSession_18 : decode cH_findSession 18 = .ok (.goto 4, 3) := by decide +kernel
theorem dH_findSession_21 : decode cH_findSession 21 = .ok (.aconst_null, 1) := by decide +kernel
theorem dH_findSession_22 : decode cH_findSession 22 = .ok (.areturn, 1) := by decide +kernel
theorem dH_oneIf_0 : decode cH_oneIf 0 = .ok (.iload_n 0, 1) := by decide +kernel
theorem dH_oneIf_1 : decode cH_oneIf 1 = .ok (.ifCond .eq 7, 3) := by decide +kernel
theorem dH_oneIf_4 : decode cH_oneIf 4 = .ok (.iconst 1, 1) := by decide +kernel
theorem dH_oneIf_5 : decode cH_oneIf 5 = .ok (.goto 4, 3) := by decide +kernel
theorem dH_oneIf_8 : decode cH_oneIf 8 = .ok (.iconst 0, 1) := by decide +kernel
theorem dH_oneIf_9 : decode cH_oneIf 9 = .ok (.ireturn, 1) := by decide +kernel
theorem dH_about_0 : decode cH_about 0 = .ok (.aload_n 0, 1) := by decide +kernel
theorem dH_about_1 : decode cH_about 1 = .ok (.iload_n 1, 1) := by decide +kernel
theorem dH_about_2 : decode cH_about 2 = .ok (.invokevirtual 153, 3) := by decide +kernel
theorem dH_about_5 : decode cH_about 5 = .ok (.astore_n 3, 1) := by decide +kernel
theorem dH_about_6 : decode cH_about 6 = .ok (.aload_n 3, 1) := by decide +kernel
theorem dH_about_7 : decode cH_about 7 = .ok (.ifnonnull 5, 3) := by decide +kernel
theorem dH_about_10 : decode cH_about 10 = .ok (.iconst (-1), 1) := by decide +kernel
theorem dH_about_11 : decode cH_about 11 = .ok (.ireturn, 1) := by decide +kernel
theorem dH_about_12 : decode cH_about 12 = .ok (.iload_n 2, 1) := by decide +kernel
theorem dH_about_13 : decode cH_about 13 = .ok (.tableswitch 114 0 7 #[47, 52, 64, 72, 77, 82, 90, 109], 47) := by decide +kernel
theorem dH_about_60 : decode cH_about 60 = .ok (.aload_n 3, 1) := by decide +kernel
theorem dH_about_61 : decode cH_about 61 = .ok (.getfield 157, 3) := by decide +kernel
theorem dH_about_64 : decode cH_about 64 = .ok (.ireturn, 1) := by decide +kernel
theorem dH_about_65 : decode cH_about 65 = .ok (.aload_n 3, 1) := by decide +kernel
theorem dH_about_66 : decode cH_about 66 = .ok (.aload_n 0, 1) := by decide +kernel
theorem dH_about_67 : decode cH_about 67 = .ok (.getfield 106, 3) := by decide +kernel
theorem dH_about_70 : decode cH_about 70 = .ok (.invokevirtual 162, 3) := by decide +kernel
theorem dH_about_73 : decode cH_about 73 = .ok (.invokestatic 216, 3) := by decide +kernel
theorem dH_about_76 : decode cH_about 76 = .ok (.ireturn, 1) := by decide +kernel
theorem dH_about_77 : decode cH_about 77 = .ok (.aload_n 3, 1) := by decide +kernel
theorem dH_about_78 : decode cH_about 78 = .ok (.getfield 167, 3) := by decide +kernel
theorem dH_about_81 : decode cH_about 81 = .ok (.getfield 117, 3) := by decide +kernel
theorem dH_about_84 : decode cH_about 84 = .ok (.ireturn, 1) := by decide +kernel
theorem dH_about_85 : decode cH_about 85 = .ok (.aload_n 3, 1) := by decide +kernel
theorem dH_about_86 : decode cH_about 86 = .ok (.getfield 226, 3) := by decide +kernel
theorem dH_about_89 : decode cH_about 89 = .ok (.ireturn, 1) := by decide +kernel
theorem dH_about_90 : decode cH_about 90 = .ok (.aload_n 3, 1) := by decide +kernel
theorem dH_about_91 : decode cH_about 91 = .ok (.getfield 229, 3) := by decide +kernel
theorem dH_about_94 : decode cH_about 94 = .ok (.ireturn, 1) := by decide +kernel
theorem dH_about_95 : decode cH_about 95 = .ok (.aload_n 3, 1) := by decide +kernel
theorem dH_about_96 : decode cH_about 96 = .ok (.getfield 134, 3) := by decide +kernel
theorem dH_about_99 : decode cH_about 99 = .ok (.invokestatic 216, 3) := by decide +kernel
theorem dH_about_102 : decode cH_about 102 = .ok (.ireturn, 1) := by decide +kernel
theorem dH_about_103 : decode cH_about 103 = .ok (.aload_n 3, 1) := by decide +kernel
theorem dH_about_104 : decode cH_about 104 = .ok (.getfield 232, 3) := by decide +kernel
theorem dH_about_107 : decode cH_about 107 = .ok (.ifnonnull 7, 3) := by decide +kernel
theorem dH_about_110 : decode cH_about 110 = .ok (.iconst (-1), 1) := by decide +kernel
theorem dH_about_111 : decode cH_about 111 = .ok (.goto 10, 3) := by decide +kernel
theorem dH_about_114 : decode cH_about 114 = .ok (.aload_n 3, 1) := by decide +kernel
theorem dH_about_115 : decode cH_about 115 = .ok (.getfield 232, 3) := by decide +kernel
theorem dH_about_118 : decode cH_about 118 = .ok (.getfield 138, 3) := by decide +kernel
theorem dH_about_121 : decode cH_about 121 = .ok (.ireturn, 1) := by decide +kernel
theorem dH_about_122 : decode cH_about 122 = .ok (.aload_n 3, 1) := by decide +kernel
theorem dH_about_123 : decode cH_about 123 = .ok (.getfield 236, 3) := by decide +kernel
theorem dH_about_126 : decode cH_about 126 = .ok (.ireturn, 1) := by decide +kernel
theorem dH_about_127 : decode cH_about 127 = .ok (.iconst (-1), 1) := by decide +kernel
theorem dH_about_128 : decode cH_about 128 = .ok (.ireturn, 1) := by decide +kernel
theorem dH_findTicket_0 : decode cH_findTicket 0 = .ok (.iload_n 1, 1) := by decide +kernel
theorem dH_findTicket_1 : decode cH_findTicket 1 = .ok (.ifCond .lt 20, 3) := by decide +kernel
theorem dH_findTicket_4 : decode cH_findTicket 4 = .ok (.iload_n 1, 1) := by decide +kernel
theorem dH_findTicket_5 : decode cH_findTicket 5 = .ok (.aload_n 0, 1) := by decide +kernel
theorem dH_findTicket_6 : decode cH_findTicket 6 = .ok (.getfield 125, 3) := by decide +kernel
theorem dH_findTicket_9 : decode cH_findTicket 9 = .ok (.if_icmp .ge 12, 3) := by decide +kernel
theorem dH_findTicket_12 : decode cH_findTicket 12 = .ok (.aload_n 0, 1) := by decide +kernel
theorem dH_findTicket_13 : decode cH_findTicket 13 = .ok (.getfield 31, 3) := by decide +kernel
theorem dH_findTicket_16 : decode cH_findTicket 16 = .ok (.iload_n 1, 1) := by decide +kernel
theorem dH_findTicket_17 : decode cH_findTicket 17 = .ok (.aaload, 1) := by decide +kernel
theorem dH_findTicket_18 : decode cH_findTicket 18 = .ok (.goto 4, 3) := by decide +kernel
theorem dH_findTicket_21 : decode cH_findTicket 21 = .ok (.aconst_null, 1) := by decide +kernel
theorem dH_findTicket_22 : decode cH_findTicket 22 = .ok (.areturn, 1) := by decide +kernel
theorem dK_isGood_0 : decode cK_isGood 0 = .ok (.aload_n 0, 1) := by decide +kernel
theorem dK_isGood_1 : decode cK_isGood 1 = .ok (.getfield 15, 3) := by decide +kernel
theorem dK_isGood_4 : decode cK_isGood 4 = .ok (.iconst 2, 1) := by decide +kernel
theorem dK_isGood_5 : decode cK_isGood 5 = .ok (.if_icmp .ne 8, 3) := by decide +kernel
theorem dK_isGood_8 : decode cK_isGood 8 = .ok (.bipush 60, 2) := by decide +kernel
theorem dK_isGood_10 : decode cK_isGood 10 = .ok (.goto 5, 3) := by decide +kernel
theorem dK_isGood_13 : decode cK_isGood 13 = .ok (.bipush 10, 2) := by decide +kernel
theorem dK_isGood_15 : decode cK_isGood 15 = .ok (.istore_n 2, 1) := by decide +kernel
theorem dK_isGood_16 : decode cK_isGood 16 = .ok (.aload_n 0, 1) := by decide +kernel
theorem dK_isGood_17 : decode cK_isGood 17 = .ok (.getfield 35, 3) := by decide +kernel
theorem dK_isGood_20 : decode cK_isGood 20 = .ok (.ifCond .ne 27, 3) := by decide +kernel
theorem dK_isGood_23 : decode cK_isGood 23 = .ok (.aload_n 0, 1) := by decide +kernel
theorem dK_isGood_24 : decode cK_isGood 24 = .ok (.getfield 18, 3) := by decide +kernel
theorem dK_isGood_27 : decode cK_isGood 27 = .ok (.getfield 39, 3) := by decide +kernel
theorem dK_isGood_30 : decode cK_isGood 30 = .ok (.ifCond .eq 17, 3) := by decide +kernel
theorem dK_isGood_33 : decode cK_isGood 33 = .ok (.iload_n 1, 1) := by decide +kernel
theorem dK_isGood_34 : decode cK_isGood 34 = .ok (.aload_n 0, 1) := by decide +kernel
theorem dK_isGood_35 : decode cK_isGood 35 = .ok (.getfield 25, 3) := by decide +kernel
theorem dK_isGood_38 : decode cK_isGood 38 = .ok (.isub, 1) := by decide +kernel
theorem dK_isGood_39 : decode cK_isGood 39 = .ok (.iload_n 2, 1) := by decide +kernel
theorem dK_isGood_40 : decode cK_isGood 40 = .ok (.if_icmp .gt 7, 3) := by decide +kernel
theorem dK_isGood_43 : decode cK_isGood 43 = .ok (.iconst 1, 1) := by decide +kernel
theorem dK_isGood_44 : decode cK_isGood 44 = .ok (.goto 4, 3) := by decide +kernel
theorem dK_isGood_47 : decode cK_isGood 47 = .ok (.iconst 0, 1) := by decide +kernel
theorem dK_isGood_48 : decode cK_isGood 48 = .ok (.ireturn, 1) := by decide +kernel
theorem dH_message_0 : decode cH_message 0 = .ok (.iload_n 1, 1) := by decide +kernel
theorem dH_message_1 : decode cH_message 1 = .ok (.ifCond .lt 20, 3) := by decide +kernel
theorem dH_message_4 : decode cH_message 4 = .ok (.iload_n 1, 1) := by decide +kernel
theorem dH_message_5 : decode cH_message 5 = .ok (.aload_n 0, 1) := by decide +kernel
theorem dH_message_6 : decode cH_message 6 = .ok (.getfield 239, 3) := by decide +kernel
theorem dH_message_9 : decode cH_message 9 = .ok (.if_icmp .ge 12, 3) := by decide +kernel
theorem dH_message_12 : decode cH_message 12 = .ok (.aload_n 0, 1) := by decide +kernel
theorem dH_message_13 : decode cH_message 13 = .ok (.getfield 35, 3) := by decide +kernel
theorem dH_message_16 : decode cH_message 16 = .ok (.iload_n 1, 1) := by decide +kernel
theorem dH_message_17 : decode cH_message 17 = .ok (.iaload, 1) := by decide +kernel
theorem dH_message_18 : decode cH_message 18 = .ok (.goto 4, 3) := by decide +kernel
theorem dH_message_21 : decode cH_message 21 = .ok (.iconst (-1), 1) := by decide +kernel
theorem dH_message_22 : decode cH_message 22 = .ok (.ireturn, 1) := by decide +kernel
theorem dH_house_0 : decode cH_house 0 = .ok (.iload_n 1, 1) := by decide +kernel
theorem dH_house_1 : decode cH_house 1 = .ok (.tableswitch 63 0 4 #[35, 40, 45, 50, 55], 35) := by decide +kernel
theorem dH_house_36 : decode cH_house 36 = .ok (.aload_n 0, 1) := by decide +kernel
theorem dH_house_37 : decode cH_house 37 = .ok (.getfield 106, 3) := by decide +kernel
theorem dH_house_40 : decode cH_house 40 = .ok (.ireturn, 1) := by decide +kernel
theorem dH_house_41 : decode cH_house 41 = .ok (.aload_n 0, 1) := by decide +kernel
theorem dH_house_42 : decode cH_house 42 = .ok (.getfield 101, 3) := by decide +kernel
theorem dH_house_45 : decode cH_house 45 = .ok (.ireturn, 1) := by decide +kernel
theorem dH_house_46 : decode cH_house 46 = .ok (.aload_n 0, 1) := by decide +kernel
theorem dH_house_47 : decode cH_house 47 = .ok (.getfield 125, 3) := by decide +kernel
theorem dH_house_50 : decode cH_house 50 = .ok (.ireturn, 1) := by decide +kernel
theorem dH_house_51 : decode cH_house 51 = .ok (.aload_n 0, 1) := by decide +kernel
theorem dH_house_52 : decode cH_house 52 = .ok (.getfield 239, 3) := by decide +kernel
theorem dH_house_55 : decode cH_house 55 = .ok (.ireturn, 1) := by decide +kernel
theorem dH_house_56 : decode cH_house 56 = .ok (.aload_n 0, 1) := by decide +kernel
theorem dH_house_57 : decode cH_house 57 = .ok (.getfield 43, 3) := by decide +kernel
theorem dH_house_60 : decode cH_house 60 = .ok (.getfield 58, 3) := by decide +kernel
theorem dH_house_63 : decode cH_house 63 = .ok (.ireturn, 1) := by decide +kernel
theorem dH_house_64 : decode cH_house 64 = .ok (.aload_n 0, 1) := by decide +kernel
theorem dH_house_65 : decode cH_house 65 = .ok (.iload_n 1, 1) := by decide +kernel
theorem dH_house_66 : decode cH_house 66 = .ok (.iconst 5, 1) := by decide +kernel
theorem dH_house_67 : decode cH_house 67 = .ok (.isub, 1) := by decide +kernel
theorem dH_house_68 : decode cH_house 68 = .ok (.invokevirtual 242, 3) := by decide +kernel
theorem dH_house_71 : decode cH_house 71 = .ok (.ireturn, 1) := by decide +kernel
theorem dH_wrongTries_0 : decode cH_wrongTries 0 = .ok (.aload_n 0, 1) := by decide +kernel
theorem dH_wrongTries_1 : decode cH_wrongTries 1 = .ok (.iload_n 1, 1) := by decide +kernel
theorem dH_wrongTries_2 : decode cH_wrongTries 2 = .ok (.invokevirtual 71, 3) := by decide +kernel
theorem dH_wrongTries_5 : decode cH_wrongTries 5 = .ok (.astore_n 2, 1) := by decide +kernel
theorem dH_wrongTries_6 : decode cH_wrongTries 6 = .ok (.aload_n 2, 1) := by decide +kernel
theorem dH_wrongTries_7 : decode cH_wrongTries 7 = .ok (.ifnonnull 7, 3) := by decide +kernel
theorem dH_wrongTries_10 : decode cH_wrongTries 10 = .ok (.iconst (-1), 1) := by decide +kernel
theorem dH_wrongTries_11 : decode cH_wrongTries 11 = .ok (.goto 7, 3) := by decide +kernel
theorem dH_wrongTries_14 : decode cH_wrongTries 14 = .ok (.aload_n 2, 1) := by decide +kernel
theorem dH_wrongTries_15 : decode cH_wrongTries 15 = .ok (.getfield 245, 3) := by decide +kernel
theorem dH_wrongTries_18 : decode cH_wrongTries 18 = .ok (.ireturn, 1) := by decide +kernel
theorem dH_findUser_0 : decode cH_findUser 0 = .ok (.iload_n 1, 1) := by decide +kernel
theorem dH_findUser_1 : decode cH_findUser 1 = .ok (.ifCond .lt 17, 3) := by decide +kernel
theorem dH_findUser_4 : decode cH_findUser 4 = .ok (.iload_n 1, 1) := by decide +kernel
theorem dH_findUser_5 : decode cH_findUser 5 = .ok (.iconst 4, 1) := by decide +kernel
theorem dH_findUser_6 : decode cH_findUser 6 = .ok (.if_icmp .ge 12, 3) := by decide +kernel
theorem dH_findUser_9 : decode cH_findUser 9 = .ok (.aload_n 0, 1) := by decide +kernel
theorem dH_findUser_10 : decode cH_findUser 10 = .ok (.getfield 11, 3) := by decide +kernel
theorem dH_findUser_13 : decode cH_findUser 13 = .ok (.iload_n 1, 1) := by decide +kernel
theorem dH_findUser_14 : decode cH_findUser 14 = .ok (.aaload, 1) := by decide +kernel
theorem dH_findUser_15 : decode cH_findUser 15 = .ok (.goto 4, 3) := by decide +kernel
theorem dH_findUser_18 : decode cH_findUser 18 = .ok (.aconst_null, 1) := by decide +kernel
theorem dH_findUser_19 : decode cH_findUser 19 = .ok (.areturn, 1) := by decide +kernel
theorem dL_letter_0 : decode cL_letter 0 = .ok (.aload_n 2, 1) := by decide +kernel
theorem dL_letter_1 : decode cL_letter 1 = .ok (.iconst 0, 1) := by decide +kernel
theorem dL_letter_2 : decode cL_letter 2 = .ok (.aload_n 0, 1) := by decide +kernel
theorem dL_letter_3 : decode cL_letter 3 = .ok (.iload_n 1, 1) := by decide +kernel
theorem dL_letter_4 : decode cL_letter 4 = .ok (.invokevirtual 7, 3) := by decide +kernel
theorem dL_letter_7 : decode cL_letter 7 = .ok (.i2l, 1) := by decide +kernel
theorem dL_letter_8 : decode cL_letter 8 = .ok (.lastore, 1) := by decide +kernel
theorem dL_letter_9 : decode cL_letter 9 = .ok (.goto 9, 3) := by decide +kernel
theorem dL_letter_12 : decode cL_letter 12 = .ok (.astore_n 3, 1) := by decide +kernel
theorem dL_letter_13 : decode cL_letter 13 = .ok (.iconst 1, 1) := by decide +kernel
theorem dL_letter_14 : decode cL_letter 14 = .ok (.ireturn, 1) := by decide +kernel
theorem dL_letter_15 : decode cL_letter 15 = .ok (.astore_n 3, 1) := by decide +kernel
theorem dL_letter_16 : decode cL_letter 16 = .ok (.iconst 2, 1) := by decide +kernel
theorem dL_letter_17 : decode cL_letter 17 = .ok (.ireturn, 1) := by decide +kernel
theorem dL_letter_18 : decode cL_letter 18 = .ok (.iconst 0, 1) := by decide +kernel
theorem dL_letter_19 : decode cL_letter 19 = .ok (.ireturn, 1) := by decide +kernel
theorem dH_letter_0 : decode cH_letter 0 = .ok (.iload_n 1, 1) := by decide +kernel
theorem dH_letter_1 : decode cH_letter 1 = .ok (.bipush 32, 2) := by decide +kernel
theorem dH_letter_3 : decode cH_letter 3 = .ok (.if_icmp .lt 9, 3) := by decide +kernel
theorem dH_letter_6 : decode cH_letter 6 = .ok (.iload_n 1, 1) := by decide +kernel
theorem dH_letter_7 : decode cH_letter 7 = .ok (.bipush 126, 2) := by decide +kernel
theorem dH_letter_9 : decode cH_letter 9 = .ok (.if_icmp .le 13, 3) := by decide +kernel
theorem dH_letter_12 : decode cH_letter 12 = .ok (.new 51, 3) := by decide +kernel
theorem dH_letter_15 : decode cH_letter 15 = .ok (.dup, 1) := by decide +kernel
theorem dH_letter_16 : decode cH_letter 16 = .ok (.ldc 53, 2) := by decide +kernel
theorem dH_letter_18 : decode cH_letter 18 = .ok (.invokespecial 55, 3) := by decide +kernel
theorem dH_letter_21 : decode cH_letter 21 = .ok (.athrow, 1) := by decide +kernel
theorem dH_letter_22 : decode cH_letter 22 = .ok (.aload_n 0, 1) := by decide +kernel
theorem dH_letter_23 : decode cH_letter 23 = .ok (.getfield 43, 3) := by decide +kernel
theorem dH_letter_26 : decode cH_letter 26 = .ok (.getfield 58, 3) := by decide +kernel
theorem dH_letter_29 : decode cH_letter 29 = .ok (.bipush 8, 2) := by decide +kernel
theorem dH_letter_31 : decode cH_letter 31 = .ok (.if_icmp .lt 13, 3) := by decide +kernel
theorem dH_letter_34 : decode cH_letter 34 = .ok (.new 62, 3) := by decide +kernel
theorem dH_letter_37 : decode cH_letter 37 = .ok (.dup, 1) := by decide +kernel
theorem dH_letter_38 : decode cH_letter 38 = .ok (.ldc 64, 2) := by decide +kernel
theorem dH_letter_40 : decode cH_letter 40 = .ok (.invokespecial 66, 3) := by decide +kernel
theorem dH_letter_43 : decode cH_letter 43 = .ok (.athrow, 1) := by decide +kernel
theorem dH_letter_44 : decode cH_letter 44 = .ok (.aload_n 0, 1) := by decide +kernel
theorem dH_letter_45 : decode cH_letter 45 = .ok (.getfield 43, 3) := by decide +kernel
theorem dH_letter_48 : decode cH_letter 48 = .ok (.iload_n 1, 1) := by decide +kernel
theorem dH_letter_49 : decode cH_letter 49 = .ok (.i2c, 1) := by decide +kernel
theorem dH_letter_50 : decode cH_letter 50 = .ok (.invokevirtual 67, 3) := by decide +kernel
theorem dH_letter_53 : decode cH_letter 53 = .ok (.aload_n 0, 1) := by decide +kernel
theorem dH_letter_54 : decode cH_letter 54 = .ok (.getfield 43, 3) := by decide +kernel
theorem dH_letter_57 : decode cH_letter 57 = .ok (.getfield 58, 3) := by decide +kernel
theorem dH_letter_60 : decode cH_letter 60 = .ok (.ireturn, 1) := by decide +kernel
theorem dT_add_0 : decode cT_add 0 = .ok (.aload_n 0, 1) := by decide +kernel
theorem dT_add_1 : decode cT_add 1 = .ok (.getfield 15, 3) := by decide +kernel
theorem dT_add_4 : decode cT_add 4 = .ok (.aload_n 0, 1) := by decide +kernel
theorem dT_add_5 : decode cT_add 5 = .ok (.getfield 9, 3) := by decide +kernel
theorem dT_add_8 : decode cT_add 8 = .ok (.arraylength, 1) := by decide +kernel
theorem dT_add_9 : decode cT_add 9 = .ok (.if_icmp .ge 23, 3) := by decide +kernel
theorem dT_add_12 : decode cT_add 12 = .ok (.aload_n 0, 1) := by decide +kernel
theorem dT_add_13 : decode cT_add 13 = .ok (.getfield 9, 3) := by decide +kernel
theorem dT_add_16 : decode cT_add 16 = .ok (.aload_n 0, 1) := by decide +kernel
theorem dT_add_17 : decode cT_add 17 = .ok (.getfield 15, 3) := by decide +kernel
theorem dT_add_20 : decode cT_add 20 = .ok (.iload_n 1, 1) := by decide +kernel
theorem dT_add_21 : decode cT_add 21 = .ok (.castore, 1) := by decide +kernel
theorem dT_add_22 : decode cT_add 22 = .ok (.aload_n 0, 1) := by decide +kernel
theorem dT_add_23 : decode cT_add 23 = .ok (.dup, 1) := by decide +kernel
theorem dT_add_24 : decode cT_add 24 = .ok (.getfield 15, 3) := by decide +kernel
theorem dT_add_27 : decode cT_add 27 = .ok (.iconst 1, 1) := by decide +kernel
theorem dT_add_28 : decode cT_add 28 = .ok (.iadd, 1) := by decide +kernel
theorem dT_add_29 : decode cT_add 29 = .ok (.putfield 15, 3) := by decide +kernel
theorem dT_add_32 : decode cT_add 32 = .ok (.return_, 1) := by decide +kernel
theorem dL_text_0 : decode cL_text 0 = .ok (.aload_n 3, 1) := by decide +kernel
theorem dL_text_1 : decode cL_text 1 = .ok (.iconst 0, 1) := by decide +kernel
theorem dL_text_2 : decode cL_text 2 = .ok (.aload_n 0, 1) := by decide +kernel
theorem dL_text_3 : decode cL_text 3 = .ok (.iload_n 1, 1) := by decide +kernel
theorem dL_text_4 : decode cL_text 4 = .ok (.iload_n 2, 1) := by decide +kernel
theorem dL_text_5 : decode cL_text 5 = .ok (.invokevirtual 17, 3) := by decide +kernel
theorem dL_text_8 : decode cL_text 8 = .ok (.i2l, 1) := by decide +kernel
theorem dL_text_9 : decode cL_text 9 = .ok (.lastore, 1) := by decide +kernel
theorem dL_text_10 : decode cL_text 10 = .ok (.goto 7, 3) := by decide +kernel
theorem dL_text_13 : decode cL_text 13 = .ok (.astore 4, 2) := by decide +kernel
theorem dL_text_15 : decode cL_text 15 = .ok (.iconst 1, 1) := by decide +kernel
theorem dL_text_16 : decode cL_text 16 = .ok (.ireturn, 1) := by decide +kernel
theorem dL_text_17 : decode cL_text 17 = .ok (.iconst 0, 1) := by decide +kernel
theorem dL_text_18 : decode cL_text 18 = .ok (.ireturn, 1) := by decide +kernel
theorem dH_text_0 : decode cH_text 0 = .ok (.aload_n 0, 1) := by decide +kernel
theorem dH_text_1 : decode cH_text 1 = .ok (.iload_n 1, 1) := by decide +kernel
theorem dH_text_2 : decode cH_text 2 = .ok (.invokevirtual 71, 3) := by decide +kernel
theorem dH_text_5 : decode cH_text 5 = .ok (.astore_n 3, 1) := by decide +kernel
theorem dH_text_6 : decode cH_text 6 = .ok (.aload_n 3, 1) := by decide +kernel
theorem dH_text_7 : decode cH_text 7 = .ok (.ifnull 12, 3) := by decide +kernel
theorem dH_text_10 : decode cH_text 10 = .ok (.iload_n 2, 1) := by decide +kernel
theorem dH_text_11 : decode cH_text 11 = .ok (.ifCond .lt 8, 3) := by decide +kernel
theorem dH_text_14 : decode cH_text 14 = .ok (.iload_n 2, 1) := by decide +kernel
theorem dH_text_15 : decode cH_text 15 = .ok (.iconst 3, 1) := by decide +kernel
theorem dH_text_16 : decode cH_text 16 = .ok (.if_icmp .le 13, 3) := by decide +kernel
theorem dH_text_19 : decode cH_text 19 = .ok (.new 51, 3) := by decide +kernel
theorem dH_text_22 : decode cH_text 22 = .ok (.dup, 1) := by decide +kernel
theorem dH_text_23 : decode cH_text 23 = .ok (.ldc 75, 2) := by decide +kernel
theorem dH_text_25 : decode cH_text 25 = .ok (.invokespecial 55, 3) := by decide +kernel
theorem dH_text_28 : decode cH_text 28 = .ok (.athrow, 1) := by decide +kernel
theorem dH_text_29 : decode cH_text 29 = .ok (.aload_n 3, 1) := by decide +kernel
theorem dH_text_30 : decode cH_text 30 = .ok (.getfield 77, 3) := by decide +kernel
theorem dH_text_33 : decode cH_text 33 = .ok (.iload_n 2, 1) := by decide +kernel
theorem dH_text_34 : decode cH_text 34 = .ok (.aaload, 1) := by decide +kernel
theorem dH_text_35 : decode cH_text 35 = .ok (.astore 4, 2) := by decide +kernel
theorem dH_text_37 : decode cH_text 37 = .ok (.aload 4, 2) := by decide +kernel
theorem dH_text_39 : decode cH_text 39 = .ok (.aload_n 0, 1) := by decide +kernel
theorem dH_text_40 : decode cH_text 40 = .ok (.getfield 43, 3) := by decide +kernel
theorem dH_text_43 : decode cH_text 43 = .ok (.invokevirtual 81, 3) := by decide +kernel
theorem dH_text_46 : decode cH_text 46 = .ok (.aload_n 0, 1) := by decide +kernel
theorem dH_text_47 : decode cH_text 47 = .ok (.getfield 43, 3) := by decide +kernel
theorem dH_text_50 : decode cH_text 50 = .ok (.invokevirtual 85, 3) := by decide +kernel
theorem dH_text_53 : decode cH_text 53 = .ok (.aload 4, 2) := by decide +kernel
theorem dH_text_55 : decode cH_text 55 = .ok (.getfield 58, 3) := by decide +kernel
theorem dH_text_58 : decode cH_text 58 = .ok (.ireturn, 1) := by decide +kernel
theorem dT_become_0 : decode cT_become 0 = .ok (.aload_n 0, 1) := by decide +kernel
theorem dT_become_1 : decode cT_become 1 = .ok (.invokevirtual 56, 3) := by decide +kernel
theorem dT_become_4 : decode cT_become 4 = .ok (.iconst 0, 1) := by decide +kernel
theorem dT_become_5 : decode cT_become 5 = .ok (.istore_n 2, 1) := by decide +kernel
theorem dT_become_6 : decode cT_become 6 = .ok (.iload_n 2, 1) := by decide +kernel
theorem dT_become_7 : decode cT_become 7 = .ok (.aload_n 1, 1) := by decide +kernel
theorem dT_become_8 : decode cT_become 8 = .ok (.getfield 15, 3) := by decide +kernel
theorem dT_become_11 : decode cT_become 11 = .ok (.if_icmp .ge 19, 3) := by decide +kernel
theorem dT_become_14 : decode cT_become 14 = .ok (.aload_n 0, 1) := by decide +kernel
theorem dT_become_15 : decode cT_become 15 = .ok (.aload_n 1, 1) := by decide +kernel
theorem dT_become_16 : decode cT_become 16 = .ok (.getfield 9, 3) := by decide +kernel
theorem dT_become_19 : decode cT_become 19 = .ok (.iload_n 2, 1) := by decide +kernel
theorem dT_become_20 : decode cT_become 20 = .ok (.caload, 1) := by decide +kernel
theorem dT_become_21 : decode cT_become 21 = .ok (.invokevirtual 28, 3) := by decide +kernel
theorem dT_become_24 : decode cT_become 24 = .ok (.iinc 2 1, 3) := by decide +kernel
theorem dT_become_27 : decode cT_become 27 = .ok (.goto (-21), 3) := by decide +kernel
theorem dT_become_30 : decode cT_become 30 = .ok (.return_, 1) := by decide +kernel
theorem dT_clear_0 : decode cT_clear 0 = .ok (.aload_n 0, 1) := by decide +kernel
theorem dT_clear_1 : decode cT_clear 1 = .ok (.iconst 0, 1) := by decide +kernel
theorem dT_clear_2 : decode cT_clear 2 = .ok (.putfield 15, 3) := by decide +kernel
theorem dT_clear_5 : decode cT_clear 5 = .ok (.return_, 1) := by decide +kernel
theorem dL_password_0 : decode cL_password 0 = .ok (.aload_n 3, 1) := by decide +kernel
theorem dL_password_1 : decode cL_password 1 = .ok (.iconst 0, 1) := by decide +kernel
theorem dL_password_2 : decode cL_password 2 = .ok (.aload_n 0, 1) := by decide +kernel
theorem dL_password_3 : decode cL_password 3 = .ok (.iload_n 1, 1) := by decide +kernel
theorem dL_password_4 : decode cL_password 4 = .ok (.iload_n 2, 1) := by decide +kernel
theorem dL_password_5 : decode cL_password 5 = .ok (.invokevirtual 21, 3) := by decide +kernel
theorem dL_password_8 : decode cL_password 8 = .ok (.ifCond .eq 7, 3) := by decide +kernel
theorem dL_password_11 : decode cL_password 11 = .ok (.lconst 1, 1) := by decide +kernel
theorem dL_password_12 : decode cL_password 12 = .ok (.goto 4, 3) := by decide +kernel
theorem dL_password_15 : decode cL_password 15 = .ok (.lconst 0, 1) := by decide +kernel
theorem dL_password_16 : decode cL_password 16 = .ok (.lastore, 1) := by decide +kernel
theorem dL_password_17 : decode cL_password 17 = .ok (.goto 7, 3) := by decide +kernel
theorem dL_password_20 : decode cL_password 20 = .ok (.astore 4, 2) := by decide +kernel
theorem dL_password_22 : decode cL_password 22 = .ok (.iconst 1, 1) := by decide +kernel
theorem dL_password_23 : decode cL_password 23 = .ok (.ireturn, 1) := by decide +kernel
theorem dL_password_24 : decode cL_password 24 = .ok (.iconst 0, 1) := by decide +kernel
theorem dL_password_25 : decode cL_password 25 = .ok (.ireturn, 1) := by decide +kernel
theorem dH_password_0 : decode cH_password 0 = .ok (.aload_n 0, 1) := by decide +kernel
theorem dH_password_1 : decode cH_password 1 = .ok (.iload_n 1, 1) := by decide +kernel
theorem dH_password_2 : decode cH_password 2 = .ok (.invokevirtual 71, 3) := by decide +kernel
theorem dH_password_5 : decode cH_password 5 = .ok (.astore_n 3, 1) := by decide +kernel
theorem dH_password_6 : decode cH_password 6 = .ok (.aload_n 3, 1) := by decide +kernel
theorem dH_password_7 : decode cH_password 7 = .ok (.ifnonnull 13, 3) := by decide +kernel
theorem dH_password_10 : decode cH_password 10 = .ok (.new 51, 3) := by decide +kernel
theorem dH_password_13 : decode cH_password 13 = .ok (.dup, 1) := by decide +kernel
theorem dH_password_14 : decode cH_password 14 = .ok (.ldc 88, 2) := by decide +kernel
theorem dH_password_16 : decode cH_password 16 = .ok (.invokespecial 55, 3) := by decide +kernel
theorem dH_password_19 : decode cH_password 19 = .ok (.athrow, 1) := by decide +kernel
theorem dH_password_20 : decode cH_password 20 = .ok (.aload_n 3, 1) := by decide +kernel
theorem dH_password_21 : decode cH_password 21 = .ok (.iload_n 2, 1) := by decide +kernel
theorem dH_password_22 : decode cH_password 22 = .ok (.invokevirtual 90, 3) := by decide +kernel
theorem dH_password_25 : decode cH_password 25 = .ok (.iconst 1, 1) := by decide +kernel
theorem dH_password_26 : decode cH_password 26 = .ok (.ireturn, 1) := by decide +kernel
theorem dU_setWord_0 : decode cU_setWord 0 = .ok (.aload_n 0, 1) := by decide +kernel
theorem dU_setWord_1 : decode cU_setWord 1 = .ok (.iload_n 1, 1) := by decide +kernel
theorem dU_setWord_2 : decode cU_setWord 2 = .ok (.putfield 24, 3) := by decide +kernel
theorem dU_setWord_5 : decode cU_setWord 5 = .ok (.aload_n 0, 1) := by decide +kernel
theorem dU_setWord_6 : decode cU_setWord 6 = .ok (.iconst 1, 1) := by decide +kernel
theorem dU_setWord_7 : decode cU_setWord 7 = .ok (.putfield 27, 3) := by decide +kernel
theorem dU_setWord_10 : decode cU_setWord 10 = .ok (.aload_n 0, 1) := by decide +kernel
theorem dU_setWord_11 : decode cU_setWord 11 = .ok (.iconst 0, 1) := by decide +kernel
theorem dU_setWord_12 : decode cU_setWord 12 = .ok (.putfield 31, 3) := by decide +kernel
theorem dU_setWord_15 : decode cU_setWord 15 = .ok (.return_, 1) := by decide +kernel
theorem dL_service_0 : decode cL_service 0 = .ok (.aload_n 3, 1) := by decide +kernel
theorem dL_service_1 : decode cL_service 1 = .ok (.iconst 0, 1) := by decide +kernel
theorem dL_service_2 : decode cL_service 2 = .ok (.aload_n 0, 1) := by decide +kernel
theorem dL_service_3 : decode cL_service 3 = .ok (.iload_n 1, 1) := by decide +kernel
theorem dL_service_4 : decode cL_service 4 = .ok (.iload_n 2, 1) := by decide +kernel
theorem dL_service_5 : decode cL_service 5 = .ok (.invokevirtual 25, 3) := by decide +kernel
theorem dL_service_8 : decode cL_service 8 = .ok (.i2l, 1) := by decide +kernel
theorem dL_service_9 : decode cL_service 9 = .ok (.lastore, 1) := by decide +kernel
theorem dL_service_10 : decode cL_service 10 = .ok (.goto 7, 3) := by decide +kernel
theorem dL_service_13 : decode cL_service 13 = .ok (.astore 4, 2) := by decide +kernel
theorem dL_service_15 : decode cL_service 15 = .ok (.iconst 1, 1) := by decide +kernel
theorem dL_service_16 : decode cL_service 16 = .ok (.ireturn, 1) := by decide +kernel
theorem dL_service_17 : decode cL_service 17 = .ok (.iconst 0, 1) := by decide +kernel
theorem dL_service_18 : decode cL_service 18 = .ok (.ireturn, 1) := by decide +kernel
theorem dH_service_0 : decode cH_service 0 = .ok (.iload_n 1, 1) := by decide +kernel
theorem dH_service_1 : decode cH_service 1 = .ok (.invokestatic 93, 3) := by decide +kernel
theorem dH_service_4 : decode cH_service 4 = .ok (.ifCond .eq 13, 3) := by decide +kernel
theorem dH_service_7 : decode cH_service 7 = .ok (.iload_n 2, 1) := by decide +kernel
theorem dH_service_8 : decode cH_service 8 = .ok (.ifCond .lt 9, 3) := by decide +kernel
theorem dH_service_11 : decode cH_service 11 = .ok (.iload_n 2, 1) := by decide +kernel
theorem dH_service_12 : decode cH_service 12 = .ok (.bipush 63, 2) := by decide +kernel
theorem dH_service_14 : decode cH_service 14 = .ok (.if_icmp .le 13, 3) := by decide +kernel
theorem dH_service_17 : decode cH_service 17 = .ok (.new 51, 3) := by decide +kernel
theorem dH_service_20 : decode cH_service 20 = .ok (.dup, 1) := by decide +kernel
theorem dH_service_21 : decode cH_service 21 = .ok (.ldc 97, 2) := by decide +kernel
theorem dH_service_23 : decode cH_service 23 = .ok (.invokespecial 55, 3) := by decide +kernel
theorem dH_service_26 : decode cH_service 26 = .ok (.athrow, 1) := by decide +kernel
theorem dH_service_27 : decode cH_service 27 = .ok (.aload_n 0, 1) := by decide +kernel
theorem dH_service_28 : decode cH_service 28 = .ok (.getfield 15, 3) := by decide +kernel
theorem dH_service_31 : decode cH_service 31 = .ok (.iload_n 1, 1) := by decide +kernel
theorem dH_service_32 : decode cH_service 32 = .ok (.iaload, 1) := by decide +kernel
theorem dH_service_33 : decode cH_service 33 = .ok (.istore_n 3, 1) := by decide +kernel
theorem dH_service_34 : decode cH_service 34 = .ok (.aload_n 0, 1) := by decide +kernel
theorem dH_service_35 : decode cH_service 35 = .ok (.getfield 15, 3) := by decide +kernel
theorem dH_service_38 : decode cH_service 38 = .ok (.iload_n 1, 1) := by decide +kernel
theorem dH_service_39 : decode cH_service 39 = .ok (.iload_n 2, 1) := by decide +kernel
theorem dH_service_40 : decode cH_service 40 = .ok (.iastore, 1) := by decide +kernel
theorem dH_service_41 : decode cH_service 41 = .ok (.iload_n 3, 1) := by decide +kernel
theorem dH_service_42 : decode cH_service 42 = .ok (.ireturn, 1) := by decide +kernel
theorem dH_isService_0 : decode cH_isService 0 = .ok (.iload_n 0, 1) := by decide +kernel
theorem dH_isService_1 : decode cH_isService 1 = .ok (.ifCond .lt 13, 3) := by decide +kernel
theorem dH_isService_4 : decode cH_isService 4 = .ok (.iload_n 0, 1) := by decide +kernel
theorem dH_isService_5 : decode cH_isService 5 = .ok (.bipush 6, 2) := by decide +kernel
theorem dH_isService_7 : decode cH_isService 7 = .ok (.if_icmp .ge 7, 3) := by decide +kernel
theorem dH_isService_10 : decode cH_isService 10 = .ok (.iconst 1, 1) := by decide +kernel
theorem dH_isService_11 : decode cH_isService 11 = .ok (.goto 4, 3) := by decide +kernel
theorem dH_isService_14 : decode cH_isService 14 = .ok (.iconst 0, 1) := by decide +kernel
theorem dH_isService_15 : decode cH_isService 15 = .ok (.ireturn, 1) := by decide +kernel
theorem dL_callback_0 : decode cL_callback 0 = .ok (.aload_n 3, 1) := by decide +kernel
theorem dL_callback_1 : decode cL_callback 1 = .ok (.iconst 0, 1) := by decide +kernel
theorem dL_callback_2 : decode cL_callback 2 = .ok (.aload_n 0, 1) := by decide +kernel
theorem dL_callback_3 : decode cL_callback 3 = .ok (.iload_n 1, 1) := by decide +kernel
theorem dL_callback_4 : decode cL_callback 4 = .ok (.iload_n 2, 1) := by decide +kernel
theorem dL_callback_5 : decode cL_callback 5 = .ok (.invokevirtual 28, 3) := by decide +kernel
theorem dL_callback_8 : decode cL_callback 8 = .ok (.ifCond .eq 7, 3) := by decide +kernel
theorem dL_callback_11 : decode cL_callback 11 = .ok (.lconst 1, 1) := by decide +kernel
theorem dL_callback_12 : decode cL_callback 12 = .ok (.goto 4, 3) := by decide +kernel
theorem dL_callback_15 : decode cL_callback 15 = .ok (.lconst 0, 1) := by decide +kernel
theorem dL_callback_16 : decode cL_callback 16 = .ok (.lastore, 1) := by decide +kernel
theorem dL_callback_17 : decode cL_callback 17 = .ok (.goto 7, 3) := by decide +kernel
theorem dL_callback_20 : decode cL_callback 20 = .ok (.astore 4, 2) := by decide +kernel
theorem dL_callback_22 : decode cL_callback 22 = .ok (.iconst 1, 1) := by decide +kernel
theorem dL_callback_23 : decode cL_callback 23 = .ok (.ireturn, 1) := by decide +kernel
theorem dL_callback_24 : decode cL_callback 24 = .ok (.iconst 0, 1) := by decide +kernel
theorem dL_callback_25 : decode cL_callback 25 = .ok (.ireturn, 1) := by decide +kernel
theorem dH_callback_0 : decode cH_callback 0 = .ok (.iload_n 1, 1) := by decide +kernel
theorem dH_callback_1 : decode cH_callback 1 = .ok (.iconst 1, 1) := by decide +kernel
theorem dH_callback_2 : decode cH_callback 2 = .ok (.if_icmp .lt 8, 3) := by decide +kernel
theorem dH_callback_5 : decode cH_callback 5 = .ok (.iload_n 1, 1) := by decide +kernel
theorem dH_callback_6 : decode cH_callback 6 = .ok (.iconst 5, 1) := by decide +kernel
theorem dH_callback_7 : decode cH_callback 7 = .ok (.if_icmp .le 13, 3) := by decide +kernel
theorem dH_callback_10 : decode cH_callback 10 = .ok (.new 51, 3) := by decide +kernel
theorem dH_callback_13 : decode cH_callback 13 = .ok (.dup, 1) := by decide +kernel
theorem dH_callback_14 : decode cH_callback 14 = .ok (.ldc 99, 2) := by decide +kernel
theorem dH_callback_16 : decode cH_callback 16 = .ok (.invokespecial 55, 3) := by decide +kernel
theorem dH_callback_19 : decode cH_callback 19 = .ok (.athrow, 1) := by decide +kernel
theorem dH_callback_20 : decode cH_callback 20 = .ok (.aload_n 0, 1) := by decide +kernel
theorem dH_callback_21 : decode cH_callback 21 = .ok (.getfield 19, 3) := by decide +kernel
theorem dH_callback_24 : decode cH_callback 24 = .ok (.iload_n 1, 1) := by decide +kernel
theorem dH_callback_25 : decode cH_callback 25 = .ok (.baload, 1) := by decide +kernel
theorem dH_callback_26 : decode cH_callback 26 = .ok (.istore_n 3, 1) := by decide +kernel
theorem dH_callback_27 : decode cH_callback 27 = .ok (.aload_n 0, 1) := by decide +kernel
theorem dH_callback_28 : decode cH_callback 28 = .ok (.getfield 19, 3) := by decide +kernel
theorem dH_callback_31 : decode cH_callback 31 = .ok (.iload_n 1, 1) := by decide +kernel
theorem dH_callback_32 : decode cH_callback 32 = .ok (.iload_n 2, 1) := by decide +kernel
theorem dH_callback_33 : decode cH_callback 33 = .ok (.bastore, 1) := by decide +kernel
theorem dH_callback_34 : decode cH_callback 34 = .ok (.iload_n 3, 1) := by decide +kernel
theorem dH_callback_35 : decode cH_callback 35 = .ok (.ireturn, 1) := by decide +kernel
theorem dL_login_0 : decode cL_login 0 = .ok (.aload 4, 2) := by decide +kernel
theorem dL_login_2 : decode cL_login 2 = .ok (.iconst 0, 1) := by decide +kernel
theorem dL_login_3 : decode cL_login 3 = .ok (.aload_n 0, 1) := by decide +kernel
theorem dL_login_4 : decode cL_login 4 = .ok (.iload_n 1, 1) := by decide +kernel
theorem dL_login_5 : decode cL_login 5 = .ok (.iload_n 2, 1) := by decide +kernel
theorem dL_login_6 : decode cL_login 6 = .ok (.iload_n 3, 1) := by decide +kernel
theorem dL_login_7 : decode cL_login 7 = .ok (.invokevirtual 32, 3) := by decide +kernel
theorem dL_login_10 : decode cL_login 10 = .ok (.i2l, 1) := by decide +kernel
theorem dL_login_11 : decode cL_login 11 = .ok (.lastore, 1) := by decide +kernel
theorem dL_login_12 : decode cL_login 12 = .ok (.goto 11, 3) := by decide +kernel
theorem dL_login_15 : decode cL_login 15 = .ok (.astore 5, 2) := by decide +kernel
theorem dL_login_17 : decode cL_login 17 = .ok (.iconst 1, 1) := by decide +kernel
theorem dL_login_18 : decode cL_login 18 = .ok (.ireturn, 1) := by decide +kernel
theorem dL_login_19 : decode cL_login 19 = .ok (.astore 5, 2) := by decide +kernel
theorem dL_login_21 : decode cL_login 21 = .ok (.iconst 2, 1) := by decide +kernel
theorem dL_login_22 : decode cL_login 22 = .ok (.ireturn, 1) := by decide +kernel
theorem dL_login_23 : decode cL_login 23 = .ok (.iconst 0, 1) := by decide +kernel
theorem dL_login_24 : decode cL_login 24 = .ok (.ireturn, 1) := by decide +kernel
theorem dH_login_0 : decode cH_login 0 = .ok (.aload_n 0, 1) := by decide +kernel
theorem dH_login_1 : decode cH_login 1 = .ok (.iload_n 1, 1) := by decide +kernel
theorem dH_login_2 : decode cH_login 2 = .ok (.invokevirtual 71, 3) := by decide +kernel
theorem dH_login_5 : decode cH_login 5 = .ok (.astore 4, 2) := by decide +kernel
theorem dH_login_7 : decode cH_login 7 = .ok (.aload 4, 2) := by decide +kernel
theorem dH_login_9 : decode cH_login 9 = .ok (.ifnonnull 13, 3) := by decide +kernel
theorem dH_login_12 : decode cH_login 12 = .ok (.new 51, 3) := by decide +kernel
theorem dH_login_15 : decode cH_login 15 = .ok (.dup, 1) := by decide +kernel
theorem dH_login_16 : decode cH_login 16 = .ok (.ldc 88, 2) := by decide +kernel
theorem dH_login_18 : decode cH_login 18 = .ok (.invokespecial 55, 3) := by decide +kernel
theorem dH_login_21 : decode cH_login 21 = .ok (.athrow, 1) := by decide +kernel
theorem dH_login_22 : decode cH_login 22 = .ok (.aload_n 0, 1) := by decide +kernel
theorem dH_login_23 : decode cH_login 23 = .ok (.getfield 101, 3) := by decide +kernel
theorem dH_login_26 : decode cH_login 26 = .ok (.bipush 40, 2) := by decide +kernel
theorem dH_login_28 : decode cH_login 28 = .ok (.if_icmp .lt 13, 3) := by decide +kernel
theorem dH_login_31 : decode cH_login 31 = .ok (.new 62, 3) := by decide +kernel
theorem dH_login_34 : decode cH_login 34 = .ok (.dup, 1) := by decide +kernel
theorem dH_login_35 : decode cH_login 35 = .ok (.ldc 104, 2) := by decide +kernel
theorem dH_login_37 : decode cH_login 37 = .ok (.invokespecial 66, 3) := by decide +kernel
theorem dH_login_40 : decode cH_login 40 = .ok (.athrow, 1) := by decide +kernel
theorem dH_login_41 : decode cH_login 41 = .ok (.aload 4, 2) := by decide +kernel
theorem dH_login_43 : decode cH_login 43 = .ok (.iload_n 2, 1) := by decide +kernel
theorem dH_login_44 : decode cH_login 44 = .ok (.aload_n 0, 1) := by decide +kernel
theorem dH_login_45 : decode cH_login 45 = .ok (.getfield 106, 3) := by decide +kernel
theorem dH_login_48 : decode cH_login 48 = .ok (.invokevirtual 109, 3) := by decide +kernel
theorem dH_login_51 : decode cH_login 51 = .ok (.istore 5, 2) := by decide +kernel
theorem dH_login_53 : decode cH_login 53 = .ok (.iload 5, 2) := by decide +kernel
theorem dH_login_55 : decode cH_login 55 = .ok (.ifCond .ne 16, 3) := by decide +kernel
theorem dH_login_58 : decode cH_login 58 = .ok (.aload_n 0, 1) := by decide +kernel
theorem dH_login_59 : decode cH_login 59 = .ok (.aload 4, 2) := by decide +kernel
theorem dH_login_61 : decode cH_login 61 = .ok (.iload_n 3, 1) := by decide +kernel
theorem dH_login_62 : decode cH_login 62 = .ok (.invokevirtual 113, 3) := by decide +kernel
theorem dH_login_65 : decode cH_login 65 = .ok (.getfield 117, 3) := by decide +kernel
theorem dH_login_68 : decode cH_login 68 = .ok (.goto 5, 3) := by decide +kernel
theorem dH_login_71 : decode cH_login 71 = .ok (.iload 5, 2) := by decide +kernel
theorem dH_login_73 : decode cH_login 73 = .ok (.ireturn, 1) := by decide +kernel
theorem dU_attempt_0 : decode cU_attempt 0 = .ok (.aload_n 0, 1) := by decide +kernel
theorem dU_attempt_1 : decode cU_attempt 1 = .ok (.getfield 27, 3) := by decide +kernel
theorem dU_attempt_4 : decode cU_attempt 4 = .ok (.ifCond .ne 6, 3) := by decide +kernel
theorem dU_attempt_7 : decode cU_attempt 7 = .ok (.bipush (-2), 2) := by decide +kernel
theorem dU_attempt_9 : decode cU_attempt 9 = .ok (.ireturn, 1) := by decide +kernel
theorem dU_attempt_10 : decode cU_attempt 10 = .ok (.aload_n 0, 1) := by decide +kernel
theorem dU_attempt_11 : decode cU_attempt 11 = .ok (.getfield 31, 3) := by decide +kernel
theorem dU_attempt_14 : decode cU_attempt 14 = .ok (.iconst 3, 1) := by decide +kernel
theorem dU_attempt_15 : decode cU_attempt 15 = .ok (.if_icmp .lt 6, 3) := by decide +kernel
theorem dU_attempt_18 : decode cU_attempt 18 = .ok (.bipush (-3), 2) := by decide +kernel
theorem dU_attempt_20 : decode cU_attempt 20 = .ok (.ireturn, 1) := by decide +kernel
theorem dU_attempt_21 : decode cU_attempt 21 = .ok (.iload_n 1, 1) := by decide +kernel
theorem dU_attempt_22 : decode cU_attempt 22 = .ok (.aload_n 0, 1) := by decide +kernel
theorem dU_attempt_23 : decode cU_attempt 23 = .ok (.getfield 24, 3) := by decide +kernel
theorem dU_attempt_26 : decode cU_attempt 26 = .ok (.if_icmp .ne 10, 3) := by decide +kernel
theorem dU_attempt_29 : decode cU_attempt 29 = .ok (.aload_n 0, 1) := by decide +kernel
theorem dU_attempt_30 : decode cU_attempt 30 = .ok (.iconst 0, 1) := by decide +kernel
theorem dU_attempt_31 : decode cU_attempt 31 = .ok (.putfield 31, 3) := by decide +kernel
theorem dU_attempt_34 : decode cU_attempt 34 = .ok (.iconst 0, 1) := by decide +kernel
theorem dU_attempt_35 : decode cU_attempt 35 = .ok (.ireturn, 1) := by decide +kernel
theorem dU_attempt_36 : decode cU_attempt 36 = .ok (.aload_n 0, 1) := by decide +kernel
theorem dU_attempt_37 : decode cU_attempt 37 = .ok (.dup, 1) := by decide +kernel
theorem dU_attempt_38 : decode cU_attempt 38 = .ok (.getfield 31, 3) := by decide +kernel
theorem dU_attempt_41 : decode cU_attempt 41 = .ok (.iconst 1, 1) := by decide +kernel
theorem dU_attempt_42 : decode cU_attempt 42 = .ok (.iadd, 1) := by decide +kernel
theorem dU_attempt_43 : decode cU_attempt 43 = .ok (.putfield 31, 3) := by decide +kernel
theorem dU_attempt_46 : decode cU_attempt 46 = .ok (.aload_n 0, 1) := by decide +kernel
theorem dU_attempt_47 : decode cU_attempt 47 = .ok (.iload_n 2, 1) := by decide +kernel
theorem dU_attempt_48 : decode cU_attempt 48 = .ok (.putfield 34, 3) := by decide +kernel
theorem dU_attempt_51 : decode cU_attempt 51 = .ok (.bipush (-2), 2) := by decide +kernel
theorem dU_attempt_53 : decode cU_attempt 53 = .ok (.ireturn, 1) := by decide +kernel
theorem dH_openSession_0 : decode cH_openSession 0 = .ok (.new 23, 3) := by decide +kernel
theorem dH_openSession_3 : decode cH_openSession 3 = .ok (.dup, 1) := by decide +kernel
theorem dH_openSession_4 : decode cH_openSession 4 = .ok (.aload_n 0, 1) := by decide +kernel
theorem dH_openSession_5 : decode cH_openSession 5 = .ok (.getfield 101, 3) := by decide +kernel
theorem dH_openSession_8 : decode cH_openSession 8 = .ok (.aload_n 1, 1) := by decide +kernel
theorem dH_openSession_9 : decode cH_openSession 9 = .ok (.aload_n 0, 1) := by decide +kernel
theorem dH_openSession_10 : decode cH_openSession 10 = .ok (.getfield 106, 3) := by decide +kernel
theorem dH_openSession_13 : decode cH_openSession 13 = .ok (.iload_n 2, 1) := by decide +kernel
theorem dH_openSession_14 : decode cH_openSession 14 = .ok (.invokespecial 251, 3) := by decide +kernel
theorem dH_openSession_17 : decode cH_openSession 17 = .ok (.astore_n 3, 1) := by decide +kernel
theorem dH_openSession_18 : decode cH_openSession 18 = .ok (.aload_n 0, 1) := by decide +kernel
theorem dH_openSession_19 : decode cH_openSession 19 = .ok (.getfield 25, 3) := by decide +kernel
theorem dH_openSession_22 : decode cH_openSession 22 = .ok (.aload_n 0, 1) := by decide +kernel
theorem dH_openSession_23 : decode cH_openSession 23 = .ok (.getfield 101, 3) := by decide +kernel
theorem dH_openSession_26 : decode cH_openSession 26 = .ok (.aload_n 3, 1) := by decide +kernel
theorem dH_openSession_27 : decode cH_openSession 27 = .ok (.aastore, 1) := by decide +kernel
theorem dH_openSession_28 : decode cH_openSession 28 = .ok (.aload_n 0, 1) := by decide +kernel
theorem dH_openSession_29 : decode cH_openSession 29 = .ok (.dup, 1) := by decide +kernel
theorem dH_openSession_30 : decode cH_openSession 30 = .ok (.getfield 101, 3) := by decide +kernel
theorem dH_openSession_33 : decode cH_openSession 33 = .ok (.iconst 1, 1) := by decide +kernel
theorem dH_openSession_34 : decode cH_openSession 34 = .ok (.iadd, 1) := by decide +kernel
theorem dH_openSession_35 : decode cH_openSession 35 = .ok (.putfield 101, 3) := by decide +kernel
theorem dH_openSession_38 : decode cH_openSession 38 = .ok (.aload_n 3, 1) := by decide +kernel
theorem dH_openSession_39 : decode cH_openSession 39 = .ok (.areturn, 1) := by decide +kernel
theorem dS_init_0 : decode cS_init 0 = .ok (.aload_n 0, 1) := by decide +kernel
theorem dS_init_1 : decode cS_init 1 = .ok (.invokespecial 1, 3) := by decide +kernel
theorem dS_init_4 : decode cS_init 4 = .ok (.aload_n 0, 1) := by decide +kernel
theorem dS_init_5 : decode cS_init 5 = .ok (.iconst 1, 1) := by decide +kernel
theorem dS_init_6 : decode cS_init 6 = .ok (.putfield 7, 3) := by decide +kernel
theorem dS_init_9 : decode cS_init 9 = .ok (.aload_n 0, 1) := by decide +kernel
theorem dS_init_10 : decode cS_init 10 = .ok (.iload_n 1, 1) := by decide +kernel
theorem dS_init_11 : decode cS_init 11 = .ok (.putfield 13, 3) := by decide +kernel
theorem dS_init_14 : decode cS_init 14 = .ok (.aload_n 0, 1) := by decide +kernel
theorem dS_init_15 : decode cS_init 15 = .ok (.aload_n 2, 1) := by decide +kernel
theorem dS_init_16 : decode cS_init 16 = .ok (.putfield 17, 3) := by decide +kernel
theorem dS_init_19 : decode cS_init 19 = .ok (.aload_n 0, 1) := by decide +kernel
theorem dS_init_20 : decode cS_init 20 = .ok (.iload_n 3, 1) := by decide +kernel
theorem dS_init_21 : decode cS_init 21 = .ok (.putfield 21, 3) := by decide +kernel
theorem dS_init_24 : decode cS_init 24 = .ok (.aload_n 0, 1) := by decide +kernel
theorem dS_init_25 : decode cS_init 25 = .ok (.iload 4, 2) := by decide +kernel
theorem dS_init_27 : decode cS_init 27 = .ok (.putfield 24, 3) := by decide +kernel
theorem dS_init_30 : decode cS_init 30 = .ok (.aload_n 0, 1) := by decide +kernel
theorem dS_init_31 : decode cS_init 31 = .ok (.iload_n 3, 1) := by decide +kernel
theorem dS_init_32 : decode cS_init 32 = .ok (.putfield 27, 3) := by decide +kernel
theorem dS_init_35 : decode cS_init 35 = .ok (.return_, 1) := by decide +kernel
theorem dL_enter_0 : decode cL_enter 0 = .ok (.aload 4, 2) := by decide +kernel
theorem dL_enter_2 : decode cL_enter 2 = .ok (.iconst 0, 1) := by decide +kernel
theorem dL_enter_3 : decode cL_enter 3 = .ok (.aload_n 0, 1) := by decide +kernel
theorem dL_enter_4 : decode cL_enter 4 = .ok (.iload_n 1, 1) := by decide +kernel
theorem dL_enter_5 : decode cL_enter 5 = .ok (.iload_n 2, 1) := by decide +kernel
theorem dL_enter_6 : decode cL_enter 6 = .ok (.iload_n 3, 1) := by decide +kernel
theorem dL_enter_7 : decode cL_enter 7 = .ok (.invokevirtual 36, 3) := by decide +kernel
theorem dL_enter_10 : decode cL_enter 10 = .ok (.i2l, 1) := by decide +kernel
theorem dL_enter_11 : decode cL_enter 11 = .ok (.lastore, 1) := by decide +kernel
theorem dL_enter_12 : decode cL_enter 12 = .ok (.goto 11, 3) := by decide +kernel
theorem dL_enter_15 : decode cL_enter 15 = .ok (.astore 5, 2) := by decide +kernel
theorem dL_enter_17 : decode cL_enter 17 = .ok (.iconst 1, 1) := by decide +kernel
theorem dL_enter_18 : decode cL_enter 18 = .ok (.ireturn, 1) := by decide +kernel
theorem dL_enter_19 : decode cL_enter 19 = .ok (.astore 5, 2) := by decide +kernel
theorem dL_enter_21 : decode cL_enter 21 = .ok (.iconst 2, 1) := by decide +kernel
theorem dL_enter_22 : decode cL_enter 22 = .ok (.ireturn, 1) := by decide +kernel
theorem dL_enter_23 : decode cL_enter 23 = .ok (.iconst 0, 1) := by decide +kernel
theorem dL_enter_24 : decode cL_enter 24 = .ok (.ireturn, 1) := by decide +kernel
theorem dH_enter_0 : decode cH_enter 0 = .ok (.aload_n 0, 1) := by decide +kernel
theorem dH_enter_1 : decode cH_enter 1 = .ok (.iload_n 1, 1) := by decide +kernel
theorem dH_enter_2 : decode cH_enter 2 = .ok (.invokevirtual 71, 3) := by decide +kernel
theorem dH_enter_5 : decode cH_enter 5 = .ok (.astore 4, 2) := by decide +kernel
theorem dH_enter_7 : decode cH_enter 7 = .ok (.aload 4, 2) := by decide +kernel
theorem dH_enter_9 : decode cH_enter 9 = .ok (.ifnull 11, 3) := by decide +kernel
theorem dH_enter_12 : decode cH_enter 12 = .ok (.aload_n 0, 1) := by decide +kernel
theorem dH_enter_13 : decode cH_enter 13 = .ok (.iload_n 3, 1) := by decide +kernel
theorem dH_enter_14 : decode cH_enter 14 = .ok (.invokevirtual 120, 3) := by decide +kernel
theorem dH_enter_17 : decode cH_enter 17 = .ok (.ifCond .ne 13, 3) := by decide +kernel
theorem dH_enter_20 : decode cH_enter 20 = .ok (.new 51, 3) := by decide +kernel
theorem dH_enter_23 : decode cH_enter 23 = .ok (.dup, 1) := by decide +kernel
theorem dH_enter_24 : decode cH_enter 24 = .ok (.ldc 123, 2) := by decide +kernel
theorem dH_enter_26 : decode cH_enter 26 = .ok (.invokespecial 55, 3) := by decide +kernel
theorem dH_enter_29 : decode cH_enter 29 = .ok (.athrow, 1) := by decide +kernel
theorem dH_enter_30 : decode cH_enter 30 = .ok (.aload_n 0, 1) := by decide +kernel
theorem dH_enter_31 : decode cH_enter 31 = .ok (.getfield 101, 3) := by decide +kernel
theorem dH_enter_34 : decode cH_enter 34 = .ok (.bipush 40, 2) := by decide +kernel
theorem dH_enter_36 : decode cH_enter 36 = .ok (.if_icmp .ge 13, 3) := by decide +kernel
theorem dH_enter_39 : decode cH_enter 39 = .ok (.aload_n 0, 1) := by decide +kernel
theorem dH_enter_40 : decode cH_enter 40 = .ok (.getfield 125, 3) := by decide +kernel
theorem dH_enter_43 : decode cH_enter 43 = .ok (.sipush 150, 3) := by decide +kernel
theorem dH_enter_46 : decode cH_enter 46 = .ok (.if_icmp .lt 13, 3) := by decide +kernel
theorem dH_enter_49 : decode cH_enter 49 = .ok (.new 62, 3) := by decide +kernel
theorem dH_enter_52 : decode cH_enter 52 = .ok (.dup, 1) := by decide +kernel
theorem dH_enter_53 : decode cH_enter 53 = .ok (.ldc 128, 2) := by decide +kernel
theorem dH_enter_55 : decode cH_enter 55 = .ok (.invokespecial 66, 3) := by decide +kernel
theorem dH_enter_58 : decode cH_enter 58 = .ok (.athrow, 1) := by decide +kernel
theorem dH_enter_59 : decode cH_enter 59 = .ok (.aload 4, 2) := by decide +kernel
theorem dH_enter_61 : decode cH_enter 61 = .ok (.iload_n 2, 1) := by decide +kernel
theorem dH_enter_62 : decode cH_enter 62 = .ok (.aload_n 0, 1) := by decide +kernel
theorem dH_enter_63 : decode cH_enter 63 = .ok (.getfield 106, 3) := by decide +kernel
theorem dH_enter_66 : decode cH_enter 66 = .ok (.invokevirtual 109, 3) := by decide +kernel
theorem dH_enter_69 : decode cH_enter 69 = .ok (.istore 5, 2) := by decide +kernel
theorem dH_enter_71 : decode cH_enter 71 = .ok (.iload 5, 2) := by decide +kernel
theorem dH_enter_73 : decode cH_enter 73 = .ok (.ifCond .eq 6, 3) := by decide +kernel
theorem dH_enter_76 : decode cH_enter 76 = .ok (.iload 5, 2) := by decide +kernel
theorem dH_enter_78 : decode cH_enter 78 = .ok (.ireturn, 1) := by decide +kernel
theorem dH_enter_79 : decode cH_enter 79 = .ok (.aload_n 0, 1) := by decide +kernel
theorem dH_enter_80 : decode cH_enter 80 = .ok (.iconst 0, 1) := by decide +kernel
theorem dH_enter_81 : decode cH_enter 81 = .ok (.aload_n 0, 1) := by decide +kernel
theorem dH_enter_82 : decode cH_enter 82 = .ok (.aload 4, 2) := by decide +kernel
theorem dH_enter_84 : decode cH_enter 84 = .ok (.iconst 0, 1) := by decide +kernel
theorem dH_enter_85 : decode cH_enter 85 = .ok (.invokevirtual 113, 3) := by decide +kernel
theorem dH_enter_88 : decode cH_enter 88 = .ok (.iload_n 3, 1) := by decide +kernel
theorem dH_enter_89 : decode cH_enter 89 = .ok (.aconst_null, 1) := by decide +kernel
theorem dH_enter_90 : decode cH_enter 90 = .ok (.invokevirtual 130, 3) := by decide +kernel
theorem dH_enter_93 : decode cH_enter 93 = .ok (.astore 6, 2) := by decide +kernel
theorem dH_enter_95 : decode cH_enter 95 = .ok (.aload 6, 2) := by decide +kernel
theorem dH_enter_97 : decode cH_enter 97 = .ok (.iconst 1, 1) := by decide +kernel
theorem dH_enter_98 : decode cH_enter 98 = .ok (.putfield 134, 3) := by decide +kernel
theorem dH_enter_101 : decode cH_enter 101 = .ok (.aload 6, 2) := by decide +kernel
theorem dH_enter_103 : decode cH_enter 103 = .ok (.getfield 138, 3) := by decide +kernel
theorem dH_enter_106 : decode cH_enter 106 = .ok (.ireturn, 1) := by decide +kernel
theorem dH_isEnabled_0 : decode cH_isEnabled 0 = .ok (.aload_n 0, 1) := by decide +kernel
theorem dH_isEnabled_1 : decode cH_isEnabled 1 = .ok (.iload_n 1, 1) := by decide +kernel
theorem dH_isEnabled_2 : decode cH_isEnabled 2 = .ok (.iconst 1, 1) := by decide +kernel
theorem dH_isEnabled_3 : decode cH_isEnabled 3 = .ok (.invokevirtual 247, 3) := by decide +kernel
theorem dH_isEnabled_6 : decode cH_isEnabled 6 = .ok (.ireturn, 1) := by decide +kernel
theorem dH_hasFlag_0 : decode cH_hasFlag 0 = .ok (.iload_n 1, 1) := by decide +kernel
theorem dH_hasFlag_1 : decode cH_hasFlag 1 = .ok (.invokestatic 93, 3) := by decide +kernel
theorem dH_hasFlag_4 : decode cH_hasFlag 4 = .ok (.ifCond .eq 18, 3) := by decide +kernel
theorem dH_hasFlag_7 : decode cH_hasFlag 7 = .ok (.aload_n 0, 1) := by decide +kernel
theorem dH_hasFlag_8 : decode cH_hasFlag 8 = .ok (.getfield 15, 3) := by decide +kernel
theorem dH_hasFlag_11 : decode cH_hasFlag 11 = .ok (.iload_n 1, 1) := by decide +kernel
theorem dH_hasFlag_12 : decode cH_hasFlag 12 = .ok (.iaload, 1) := by decide +kernel
theorem dH_hasFlag_13 : decode cH_hasFlag 13 = .ok (.iload_n 2, 1) := by decide +kernel
theorem dH_hasFlag_14 : decode cH_hasFlag 14 = .ok (.iand, 1) := by decide +kernel
theorem dH_hasFlag_15 : decode cH_hasFlag 15 = .ok (.ifCond .eq 7, 3) := by decide +kernel
theorem dH_hasFlag_18 : decode cH_hasFlag 18 = .ok (.iconst 1, 1) := by decide +kernel
theorem dH_hasFlag_19 : decode cH_hasFlag 19 = .ok (.goto 4, 3) := by decide +kernel
theorem dH_hasFlag_22 : decode cH_hasFlag 22 = .ok (.iconst 0, 1) := by decide +kernel
theorem dH_hasFlag_23 : decode cH_hasFlag 23 = .ok (.ireturn, 1) := by decide +kernel
theorem dH_giveTicket_0 : decode cH_giveTicket 0 = .ok (.new 29, 3) := by decide +kernel
theorem dH_giveTicket_3 : decode cH_giveTicket 3 = .ok (.dup, 1) := by decide +kernel
theorem dH_giveTicket_4 : decode cH_giveTicket 4 = .ok (.aload_n 0, 1) := by decide +kernel
theorem dH_giveTicket_5 : decode cH_giveTicket 5 = .ok (.getfield 125, 3) := by decide +kernel
theorem dH_giveTicket_8 : decode cH_giveTicket 8 = .ok (.iload_n 1, 1) := by decide +kernel
theorem dH_giveTicket_9 : decode cH_giveTicket 9 = .ok (.aload_n 2, 1) := by decide +kernel
theorem dH_giveTicket_10 : decode cH_giveTicket 10 = .ok (.iload_n 3, 1) := by decide +kernel
theorem dH_giveTicket_11 : decode cH_giveTicket 11 = .ok (.aload_n 0, 1) := by decide +kernel
theorem dH_giveTicket_12 : decode cH_giveTicket 12 = .ok (.getfield 106, 3) := by decide +kernel
theorem dH_giveTicket_15 : decode cH_giveTicket 15 = .ok (.aload 4, 2) := by decide +kernel
theorem dH_giveTicket_17 : decode cH_giveTicket 17 = .ok (.invokespecial 254, 3) := by decide +kernel
theorem dH_giveTicket_20 : decode cH_giveTicket 20 = .ok (.astore 5, 2) := by decide +kernel
theorem dH_giveTicket_22 : decode cH_giveTicket 22 = .ok (.aload_n 0, 1) := by decide +kernel
theorem dH_giveTicket_23 : decode cH_giveTicket 23 = .ok (.getfield 31, 3) := by decide +kernel
theorem dH_giveTicket_26 : decode cH_giveTicket 26 = .ok (.aload_n 0, 1) := by decide +kernel
theorem dH_giveTicket_27 : decode cH_giveTicket 27 = .ok (.getfield 125, 3) := by decide +kernel
theorem dH_giveTicket_30 : decode cH_giveTicket 30 = .ok (.aload 5, 2) := by decide +kernel
theorem dH_giveTicket_32 : decode cH_giveTicket 32 = .ok (.aastore, 1) := by decide +kernel
theorem dH_giveTicket_33 : decode cH_giveTicket 33 = .ok (.aload_n 0, 1) := by decide +kernel
theorem dH_giveTicket_34 : decode cH_giveTicket 34 = .ok (.dup, 1) := by decide +kernel
theorem dH_giveTicket_35 : decode cH_giveTicket 35 = .ok (.getfield 125, 3) := by decide +kernel
theorem dH_giveTicket_38 : decode cH_giveTicket 38 = .ok (.iconst 1, 1) := by decide +kernel
theorem dH_giveTicket_39 : decode cH_giveTicket 39 = .ok (.iadd, 1) := by decide +kernel
theorem dH_giveTicket_40 : decode cH_giveTicket 40 = .ok (.putfield 125, 3) := by decide +kernel
theorem dH_giveTicket_43 : decode cH_giveTicket 43 = .ok (.aload 5, 2) := by decide +kernel
theorem dH_giveTicket_45 : decode cH_giveTicket 45 = .ok (.areturn, 1) := by decide +kernel
theorem dK_init_0 : decode cK_init 0 = .ok (.aload_n 0, 1) := by decide +kernel
theorem dK_init_1 : decode cK_init 1 = .ok (.invokespecial 3, 3) := by decide +kernel
theorem dK_init_4 : decode cK_init 4 = .ok (.aload_n 0, 1) := by decide +kernel
theorem dK_init_5 : decode cK_init 5 = .ok (.iload_n 1, 1) := by decide +kernel
theorem dK_init_6 : decode cK_init 6 = .ok (.putfield 9, 3) := by decide +kernel
theorem dK_init_9 : decode cK_init 9 = .ok (.aload_n 0, 1) := by decide +kernel
theorem dK_init_10 : decode cK_init 10 = .ok (.iload_n 2, 1) := by decide +kernel
theorem dK_init_11 : decode cK_init 11 = .ok (.putfield 15, 3) := by decide +kernel
theorem dK_init_14 : decode cK_init 14 = .ok (.aload_n 0, 1) := by decide +kernel
theorem dK_init_15 : decode cK_init 15 = .ok (.aload_n 3, 1) := by decide +kernel
theorem dK_init_16 : decode cK_init 16 = .ok (.putfield 18, 3) := by decide +kernel
theorem dK_init_19 : decode cK_init 19 = .ok (.aload_n 0, 1) := by decide +kernel
theorem dK_init_20 : decode cK_init 20 = .ok (.iload 4, 2) := by decide +kernel
theorem dK_init_22 : decode cK_init 22 = .ok (.putfield 22, 3) := by decide +kernel
theorem dK_init_25 : decode cK_init 25 = .ok (.aload_n 0, 1) := by decide +kernel
theorem dK_init_26 : decode cK_init 26 = .ok (.iload 5, 2) := by decide +kernel
theorem dK_init_28 : decode cK_init 28 = .ok (.putfield 25, 3) := by decide +kernel
theorem dK_init_31 : decode cK_init 31 = .ok (.aload_n 0, 1) := by decide +kernel
theorem dK_init_32 : decode cK_init 32 = .ok (.aload 6, 2) := by decide +kernel
theorem dK_init_34 : decode cK_init 34 = .ok (.putfield 28, 3) := by decide +kernel
theorem dK_init_37 : decode cK_init 37 = .ok (.aload 6, 2) := by decide +kernel
theorem dK_init_39 : decode cK_init 39 = .ok (.ifnonnull 7, 3) := by decide +kernel
theorem dK_init_42 : decode cK_init 42 = .ok (.iconst 0, 1) := by decide +kernel
theorem dK_init_43 : decode cK_init 43 = .ok (.goto 8, 3) := by decide +kernel
theorem dK_init_46 : decode cK_init 46 = .ok (.aload 6, 2) := by decide +kernel
theorem dK_init_48 : decode cK_init 48 = .ok (.getfield 32, 3) := by decide +kernel
theorem dK_init_51 : decode cK_init 51 = .ok (.istore 7, 2) := by decide +kernel
theorem dK_init_53 : decode cK_init 53 = .ok (.aload_n 0, 1) := by decide +kernel
theorem dK_init_54 : decode cK_init 54 = .ok (.iload_n 2, 1) := by decide +kernel
theorem dK_init_55 : decode cK_init 55 = .ok (.iconst 2, 1) := by decide +kernel
theorem dK_init_56 : decode cK_init 56 = .ok (.if_icmp .ne 10, 3) := by decide +kernel
theorem dK_init_59 : decode cK_init 59 = .ok (.iload 7, 2) := by decide +kernel
theorem dK_init_61 : decode cK_init 61 = .ok (.iconst 1, 1) := by decide +kernel
theorem dK_init_62 : decode cK_init 62 = .ok (.iadd, 1) := by decide +kernel
theorem dK_init_63 : decode cK_init 63 = .ok (.goto 5, 3) := by decide +kernel
theorem dK_init_66 : decode cK_init 66 = .ok (.iload 7, 2) := by decide +kernel
theorem dK_init_68 : decode cK_init 68 = .ok (.putfield 32, 3) := by decide +kernel
theorem dK_init_71 : decode cK_init 71 = .ok (.return_, 1) := by decide +kernel
theorem dL_ticket_0 : decode cL_ticket 0 = .ok (.aload_n 3, 1) := by decide +kernel
theorem dL_ticket_1 : decode cL_ticket 1 = .ok (.iconst 0, 1) := by decide +kernel
theorem dL_ticket_2 : decode cL_ticket 2 = .ok (.aload_n 0, 1) := by decide +kernel
theorem dL_ticket_3 : decode cL_ticket 3 = .ok (.iload_n 1, 1) := by decide +kernel
theorem dL_ticket_4 : decode cL_ticket 4 = .ok (.iload_n 2, 1) := by decide +kernel
theorem dL_ticket_5 : decode cL_ticket 5 = .ok (.invokevirtual 40, 3) := by decide +kernel
theorem dL_ticket_8 : decode cL_ticket 8 = .ok (.i2l, 1) := by decide +kernel
theorem dL_ticket_9 : decode cL_ticket 9 = .ok (.lastore, 1) := by decide +kernel
theorem dL_ticket_10 : decode cL_ticket 10 = .ok (.goto 11, 3) := by decide +kernel
theorem dL_ticket_13 : decode cL_ticket 13 = .ok (.astore 4, 2) := by decide +kernel
theorem dL_ticket_15 : decode cL_ticket 15 = .ok (.iconst 1, 1) := by decide +kernel
theorem dL_ticket_16 : decode cL_ticket 16 = .ok (.ireturn, 1) := by decide +kernel
theorem dL_ticket_17 : decode cL_ticket 17 = .ok (.astore 4, 2) := by decide +kernel
theorem dL_ticket_19 : decode cL_ticket 19 = .ok (.iconst 2, 1) := by decide +kernel
theorem dL_ticket_20 : decode cL_ticket 20 = .ok (.ireturn, 1) := by decide +kernel
theorem dL_ticket_21 : decode cL_ticket 21 = .ok (.iconst 0, 1) := by decide +kernel
theorem dL_ticket_22 : decode cL_ticket 22 = .ok (.ireturn, 1) := by decide +kernel
theorem dH_ticket_0 : decode cH_ticket 0 = .ok (.aload_n 0, 1) := by decide +kernel
theorem dH_ticket_1 : decode cH_ticket 1 = .ok (.iload_n 1, 1) := by decide +kernel
theorem dH_ticket_2 : decode cH_ticket 2 = .ok (.invokevirtual 139, 3) := by decide +kernel
theorem dH_ticket_5 : decode cH_ticket 5 = .ok (.astore_n 3, 1) := by decide +kernel
theorem dH_ticket_6 : decode cH_ticket 6 = .ok (.aload_n 3, 1) := by decide +kernel
theorem dH_ticket_7 : decode cH_ticket 7 = .ok (.ifnull 11, 3) := by decide +kernel
theorem dH_ticket_10 : decode cH_ticket 10 = .ok (.aload_n 0, 1) := by decide +kernel
theorem dH_ticket_11 : decode cH_ticket 11 = .ok (.iload_n 2, 1) := by decide +kernel
theorem dH_ticket_12 : decode cH_ticket 12 = .ok (.invokevirtual 120, 3) := by decide +kernel
theorem dH_ticket_15 : decode cH_ticket 15 = .ok (.ifCond .ne 13, 3) := by decide +kernel
theorem dH_ticket_18 : decode cH_ticket 18 = .ok (.new 51, 3) := by decide +kernel
theorem dH_ticket_21 : decode cH_ticket 21 = .ok (.dup, 1) := by decide +kernel
theorem dH_ticket_22 : decode cH_ticket 22 = .ok (.ldc 143, 2) := by decide +kernel
theorem dH_ticket_24 : decode cH_ticket 24 = .ok (.invokespecial 55, 3) := by decide +kernel
theorem dH_ticket_27 : decode cH_ticket 27 = .ok (.athrow, 1) := by decide +kernel
theorem dH_ticket_28 : decode cH_ticket 28 = .ok (.aload_n 3, 1) := by decide +kernel
theorem dH_ticket_29 : decode cH_ticket 29 = .ok (.getfield 145, 3) := by decide +kernel
theorem dH_ticket_32 : decode cH_ticket 32 = .ok (.ifCond .eq 13, 3) := by decide +kernel
theorem dH_ticket_35 : decode cH_ticket 35 = .ok (.aload_n 0, 1) := by decide +kernel
theorem dH_ticket_36 : decode cH_ticket 36 = .ok (.getfield 125, 3) := by decide +kernel
theorem dH_ticket_39 : decode cH_ticket 39 = .ok (.sipush 150, 3) := by decide +kernel
theorem dH_ticket_42 : decode cH_ticket 42 = .ok (.if_icmp .lt 13, 3) := by decide +kernel
theorem dH_ticket_45 : decode cH_ticket 45 = .ok (.new 62, 3) := by decide +kernel
theorem dH_ticket_48 : decode cH_ticket 48 = .ok (.dup, 1) := by decide +kernel
theorem dH_ticket_49 : decode cH_ticket 49 = .ok (.ldc 148, 2) := by decide +kernel
theorem dH_ticket_51 : decode cH_ticket 51 = .ok (.invokespecial 66, 3) := by decide +kernel
theorem dH_ticket_54 : decode cH_ticket 54 = .ok (.athrow, 1) := by decide +kernel
theorem dH_ticket_55 : decode cH_ticket 55 = .ok (.aload_n 3, 1) := by decide +kernel
theorem dH_ticket_56 : decode cH_ticket 56 = .ok (.aload_n 0, 1) := by decide +kernel
theorem dH_ticket_57 : decode cH_ticket 57 = .ok (.getfield 106, 3) := by decide +kernel
theorem dH_ticket_60 : decode cH_ticket 60 = .ok (.putfield 150, 3) := by decide +kernel
theorem dH_ticket_63 : decode cH_ticket 63 = .ok (.aload_n 0, 1) := by decide +kernel
theorem dH_ticket_64 : decode cH_ticket 64 = .ok (.iconst 0, 1) := by decide +kernel
theorem dH_ticket_65 : decode cH_ticket 65 = .ok (.aload_n 3, 1) := by decide +kernel
theorem dH_ticket_66 : decode cH_ticket 66 = .ok (.iload_n 2, 1) := by decide +kernel
theorem dH_ticket_67 : decode cH_ticket 67 = .ok (.aconst_null, 1) := by decide +kernel
theorem dH_ticket_68 : decode cH_ticket 68 = .ok (.invokevirtual 130, 3) := by decide +kernel
theorem dH_ticket_71 : decode cH_ticket 71 = .ok (.getfield 138, 3) := by decide +kernel
theorem dH_ticket_74 : decode cH_ticket 74 = .ok (.ireturn, 1) := by decide +kernel
theorem dL_proxy_0 : decode cL_proxy 0 = .ok (.aload_n 3, 1) := by decide +kernel
theorem dL_proxy_1 : decode cL_proxy 1 = .ok (.iconst 0, 1) := by decide +kernel
theorem dL_proxy_2 : decode cL_proxy 2 = .ok (.aload_n 0, 1) := by decide +kernel
theorem dL_proxy_3 : decode cL_proxy 3 = .ok (.iload_n 1, 1) := by decide +kernel
theorem dL_proxy_4 : decode cL_proxy 4 = .ok (.iload_n 2, 1) := by decide +kernel
theorem dL_proxy_5 : decode cL_proxy 5 = .ok (.invokevirtual 43, 3) := by decide +kernel
theorem dL_proxy_8 : decode cL_proxy 8 = .ok (.i2l, 1) := by decide +kernel
theorem dL_proxy_9 : decode cL_proxy 9 = .ok (.lastore, 1) := by decide +kernel
theorem dL_proxy_10 : decode cL_proxy 10 = .ok (.goto 11, 3) := by decide +kernel
theorem dL_proxy_13 : decode cL_proxy 13 = .ok (.astore 4, 2) := by decide +kernel
theorem dL_proxy_15 : decode cL_proxy 15 = .ok (.iconst 1, 1) := by decide +kernel
theorem dL_proxy_16 : decode cL_proxy 16 = .ok (.ireturn, 1) := by decide +kernel
theorem dL_proxy_17 : decode cL_proxy 17 = .ok (.astore 4, 2) := by decide +kernel
theorem dL_proxy_19 : decode cL_proxy 19 = .ok (.iconst 2, 1) := by decide +kernel
theorem dL_proxy_20 : decode cL_proxy 20 = .ok (.ireturn, 1) := by decide +kernel
theorem dL_proxy_21 : decode cL_proxy 21 = .ok (.iconst 0, 1) := by decide +kernel
theorem dL_proxy_22 : decode cL_proxy 22 = .ok (.ireturn, 1) := by decide +kernel
theorem dH_proxy_0 : decode cH_proxy 0 = .ok (.aload_n 0, 1) := by decide +kernel
theorem dH_proxy_1 : decode cH_proxy 1 = .ok (.iload_n 1, 1) := by decide +kernel
theorem dH_proxy_2 : decode cH_proxy 2 = .ok (.invokevirtual 153, 3) := by decide +kernel
theorem dH_proxy_5 : decode cH_proxy 5 = .ok (.astore_n 3, 1) := by decide +kernel
theorem dH_proxy_6 : decode cH_proxy 6 = .ok (.aload_n 3, 1) := by decide +kernel
theorem dH_proxy_7 : decode cH_proxy 7 = .ok (.ifnull 19, 3) := by decide +kernel
theorem dH_proxy_10 : decode cH_proxy 10 = .ok (.aload_n 3, 1) := by decide +kernel
theorem dH_proxy_11 : decode cH_proxy 11 = .ok (.getfield 157, 3) := by decide +kernel
theorem dH_proxy_14 : decode cH_proxy 14 = .ok (.iconst 2, 1) := by decide +kernel
theorem dH_proxy_15 : decode cH_proxy 15 = .ok (.if_icmp .ne 11, 3) := by decide +kernel
theorem dH_proxy_18 : decode cH_proxy 18 = .ok (.aload_n 0, 1) := by decide +kernel
theorem dH_proxy_19 : decode cH_proxy 19 = .ok (.iload_n 2, 1) := by decide +kernel
theorem dH_proxy_20 : decode cH_proxy 20 = .ok (.invokevirtual 120, 3) := by decide +kernel
theorem dH_proxy_23 : decode cH_proxy 23 = .ok (.ifCond .ne 13, 3) := by decide +kernel
theorem dH_proxy_26 : decode cH_proxy 26 = .ok (.new 51, 3) := by decide +kernel
theorem dH_proxy_29 : decode cH_proxy 29 = .ok (.dup, 1) := by decide +kernel
theorem dH_proxy_30 : decode cH_proxy 30 = .ok (.ldc 160, 2) := by decide +kernel
theorem dH_proxy_32 : decode cH_proxy 32 = .ok (.invokespecial 55, 3) := by decide +kernel
theorem dH_proxy_35 : decode cH_proxy 35 = .ok (.athrow, 1) := by decide +kernel
theorem dH_proxy_36 : decode cH_proxy 36 = .ok (.aload_n 3, 1) := by decide +kernel
theorem dH_proxy_37 : decode cH_proxy 37 = .ok (.aload_n 0, 1) := by decide +kernel
theorem dH_proxy_38 : decode cH_proxy 38 = .ok (.getfield 106, 3) := by decide +kernel
theorem dH_proxy_41 : decode cH_proxy 41 = .ok (.invokevirtual 162, 3) := by decide +kernel
theorem dH_proxy_44 : decode cH_proxy 44 = .ok (.ifCond .eq 13, 3) := by decide +kernel
theorem dH_proxy_47 : decode cH_proxy 47 = .ok (.aload_n 0, 1) := by decide +kernel
theorem dH_proxy_48 : decode cH_proxy 48 = .ok (.getfield 125, 3) := by decide +kernel
theorem dH_proxy_51 : decode cH_proxy 51 = .ok (.sipush 150, 3) := by decide +kernel
theorem dH_proxy_54 : decode cH_proxy 54 = .ok (.if_icmp .lt 13, 3) := by decide +kernel
theorem dH_proxy_57 : decode cH_proxy 57 = .ok (.new 62, 3) := by decide +kernel
theorem dH_proxy_60 : decode cH_proxy 60 = .ok (.dup, 1) := by decide +kernel
theorem dH_proxy_61 : decode cH_proxy 61 = .ok (.ldc 165, 2) := by decide +kernel
theorem dH_proxy_63 : decode cH_proxy 63 = .ok (.invokespecial 66, 3) := by decide +kernel
theorem dH_proxy_66 : decode cH_proxy 66 = .ok (.athrow, 1) := by decide +kernel
theorem dH_proxy_67 : decode cH_proxy 67 = .ok (.aload_n 3, 1) := by decide +kernel
theorem dH_proxy_68 : decode cH_proxy 68 = .ok (.getfield 167, 3) := by decide +kernel
theorem dH_proxy_71 : decode cH_proxy 71 = .ok (.aload_n 0, 1) := by decide +kernel
theorem dH_proxy_72 : decode cH_proxy 72 = .ok (.getfield 106, 3) := by decide +kernel
theorem dH_proxy_75 : decode cH_proxy 75 = .ok (.putfield 150, 3) := by decide +kernel
theorem dH_proxy_78 : decode cH_proxy 78 = .ok (.aload_n 0, 1) := by decide +kernel
theorem dH_proxy_79 : decode cH_proxy 79 = .ok (.iconst 1, 1) := by decide +kernel
theorem dH_proxy_80 : decode cH_proxy 80 = .ok (.aload_n 3, 1) := by decide +kernel
theorem dH_proxy_81 : decode cH_proxy 81 = .ok (.getfield 167, 3) := by decide +kernel
theorem dH_proxy_84 : decode cH_proxy 84 = .ok (.iload_n 2, 1) := by decide +kernel
theorem dH_proxy_85 : decode cH_proxy 85 = .ok (.aload_n 3, 1) := by decide +kernel
theorem dH_proxy_86 : decode cH_proxy 86 = .ok (.invokevirtual 130, 3) := by decide +kernel
theorem dH_proxy_89 : decode cH_proxy 89 = .ok (.getfield 138, 3) := by decide +kernel
theorem dH_proxy_92 : decode cH_proxy 92 = .ok (.ireturn, 1) := by decide +kernel
theorem dL_validate_0 : decode cL_validate 0 = .ok (.aload 5, 2) := by decide +kernel
theorem dL_validate_2 : decode cL_validate 2 = .ok (.iconst 0, 1) := by decide +kernel
theorem dL_validate_3 : decode cL_validate 3 = .ok (.aload_n 0, 1) := by decide +kernel
theorem dL_validate_4 : decode cL_validate 4 = .ok (.iload_n 1, 1) := by decide +kernel
theorem dL_validate_5 : decode cL_validate 5 = .ok (.iload_n 2, 1) := by decide +kernel
theorem dL_validate_6 : decode cL_validate 6 = .ok (.iload_n 3, 1) := by decide +kernel
theorem dL_validate_7 : decode cL_validate 7 = .ok (.iload 4, 2) := by decide +kernel
theorem dL_validate_9 : decode cL_validate 9 = .ok (.invokevirtual 46, 3) := by decide +kernel
theorem dL_validate_12 : decode cL_validate 12 = .ok (.i2l, 1) := by decide +kernel
theorem dL_validate_13 : decode cL_validate 13 = .ok (.lastore, 1) := by decide +kernel
theorem dL_validate_14 : decode cL_validate 14 = .ok (.goto 7, 3) := by decide +kernel
theorem dL_validate_17 : decode cL_validate 17 = .ok (.astore 6, 2) := by decide +kernel
theorem dL_validate_19 : decode cL_validate 19 = .ok (.iconst 1, 1) := by decide +kernel
theorem dL_validate_20 : decode cL_validate 20 = .ok (.ireturn, 1) := by decide +kernel
end
section
theorem dL_validate_21 : decode cL_validate 21 = .ok (.iconst 0, 1) := by decide +kernel
theorem dL_validate_22 : decode cL_validate 22 = .ok (.ireturn, 1) := by decide +kernel
theorem dH_validate_0 : decode cH_validate 0 = .ok (.iload_n 3, 1) := by decide +kernel
theorem dH_validate_1 : decode cH_validate 1 = .ok (.ifCond .lt 20, 3) := by decide +kernel
theorem dH_validate_4 : decode cH_validate 4 = .ok (.iload_n 3, 1) := by decide +kernel
theorem dH_validate_5 : decode cH_validate 5 = .ok (.bipush 7, 2) := by decide +kernel
theorem dH_validate_7 : decode cH_validate 7 = .ok (.if_icmp .gt 14, 3) := by decide +kernel
theorem dH_validate_10 : decode cH_validate 10 = .ok (.iload 4, 2) := by decide +kernel
theorem dH_validate_12 : decode cH_validate 12 = .ok (.ifCond .lt 9, 3) := by decide +kernel
theorem dH_validate_15 : decode cH_validate 15 = .ok (.iload 4, 2) := by decide +kernel
theorem dH_validate_17 : decode cH_validate 17 = .ok (.iconst 5, 1) := by decide +kernel
theorem dH_validate_18 : decode cH_validate 18 = .ok (.if_icmp .le 13, 3) := by decide +kernel
theorem dH_validate_21 : decode cH_validate 21 = .ok (.new 51, 3) := by decide +kernel
theorem dH_validate_24 : decode cH_validate 24 = .ok (.dup, 1) := by decide +kernel
theorem dH_validate_25 : decode cH_validate 25 = .ok (.ldc 171, 2) := by decide +kernel
theorem dH_validate_27 : decode cH_validate 27 = .ok (.invokespecial 55, 3) := by decide +kernel
theorem dH_validate_30 : decode cH_validate 30 = .ok (.athrow, 1) := by decide +kernel
theorem dH_validate_31 : decode cH_validate 31 = .ok (.aload_n 0, 1) := by decide +kernel
theorem dH_validate_32 : decode cH_validate 32 = .ok (.iload_n 1, 1) := by decide +kernel
theorem dH_validate_33 : decode cH_validate 33 = .ok (.invokevirtual 153, 3) := by decide +kernel
theorem dH_validate_36 : decode cH_validate 36 = .ok (.astore 5, 2) := by decide +kernel
theorem dH_validate_38 : decode cH_validate 38 = .ok (.aload 5, 2) := by decide +kernel
theorem dH_validate_40 : decode cH_validate 40 = .ok (.ifnull 11, 3) := by decide +kernel
theorem dH_validate_43 : decode cH_validate 43 = .ok (.aload_n 0, 1) := by decide +kernel
theorem dH_validate_44 : decode cH_validate 44 = .ok (.iload_n 2, 1) := by decide +kernel
theorem dH_validate_45 : decode cH_validate 45 = .ok (.invokevirtual 120, 3) := by decide +kernel
theorem dH_validate_48 : decode cH_validate 48 = .ok (.ifCond .ne 10, 3) := by decide +kernel
theorem dH_validate_51 : decode cH_validate 51 = .ok (.aload_n 0, 1) := by decide +kernel
theorem dH_validate_52 : decode cH_validate 52 = .ok (.iconst 1, 1) := by decide +kernel
theorem dH_validate_53 : decode cH_validate 53 = .ok (.iload_n 1, 1) := by decide +kernel
theorem dH_validate_54 : decode cH_validate 54 = .ok (.invokevirtual 173, 3) := by decide +kernel
theorem dH_validate_57 : decode cH_validate 57 = .ok (.ireturn, 1) := by decide +kernel
theorem dH_validate_58 : decode cH_validate 58 = .ok (.aload 5, 2) := by decide +kernel
theorem dH_validate_60 : decode cH_validate 60 = .ok (.iload_n 2, 1) := by decide +kernel
theorem dH_validate_61 : decode cH_validate 61 = .ok (.iload_n 3, 1) := by decide +kernel
theorem dH_validate_62 : decode cH_validate 62 = .ok (.aload_n 0, 1) := by decide +kernel
theorem dH_validate_63 : decode cH_validate 63 = .ok (.getfield 106, 3) := by decide +kernel
theorem dH_validate_66 : decode cH_validate 66 = .ok (.invokevirtual 176, 3) := by decide +kernel
theorem dH_validate_69 : decode cH_validate 69 = .ok (.istore 6, 2) := by decide +kernel
theorem dH_validate_71 : decode cH_validate 71 = .ok (.iload 6, 2) := by decide +kernel
theorem dH_validate_73 : decode cH_validate 73 = .ok (.iconst 2, 1) := by decide +kernel
theorem dH_validate_74 : decode cH_validate 74 = .ok (.if_icmp .ne 11, 3) := by decide +kernel
theorem dH_validate_77 : decode cH_validate 77 = .ok (.aload_n 0, 1) := by decide +kernel
theorem dH_validate_78 : decode cH_validate 78 = .ok (.iload 6, 2) := by decide +kernel
theorem dH_validate_80 : decode cH_validate 80 = .ok (.iload_n 1, 1) := by decide +kernel
theorem dH_validate_81 : decode cH_validate 81 = .ok (.invokevirtual 173, 3) := by decide +kernel
theorem dH_validate_84 : decode cH_validate 84 = .ok (.ireturn, 1) := by decide +kernel
theorem dH_validate_85 : decode cH_validate 85 = .ok (.aload 5, 2) := by decide +kernel
theorem dH_validate_87 : decode cH_validate 87 = .ok (.iconst 1, 1) := by decide +kernel
theorem dH_validate_88 : decode cH_validate 88 = .ok (.putfield 180, 3) := by decide +kernel
theorem dH_validate_91 : decode cH_validate 91 = .ok (.iload 6, 2) := by decide +kernel
theorem dH_validate_93 : decode cH_validate 93 = .ok (.ifCond .eq 11, 3) := by decide +kernel
theorem dH_validate_96 : decode cH_validate 96 = .ok (.aload_n 0, 1) := by decide +kernel
theorem dH_validate_97 : decode cH_validate 97 = .ok (.iload 6, 2) := by decide +kernel
theorem dH_validate_99 : decode cH_validate 99 = .ok (.iload_n 1, 1) := by decide +kernel
theorem dH_validate_100 : decode cH_validate 100 = .ok (.invokevirtual 173, 3) := by decide +kernel
theorem dH_validate_103 : decode cH_validate 103 = .ok (.ireturn, 1) := by decide +kernel
theorem dH_validate_104 : decode cH_validate 104 = .ok (.aload 5, 2) := by decide +kernel
theorem dH_validate_106 : decode cH_validate 106 = .ok (.getfield 167, 3) := by decide +kernel
theorem dH_validate_109 : decode cH_validate 109 = .ok (.aload_n 0, 1) := by decide +kernel
theorem dH_validate_110 : decode cH_validate 110 = .ok (.getfield 106, 3) := by decide +kernel
theorem dH_validate_113 : decode cH_validate 113 = .ok (.putfield 150, 3) := by decide +kernel
theorem dH_validate_116 : decode cH_validate 116 = .ok (.aload_n 0, 1) := by decide +kernel
theorem dH_validate_117 : decode cH_validate 117 = .ok (.aload 5, 2) := by decide +kernel
theorem dH_validate_119 : decode cH_validate 119 = .ok (.iload_n 3, 1) := by decide +kernel
theorem dH_validate_120 : decode cH_validate 120 = .ok (.iconst 4, 1) := by decide +kernel
theorem dH_validate_121 : decode cH_validate 121 = .ok (.iand, 1) := by decide +kernel
theorem dH_validate_122 : decode cH_validate 122 = .ok (.ifCond .eq 7, 3) := by decide +kernel
theorem dH_validate_125 : decode cH_validate 125 = .ok (.iconst 1, 1) := by decide +kernel
theorem dH_validate_126 : decode cH_validate 126 = .ok (.goto 4, 3) := by decide +kernel
theorem dH_validate_129 : decode cH_validate 129 = .ok (.iconst 0, 1) := by decide +kernel
theorem dH_validate_130 : decode cH_validate 130 = .ok (.aload_n 0, 1) := by decide +kernel
theorem dH_validate_131 : decode cH_validate 131 = .ok (.aload 5, 2) := by decide +kernel
theorem dH_validate_133 : decode cH_validate 133 = .ok (.iload 4, 2) := by decide +kernel
theorem dH_validate_135 : decode cH_validate 135 = .ok (.invokevirtual 183, 3) := by decide +kernel
theorem dH_validate_138 : decode cH_validate 138 = .ok (.invokevirtual 187, 3) := by decide +kernel
theorem dH_validate_141 : decode cH_validate 141 = .ok (.iconst 0, 1) := by decide +kernel
theorem dH_validate_142 : decode cH_validate 142 = .ok (.ireturn, 1) := by decide +kernel
theorem dH_refuse_0 : decode cH_refuse 0 = .ok (.aload_n 0, 1) := by decide +kernel
theorem dH_refuse_1 : decode cH_refuse 1 = .ok (.getfield 47, 3) := by decide +kernel
theorem dH_refuse_4 : decode cH_refuse 4 = .ok (.invokevirtual 85, 3) := by decide +kernel
theorem dH_refuse_7 : decode cH_refuse 7 = .ok (.aload_n 0, 1) := by decide +kernel
theorem dH_refuse_8 : decode cH_refuse 8 = .ok (.getfield 47, 3) := by decide +kernel
theorem dH_refuse_11 : decode cH_refuse 11 = .ok (.ldc_w 261, 3) := by decide +kernel
theorem dH_refuse_14 : decode cH_refuse 14 = .ok (.invokevirtual 263, 3) := by decide +kernel
theorem dH_refuse_17 : decode cH_refuse 17 = .ok (.aload_n 0, 1) := by decide +kernel
theorem dH_refuse_18 : decode cH_refuse 18 = .ok (.getfield 47, 3) := by decide +kernel
theorem dH_refuse_21 : decode cH_refuse 21 = .ok (.iload_n 1, 1) := by decide +kernel
theorem dH_refuse_22 : decode cH_refuse 22 = .ok (.invokevirtual 266, 3) := by decide +kernel
theorem dH_refuse_25 : decode cH_refuse 25 = .ok (.aload_n 0, 1) := by decide +kernel
theorem dH_refuse_26 : decode cH_refuse 26 = .ok (.getfield 47, 3) := by decide +kernel
theorem dH_refuse_29 : decode cH_refuse 29 = .ok (.ldc_w 269, 3) := by decide +kernel
theorem dH_refuse_32 : decode cH_refuse 32 = .ok (.invokevirtual 263, 3) := by decide +kernel
theorem dH_refuse_35 : decode cH_refuse 35 = .ok (.aload_n 0, 1) := by decide +kernel
theorem dH_refuse_36 : decode cH_refuse 36 = .ok (.getfield 47, 3) := by decide +kernel
theorem dH_refuse_39 : decode cH_refuse 39 = .ok (.iload_n 2, 1) := by decide +kernel
theorem dH_refuse_40 : decode cH_refuse 40 = .ok (.invokevirtual 266, 3) := by decide +kernel
theorem dH_refuse_43 : decode cH_refuse 43 = .ok (.aload_n 0, 1) := by decide +kernel
theorem dH_refuse_44 : decode cH_refuse 44 = .ok (.getfield 47, 3) := by decide +kernel
theorem dH_refuse_47 : decode cH_refuse 47 = .ok (.ldc_w 271, 3) := by decide +kernel
theorem dH_refuse_50 : decode cH_refuse 50 = .ok (.invokevirtual 263, 3) := by decide +kernel
theorem dH_refuse_53 : decode cH_refuse 53 = .ok (.iload_n 1, 1) := by decide +kernel
theorem dH_refuse_54 : decode cH_refuse 54 = .ok (.ireturn, 1) := by decide +kernel
theorem dT_addAll_0 : decode cT_addAll 0 = .ok (.iconst 0, 1) := by decide +kernel
theorem dT_addAll_1 : decode cT_addAll 1 = .ok (.istore_n 2, 1) := by decide +kernel
theorem dT_addAll_2 : decode cT_addAll 2 = .ok (.iload_n 2, 1) := by decide +kernel
theorem dT_addAll_3 : decode cT_addAll 3 = .ok (.aload_n 1, 1) := by decide +kernel
theorem dT_addAll_4 : decode cT_addAll 4 = .ok (.invokevirtual 19, 3) := by decide +kernel
theorem dT_addAll_7 : decode cT_addAll 7 = .ok (.if_icmp .ge 18, 3) := by decide +kernel
theorem dT_addAll_10 : decode cT_addAll 10 = .ok (.aload_n 0, 1) := by decide +kernel
theorem dT_addAll_11 : decode cT_addAll 11 = .ok (.aload_n 1, 1) := by decide +kernel
theorem dT_addAll_12 : decode cT_addAll 12 = .ok (.iload_n 2, 1) := by decide +kernel
theorem dT_addAll_13 : decode cT_addAll 13 = .ok (.invokevirtual 24, 3) := by decide +kernel
theorem dT_addAll_16 : decode cT_addAll 16 = .ok (.invokevirtual 28, 3) := by decide +kernel
theorem dT_addAll_19 : decode cT_addAll 19 = .ok (.iinc 2 1, 3) := by decide +kernel
theorem dT_addAll_22 : decode cT_addAll 22 = .ok (.goto (-20), 3) := by decide +kernel
theorem dT_addAll_25 : decode cT_addAll 25 = .ok (.return_, 1) := by decide +kernel
theorem dT_addNumber_0 : decode cT_addNumber 0 = .ok (.iload_n 1, 1) := by decide +kernel
theorem dT_addNumber_1 : decode cT_addNumber 1 = .ok (.ifCond .ge 7, 3) := by decide +kernel
theorem dT_addNumber_4 : decode cT_addNumber 4 = .ok (.iload_n 1, 1) := by decide +kernel
theorem dT_addNumber_5 : decode cT_addNumber 5 = .ok (.goto 5, 3) := by decide +kernel
theorem dT_addNumber_8 : decode cT_addNumber 8 = .ok (.iload_n 1, 1) := by decide +kernel
theorem dT_addNumber_9 : decode cT_addNumber 9 = .ok (.ineg, 1) := by decide +kernel
theorem dT_addNumber_10 : decode cT_addNumber 10 = .ok (.istore_n 2, 1) := by decide +kernel
theorem dT_addNumber_11 : decode cT_addNumber 11 = .ok (.iload_n 1, 1) := by decide +kernel
theorem dT_addNumber_12 : decode cT_addNumber 12 = .ok (.ifCond .ge 9, 3) := by decide +kernel
theorem dT_addNumber_15 : decode cT_addNumber 15 = .ok (.aload_n 0, 1) := by decide +kernel
theorem dT_addNumber_16 : decode cT_addNumber 16 = .ok (.bipush 45, 2) := by decide +kernel
theorem dT_addNumber_18 : decode cT_addNumber 18 = .ok (.invokevirtual 28, 3) := by decide +kernel
theorem dT_addNumber_21 : decode cT_addNumber 21 = .ok (.aload_n 0, 1) := by decide +kernel
theorem dT_addNumber_22 : decode cT_addNumber 22 = .ok (.getfield 15, 3) := by decide +kernel
theorem dT_addNumber_25 : decode cT_addNumber 25 = .ok (.istore_n 3, 1) := by decide +kernel
theorem dT_addNumber_26 : decode cT_addNumber 26 = .ok (.iconst 0, 1) := by decide +kernel
theorem dT_addNumber_27 : decode cT_addNumber 27 = .ok (.istore 4, 2) := by decide +kernel
theorem dT_addNumber_29 : decode cT_addNumber 29 = .ok (.iload 4, 2) := by decide +kernel
theorem dT_addNumber_31 : decode cT_addNumber 31 = .ok (.bipush 10, 2) := by decide +kernel
theorem dT_addNumber_33 : decode cT_addNumber 33 = .ok (.if_icmp .ge 35, 3) := by decide +kernel
theorem dT_addNumber_36 : decode cT_addNumber 36 = .ok (.iload 4, 2) := by decide +kernel
theorem dT_addNumber_38 : decode cT_addNumber 38 = .ok (.ifCond .eq 7, 3) := by decide +kernel
theorem dT_addNumber_41 : decode cT_addNumber 41 = .ok (.iload_n 2, 1) := by decide +kernel
theorem dT_addNumber_42 : decode cT_addNumber 42 = .ok (.ifCond .eq 26, 3) := by decide +kernel
theorem dT_addNumber_45 : decode cT_addNumber 45 = .ok (.aload_n 0, 1) := by decide +kernel
theorem dT_addNumber_46 : decode cT_addNumber 46 = .ok (.bipush 48, 2) := by decide +kernel
theorem dT_addNumber_48 : decode cT_addNumber 48 = .ok (.iload_n 2, 1) := by decide +kernel
theorem dT_addNumber_49 : decode cT_addNumber 49 = .ok (.bipush 10, 2) := by decide +kernel
theorem dT_addNumber_51 : decode cT_addNumber 51 = .ok (.irem, 1) := by decide +kernel
theorem dT_addNumber_52 : decode cT_addNumber 52 = .ok (.isub, 1) := by decide +kernel
theorem dT_addNumber_53 : decode cT_addNumber 53 = .ok (.i2c, 1) := by decide +kernel
theorem dT_addNumber_54 : decode cT_addNumber 54 = .ok (.invokevirtual 28, 3) := by decide +kernel
theorem dT_addNumber_57 : decode cT_addNumber 57 = .ok (.iload_n 2, 1) := by decide +kernel
theorem dT_addNumber_58 : decode cT_addNumber 58 = .ok (.bipush 10, 2) := by decide +kernel
theorem dT_addNumber_60 : decode cT_addNumber 60 = .ok (.idiv, 1) := by decide +kernel
theorem dT_addNumber_61 : decode cT_addNumber 61 = .ok (.istore_n 2, 1) := by decide +kernel
theorem dT_addNumber_62 : decode cT_addNumber 62 = .ok (.iinc 4 1, 3) := by decide +kernel
theorem dT_addNumber_65 : decode cT_addNumber 65 = .ok (.goto (-36), 3) := by decide +kernel
theorem dT_addNumber_68 : decode cT_addNumber 68 = .ok (.aload_n 0, 1) := by decide +kernel
theorem dT_addNumber_69 : decode cT_addNumber 69 = .ok (.iload_n 3, 1) := by decide +kernel
theorem dT_addNumber_70 : decode cT_addNumber 70 = .ok (.invokevirtual 32, 3) := by decide +kernel
theorem dT_addNumber_73 : decode cT_addNumber 73 = .ok (.return_, 1) := by decide +kernel
theorem dT_turnRound_0 : decode cT_turnRound 0 = .ok (.iload_n 1, 1) := by decide +kernel
theorem dT_turnRound_1 : decode cT_turnRound 1 = .ok (.istore_n 2, 1) := by decide +kernel
theorem dT_turnRound_2 : decode cT_turnRound 2 = .ok (.aload_n 0, 1) := by decide +kernel
theorem dT_turnRound_3 : decode cT_turnRound 3 = .ok (.getfield 15, 3) := by decide +kernel
theorem dT_turnRound_6 : decode cT_turnRound 6 = .ok (.iconst 1, 1) := by decide +kernel
theorem dT_turnRound_7 : decode cT_turnRound 7 = .ok (.isub, 1) := by decide +kernel
theorem dT_turnRound_8 : decode cT_turnRound 8 = .ok (.istore_n 3, 1) := by decide +kernel
theorem dT_turnRound_9 : decode cT_turnRound 9 = .ok (.iload_n 2, 1) := by decide +kernel
theorem dT_turnRound_10 : decode cT_turnRound 10 = .ok (.iload_n 3, 1) := by decide +kernel
theorem dT_turnRound_11 : decode cT_turnRound 11 = .ok (.if_icmp .ge 40, 3) := by decide +kernel
theorem dT_turnRound_14 : decode cT_turnRound 14 = .ok (.aload_n 0, 1) := by decide +kernel
theorem dT_turnRound_15 : decode cT_turnRound 15 = .ok (.getfield 9, 3) := by decide +kernel
theorem dT_turnRound_18 : decode cT_turnRound 18 = .ok (.iload_n 2, 1) := by decide +kernel
theorem dT_turnRound_19 : decode cT_turnRound 19 = .ok (.caload, 1) := by decide +kernel
theorem dT_turnRound_20 : decode cT_turnRound 20 = .ok (.istore 4, 2) := by decide +kernel
theorem dT_turnRound_22 : decode cT_turnRound 22 = .ok (.aload_n 0, 1) := by decide +kernel
theorem dT_turnRound_23 : decode cT_turnRound 23 = .ok (.getfield 9, 3) := by decide +kernel
theorem dT_turnRound_26 : decode cT_turnRound 26 = .ok (.iload_n 2, 1) := by decide +kernel
theorem dT_turnRound_27 : decode cT_turnRound 27 = .ok (.aload_n 0, 1) := by decide +kernel
theorem dT_turnRound_28 : decode cT_turnRound 28 = .ok (.getfield 9, 3) := by decide +kernel
theorem dT_turnRound_31 : decode cT_turnRound 31 = .ok (.iload_n 3, 1) := by decide +kernel
theorem dT_turnRound_32 : decode cT_turnRound 32 = .ok (.caload, 1) := by decide +kernel
theorem dT_turnRound_33 : decode cT_turnRound 33 = .ok (.castore, 1) := by decide +kernel
theorem dT_turnRound_34 : decode cT_turnRound 34 = .ok (.aload_n 0, 1) := by decide +kernel
theorem dT_turnRound_35 : decode cT_turnRound 35 = .ok (.getfield 9, 3) := by decide +kernel
theorem dT_turnRound_38 : decode cT_turnRound 38 = .ok (.iload_n 3, 1) := by decide +kernel
theorem dT_turnRound_39 : decode cT_turnRound 39 = .ok (.iload 4, 2) := by decide +kernel
theorem dT_turnRound_41 : decode cT_turnRound 41 = .ok (.castore, 1) := by decide +kernel
theorem dT_turnRound_42 : decode cT_turnRound 42 = .ok (.iinc 2 1, 3) := by decide +kernel
theorem dT_turnRound_45 : decode cT_turnRound 45 = .ok (.iinc 3 (-1), 3) := by decide +kernel
theorem dT_turnRound_48 : decode cT_turnRound 48 = .ok (.goto (-39), 3) := by decide +kernel
theorem dT_turnRound_51 : decode cT_turnRound 51 = .ok (.return_, 1) := by decide +kernel
theorem dK_judge_0 : decode cK_judge 0 = .ok (.aload_n 0, 1) := by decide +kernel
theorem dK_judge_1 : decode cK_judge 1 = .ok (.getfield 15, 3) := by decide +kernel
theorem dK_judge_4 : decode cK_judge 4 = .ok (.iconst 2, 1) := by decide +kernel
theorem dK_judge_5 : decode cK_judge 5 = .ok (.if_icmp .eq 17, 3) := by decide +kernel
theorem dK_judge_8 : decode cK_judge 8 = .ok (.aload_n 0, 1) := by decide +kernel
theorem dK_judge_9 : decode cK_judge 9 = .ok (.getfield 15, 3) := by decide +kernel
theorem dK_judge_12 : decode cK_judge 12 = .ok (.iconst 1, 1) := by decide +kernel
theorem dK_judge_13 : decode cK_judge 13 = .ok (.if_icmp .ne 11, 3) := by decide +kernel
theorem dK_judge_16 : decode cK_judge 16 = .ok (.iload_n 2, 1) := by decide +kernel
theorem dK_judge_17 : decode cK_judge 17 = .ok (.iconst 2, 1) := by decide +kernel
theorem dK_judge_18 : decode cK_judge 18 = .ok (.iand, 1) := by decide +kernel
theorem dK_judge_19 : decode cK_judge 19 = .ok (.ifCond .ne 5, 3) := by decide +kernel
theorem dK_judge_22 : decode cK_judge 22 = .ok (.iconst 2, 1) := by decide +kernel
theorem dK_judge_23 : decode cK_judge 23 = .ok (.ireturn, 1) := by decide +kernel
theorem dK_judge_24 : decode cK_judge 24 = .ok (.aload_n 0, 1) := by decide +kernel
theorem dK_judge_25 : decode cK_judge 25 = .ok (.iload_n 3, 1) := by decide +kernel
theorem dK_judge_26 : decode cK_judge 26 = .ok (.invokevirtual 44, 3) := by decide +kernel
theorem dK_judge_29 : decode cK_judge 29 = .ok (.ifCond .ne 5, 3) := by decide +kernel
theorem dK_judge_32 : decode cK_judge 32 = .ok (.iconst 3, 1) := by decide +kernel
theorem dK_judge_33 : decode cK_judge 33 = .ok (.ireturn, 1) := by decide +kernel
theorem dK_judge_34 : decode cK_judge 34 = .ok (.aload_n 0, 1) := by decide +kernel
theorem dK_judge_35 : decode cK_judge 35 = .ok (.getfield 22, 3) := by decide +kernel
theorem dK_judge_38 : decode cK_judge 38 = .ok (.iload_n 1, 1) := by decide +kernel
theorem dK_judge_39 : decode cK_judge 39 = .ok (.if_icmp .eq 5, 3) := by decide +kernel
theorem dK_judge_42 : decode cK_judge 42 = .ok (.iconst 4, 1) := by decide +kernel
theorem dK_judge_43 : decode cK_judge 43 = .ok (.ireturn, 1) := by decide +kernel
theorem dK_judge_44 : decode cK_judge 44 = .ok (.iload_n 2, 1) := by decide +kernel
theorem dK_judge_45 : decode cK_judge 45 = .ok (.iconst 1, 1) := by decide +kernel
theorem dK_judge_46 : decode cK_judge 46 = .ok (.iand, 1) := by decide +kernel
theorem dK_judge_47 : decode cK_judge 47 = .ok (.ifCond .eq 12, 3) := by decide +kernel
theorem dK_judge_50 : decode cK_judge 50 = .ok (.aload_n 0, 1) := by decide +kernel
theorem dK_judge_51 : decode cK_judge 51 = .ok (.getfield 48, 3) := by decide +kernel
theorem dK_judge_54 : decode cK_judge 54 = .ok (.ifCond .ne 5, 3) := by decide +kernel
theorem dK_judge_57 : decode cK_judge 57 = .ok (.iconst 5, 1) := by decide +kernel
theorem dK_judge_58 : decode cK_judge 58 = .ok (.ireturn, 1) := by decide +kernel
theorem dK_judge_59 : decode cK_judge 59 = .ok (.iconst 0, 1) := by decide +kernel
theorem dK_judge_60 : decode cK_judge 60 = .ok (.ireturn, 1) := by decide +kernel
theorem dH_grantFor_0 : decode cH_grantFor 0 = .ok (.aload_n 0, 1) := by decide +kernel
theorem dH_grantFor_1 : decode cH_grantFor 1 = .ok (.getfield 19, 3) := by decide +kernel
theorem dH_grantFor_4 : decode cH_grantFor 4 = .ok (.iload_n 2, 1) := by decide +kernel
theorem dH_grantFor_5 : decode cH_grantFor 5 = .ok (.baload, 1) := by decide +kernel
theorem dH_grantFor_6 : decode cH_grantFor 6 = .ok (.ifCond .eq 29, 3) := by decide +kernel
theorem dH_grantFor_9 : decode cH_grantFor 9 = .ok (.aload_n 0, 1) := by decide +kernel
theorem dH_grantFor_10 : decode cH_grantFor 10 = .ok (.aload_n 1, 1) := by decide +kernel
theorem dH_grantFor_11 : decode cH_grantFor 11 = .ok (.getfield 226, 3) := by decide +kernel
theorem dH_grantFor_14 : decode cH_grantFor 14 = .ok (.iconst 2, 1) := by decide +kernel
theorem dH_grantFor_15 : decode cH_grantFor 15 = .ok (.invokevirtual 247, 3) := by decide +kernel
theorem dH_grantFor_18 : decode cH_grantFor 18 = .ok (.ifCond .eq 17, 3) := by decide +kernel
theorem dH_grantFor_21 : decode cH_grantFor 21 = .ok (.aload_n 0, 1) := by decide +kernel
theorem dH_grantFor_22 : decode cH_grantFor 22 = .ok (.getfield 125, 3) := by decide +kernel
theorem dH_grantFor_25 : decode cH_grantFor 25 = .ok (.sipush 150, 3) := by decide +kernel
theorem dH_grantFor_28 : decode cH_grantFor 28 = .ok (.if_icmp .ge 7, 3) := by decide +kernel
theorem dH_grantFor_31 : decode cH_grantFor 31 = .ok (.iconst 1, 1) := by decide +kernel
theorem dH_grantFor_32 : decode cH_grantFor 32 = .ok (.goto 4, 3) := by decide +kernel
theorem dH_grantFor_35 : decode cH_grantFor 35 = .ok (.iconst 0, 1) := by decide +kernel
theorem dH_grantFor_36 : decode cH_grantFor 36 = .ok (.istore_n 3, 1) := by decide +kernel
theorem dH_grantFor_37 : decode cH_grantFor 37 = .ok (.iload_n 3, 1) := by decide +kernel
theorem dH_grantFor_38 : decode cH_grantFor 38 = .ok (.ifCond .eq 17, 3) := by decide +kernel
theorem dH_grantFor_41 : decode cH_grantFor 41 = .ok (.aload_n 0, 1) := by decide +kernel
theorem dH_grantFor_42 : decode cH_grantFor 42 = .ok (.iconst 2, 1) := by decide +kernel
theorem dH_grantFor_43 : decode cH_grantFor 43 = .ok (.aload_n 1, 1) := by decide +kernel
theorem dH_grantFor_44 : decode cH_grantFor 44 = .ok (.getfield 167, 3) := by decide +kernel
theorem dH_grantFor_47 : decode cH_grantFor 47 = .ok (.iload_n 2, 1) := by decide +kernel
theorem dH_grantFor_48 : decode cH_grantFor 48 = .ok (.aload_n 1, 1) := by decide +kernel
theorem dH_grantFor_49 : decode cH_grantFor 49 = .ok (.invokevirtual 130, 3) := by decide +kernel
theorem dH_grantFor_52 : decode cH_grantFor 52 = .ok (.goto 4, 3) := by decide +kernel
theorem dH_grantFor_55 : decode cH_grantFor 55 = .ok (.aconst_null, 1) := by decide +kernel
theorem dH_grantFor_56 : decode cH_grantFor 56 = .ok (.areturn, 1) := by decide +kernel
theorem dH_writeAcceptance_0 : decode cH_writeAcceptance 0 = .ok (.aload_n 1, 1) := by decide +kernel
theorem dH_writeAcceptance_1 : decode cH_writeAcceptance 1 = .ok (.getfield 167, 3) := by decide +kernel
theorem dH_writeAcceptance_4 : decode cH_writeAcceptance 4 = .ok (.astore 4, 2) := by decide +kernel
theorem dH_writeAcceptance_6 : decode cH_writeAcceptance 6 = .ok (.aload_n 0, 1) := by decide +kernel
theorem dH_writeAcceptance_7 : decode cH_writeAcceptance 7 = .ok (.getfield 47, 3) := by decide +kernel
theorem dH_writeAcceptance_10 : decode cH_writeAcceptance 10 = .ok (.invokevirtual 85, 3) := by decide +kernel
theorem dH_writeAcceptance_13 : decode cH_writeAcceptance 13 = .ok (.aload_n 0, 1) := by decide +kernel
theorem dH_writeAcceptance_14 : decode cH_writeAcceptance 14 = .ok (.getfield 47, 3) := by decide +kernel
theorem dH_writeAcceptance_17 : decode cH_writeAcceptance 17 = .ok (.ldc_w 273, 3) := by decide +kernel
theorem dH_writeAcceptance_20 : decode cH_writeAcceptance 20 = .ok (.invokevirtual 263, 3) := by decide +kernel
theorem dH_writeAcceptance_23 : decode cH_writeAcceptance 23 = .ok (.aload_n 0, 1) := by decide +kernel
theorem dH_writeAcceptance_24 : decode cH_writeAcceptance 24 = .ok (.getfield 47, 3) := by decide +kernel
theorem dH_writeAcceptance_27 : decode cH_writeAcceptance 27 = .ok (.aload 4, 2) := by decide +kernel
theorem dH_writeAcceptance_29 : decode cH_writeAcceptance 29 = .ok (.getfield 211, 3) := by decide +kernel
theorem dH_writeAcceptance_32 : decode cH_writeAcceptance 32 = .ok (.getfield 77, 3) := by decide +kernel
theorem dH_writeAcceptance_35 : decode cH_writeAcceptance 35 = .ok (.iconst 3, 1) := by decide +kernel
theorem dH_writeAcceptance_36 : decode cH_writeAcceptance 36 = .ok (.aaload, 1) := by decide +kernel
theorem dH_writeAcceptance_37 : decode cH_writeAcceptance 37 = .ok (.invokevirtual 275, 3) := by decide +kernel
theorem dH_writeAcceptance_40 : decode cH_writeAcceptance 40 = .ok (.aload_n 0, 1) := by decide +kernel
theorem dH_writeAcceptance_41 : decode cH_writeAcceptance 41 = .ok (.getfield 47, 3) := by decide +kernel
theorem dH_writeAcceptance_44 : decode cH_writeAcceptance 44 = .ok (.ldc_w 269, 3) := by decide +kernel
theorem dH_writeAcceptance_47 : decode cH_writeAcceptance 47 = .ok (.invokevirtual 263, 3) := by decide +kernel
theorem dH_writeAcceptance_50 : decode cH_writeAcceptance 50 = .ok (.iload_n 2, 1) := by decide +kernel
theorem dH_writeAcceptance_51 : decode cH_writeAcceptance 51 = .ok (.ifCond .eq 16, 3) := by decide +kernel
theorem dH_writeAcceptance_54 : decode cH_writeAcceptance 54 = .ok (.aload_n 0, 1) := by decide +kernel
theorem dH_writeAcceptance_55 : decode cH_writeAcceptance 55 = .ok (.aload 4, 2) := by decide +kernel
theorem dH_writeAcceptance_57 : decode cH_writeAcceptance 57 = .ok (.getfield 211, 3) := by decide +kernel
theorem dH_writeAcceptance_60 : decode cH_writeAcceptance 60 = .ok (.aload_n 1, 1) := by decide +kernel
theorem dH_writeAcceptance_61 : decode cH_writeAcceptance 61 = .ok (.getfield 226, 3) := by decide +kernel
theorem dH_writeAcceptance_64 : decode cH_writeAcceptance 64 = .ok (.invokevirtual 278, 3) := by decide +kernel
theorem dH_writeAcceptance_67 : decode cH_writeAcceptance 67 = .ok (.aload_n 0, 1) := by decide +kernel
theorem dH_writeAcceptance_68 : decode cH_writeAcceptance 68 = .ok (.getfield 47, 3) := by decide +kernel
theorem dH_writeAcceptance_71 : decode cH_writeAcceptance 71 = .ok (.bipush 100, 2) := by decide +kernel
theorem dH_writeAcceptance_73 : decode cH_writeAcceptance 73 = .ok (.aload 4, 2) := by decide +kernel
theorem dH_writeAcceptance_75 : decode cH_writeAcceptance 75 = .ok (.getfield 220, 3) := by decide +kernel
theorem dH_writeAcceptance_78 : decode cH_writeAcceptance 78 = .ok (.invokevirtual 282, 3) := by decide +kernel
theorem dH_writeAcceptance_81 : decode cH_writeAcceptance 81 = .ok (.aload 4, 2) := by decide +kernel
theorem dH_writeAcceptance_83 : decode cH_writeAcceptance 83 = .ok (.getfield 223, 3) := by decide +kernel
theorem dH_writeAcceptance_86 : decode cH_writeAcceptance 86 = .ok (.ifCond .eq 13, 3) := by decide +kernel
theorem dH_writeAcceptance_89 : decode cH_writeAcceptance 89 = .ok (.aload_n 0, 1) := by decide +kernel
theorem dH_writeAcceptance_90 : decode cH_writeAcceptance 90 = .ok (.getfield 47, 3) := by decide +kernel
theorem dH_writeAcceptance_93 : decode cH_writeAcceptance 93 = .ok (.bipush 108, 2) := by decide +kernel
theorem dH_writeAcceptance_95 : decode cH_writeAcceptance 95 = .ok (.iconst 1, 1) := by decide +kernel
theorem dH_writeAcceptance_96 : decode cH_writeAcceptance 96 = .ok (.invokevirtual 282, 3) := by decide +kernel
theorem dH_writeAcceptance_99 : decode cH_writeAcceptance 99 = .ok (.aload_n 0, 1) := by decide +kernel
theorem dH_writeAcceptance_100 : decode cH_writeAcceptance 100 = .ok (.getfield 47, 3) := by decide +kernel
theorem dH_writeAcceptance_103 : decode cH_writeAcceptance 103 = .ok (.bipush 110, 2) := by decide +kernel
theorem dH_writeAcceptance_105 : decode cH_writeAcceptance 105 = .ok (.aload_n 1, 1) := by decide +kernel
theorem dH_writeAcceptance_106 : decode cH_writeAcceptance 106 = .ok (.getfield 134, 3) := by decide +kernel
theorem dH_writeAcceptance_109 : decode cH_writeAcceptance 109 = .ok (.invokestatic 216, 3) := by decide +kernel
theorem dH_writeAcceptance_112 : decode cH_writeAcceptance 112 = .ok (.invokevirtual 282, 3) := by decide +kernel
theorem dH_writeAcceptance_115 : decode cH_writeAcceptance 115 = .ok (.aload_n 3, 1) := by decide +kernel
theorem dH_writeAcceptance_116 : decode cH_writeAcceptance 116 = .ok (.ifnull 16, 3) := by decide +kernel
theorem dH_writeAcceptance_119 : decode cH_writeAcceptance 119 = .ok (.aload_n 0, 1) := by decide +kernel
theorem dH_writeAcceptance_120 : decode cH_writeAcceptance 120 = .ok (.getfield 47, 3) := by decide +kernel
theorem dH_writeAcceptance_123 : decode cH_writeAcceptance 123 = .ok (.bipush 103, 2) := by decide +kernel
theorem dH_writeAcceptance_125 : decode cH_writeAcceptance 125 = .ok (.aload_n 3, 1) := by decide +kernel
theorem dH_writeAcceptance_126 : decode cH_writeAcceptance 126 = .ok (.getfield 138, 3) := by decide +kernel
theorem dH_writeAcceptance_129 : decode cH_writeAcceptance 129 = .ok (.invokevirtual 282, 3) := by decide +kernel
theorem dH_writeAcceptance_132 : decode cH_writeAcceptance 132 = .ok (.aload_n 0, 1) := by decide +kernel
theorem dH_writeAcceptance_133 : decode cH_writeAcceptance 133 = .ok (.aload_n 1, 1) := by decide +kernel
theorem dH_writeAcceptance_134 : decode cH_writeAcceptance 134 = .ok (.invokevirtual 286, 3) := by decide +kernel
theorem dH_writeAcceptance_137 : decode cH_writeAcceptance 137 = .ok (.aload_n 0, 1) := by decide +kernel
theorem dH_writeAcceptance_138 : decode cH_writeAcceptance 138 = .ok (.getfield 47, 3) := by decide +kernel
theorem dH_writeAcceptance_141 : decode cH_writeAcceptance 141 = .ok (.ldc_w 289, 3) := by decide +kernel
theorem dH_writeAcceptance_144 : decode cH_writeAcceptance 144 = .ok (.invokevirtual 263, 3) := by decide +kernel
theorem dH_writeAcceptance_147 : decode cH_writeAcceptance 147 = .ok (.return_, 1) := by decide +kernel
theorem dT_addEscapedT_0 : decode cT_addEscapedT 0 = .ok (.iconst 0, 1) := by decide +kernel
theorem dT_addEscapedT_1 : decode cT_addEscapedT 1 = .ok (.istore_n 2, 1) := by decide +kernel
theorem dT_addEscapedT_2 : decode cT_addEscapedT 2 = .ok (.iload_n 2, 1) := by decide +kernel
theorem dT_addEscapedT_3 : decode cT_addEscapedT 3 = .ok (.aload_n 1, 1) := by decide +kernel
theorem dT_addEscapedT_4 : decode cT_addEscapedT 4 = .ok (.getfield 15, 3) := by decide +kernel
theorem dT_addEscapedT_7 : decode cT_addEscapedT 7 = .ok (.if_icmp .ge 19, 3) := by decide +kernel
theorem dT_addEscapedT_10 : decode cT_addEscapedT 10 = .ok (.aload_n 0, 1) := by decide +kernel
theorem dT_addEscapedT_11 : decode cT_addEscapedT 11 = .ok (.aload_n 1, 1) := by decide +kernel
theorem dT_addEscapedT_12 : decode cT_addEscapedT 12 = .ok (.getfield 9, 3) := by decide +kernel
theorem dT_addEscapedT_15 : decode cT_addEscapedT 15 = .ok (.iload_n 2, 1) := by decide +kernel
theorem dT_addEscapedT_16 : decode cT_addEscapedT 16 = .ok (.caload, 1) := by decide +kernel
theorem dT_addEscapedT_17 : decode cT_addEscapedT 17 = .ok (.invokevirtual 45, 3) := by decide +kernel
theorem dT_addEscapedT_20 : decode cT_addEscapedT 20 = .ok (.iinc 2 1, 3) := by decide +kernel
theorem dT_addEscapedT_23 : decode cT_addEscapedT 23 = .ok (.goto (-21), 3) := by decide +kernel
theorem dT_addEscapedT_26 : decode cT_addEscapedT 26 = .ok (.return_, 1) := by decide +kernel
theorem dT_addEscapedC_0 : decode cT_addEscapedC 0 = .ok (.iload_n 1, 1) := by decide +kernel
theorem dT_addEscapedC_1 : decode cT_addEscapedC 1 = .ok (.lookupswitch 79 #[(34, 70), (38, 43), (60, 52), (62, 61)], 43) := by decide +kernel
theorem dT_addEscapedC_44 : decode cT_addEscapedC 44 = .ok (.aload_n 0, 1) := by decide +kernel
theorem dT_addEscapedC_45 : decode cT_addEscapedC 45 = .ok (.ldc 48, 2) := by decide +kernel
theorem dT_addEscapedC_47 : decode cT_addEscapedC 47 = .ok (.invokevirtual 41, 3) := by decide +kernel
theorem dT_addEscapedC_50 : decode cT_addEscapedC 50 = .ok (.goto 35, 3) := by decide +kernel
theorem dT_addEscapedC_53 : decode cT_addEscapedC 53 = .ok (.aload_n 0, 1) := by decide +kernel
theorem dT_addEscapedC_54 : decode cT_addEscapedC 54 = .ok (.ldc 50, 2) := by decide +kernel
theorem dT_addEscapedC_56 : decode cT_addEscapedC 56 = .ok (.invokevirtual 41, 3) := by decide +kernel
theorem dT_addEscapedC_59 : decode cT_addEscapedC 59 = .ok (.goto 26, 3) := by decide +kernel
theorem dT_addEscapedC_62 : decode cT_addEscapedC 62 = .ok (.aload_n 0, 1) := by decide +kernel
theorem dT_addEscapedC_63 : decode cT_addEscapedC 63 = .ok (.ldc 52, 2) := by decide +kernel
theorem dT_addEscapedC_65 : decode cT_addEscapedC 65 = .ok (.invokevirtual 41, 3) := by decide +kernel
theorem dT_addEscapedC_68 : decode cT_addEscapedC 68 = .ok (.goto 17, 3) := by decide +kernel
theorem dT_addEscapedC_71 : decode cT_addEscapedC 71 = .ok (.aload_n 0, 1) := by decide +kernel
theorem dT_addEscapedC_72 : decode cT_addEscapedC 72 = .ok (.ldc 54, 2) := by decide +kernel
theorem dT_addEscapedC_74 : decode cT_addEscapedC 74 = .ok (.invokevirtual 41, 3) := by decide +kernel
theorem dT_addEscapedC_77 : decode cT_addEscapedC 77 = .ok (.goto 8, 3) := by decide +kernel
theorem dT_addEscapedC_80 : decode cT_addEscapedC 80 = .ok (.aload_n 0, 1) := by decide +kernel
theorem dT_addEscapedC_81 : decode cT_addEscapedC 81 = .ok (.iload_n 1, 1) := by decide +kernel
theorem dT_addEscapedC_82 : decode cT_addEscapedC 82 = .ok (.invokevirtual 28, 3) := by decide +kernel
theorem dT_addEscapedC_85 : decode cT_addEscapedC 85 = .ok (.return_, 1) := by decide +kernel
theorem dH_writeAttributes_0 : decode cH_writeAttributes 0 = .ok (.iconst 0, 1) := by decide +kernel
theorem dH_writeAttributes_1 : decode cH_writeAttributes 1 = .ok (.istore_n 3, 1) := by decide +kernel
theorem dH_writeAttributes_2 : decode cH_writeAttributes 2 = .ok (.iload_n 3, 1) := by decide +kernel
theorem dH_writeAttributes_3 : decode cH_writeAttributes 3 = .ok (.iconst 3, 1) := by decide +kernel
theorem dH_writeAttributes_4 : decode cH_writeAttributes 4 = .ok (.if_icmp .ge 100, 3) := by decide +kernel
theorem dH_writeAttributes_7 : decode cH_writeAttributes 7 = .ok (.aload_n 1, 1) := by decide +kernel
theorem dH_writeAttributes_8 : decode cH_writeAttributes 8 = .ok (.getfield 77, 3) := by decide +kernel
theorem dH_writeAttributes_11 : decode cH_writeAttributes 11 = .ok (.iload_n 3, 1) := by decide +kernel
theorem dH_writeAttributes_12 : decode cH_writeAttributes 12 = .ok (.aaload, 1) := by decide +kernel
theorem dH_writeAttributes_13 : decode cH_writeAttributes 13 = .ok (.astore 4, 2) := by decide +kernel
theorem dH_writeAttributes_15 : decode cH_writeAttributes 15 = .ok (.aload_n 0, 1) := by decide +kernel
theorem dH_writeAttributes_16 : decode cH_writeAttributes 16 = .ok (.iload_n 2, 1) := by decide +kernel
theorem dH_writeAttributes_17 : decode cH_writeAttributes 17 = .ok (.bipush 8, 2) := by decide +kernel
theorem dH_writeAttributes_19 : decode cH_writeAttributes 19 = .ok (.iload_n 3, 1) := by decide +kernel
theorem dH_writeAttributes_20 : decode cH_writeAttributes 20 = .ok (.ishl, 1) := by decide +kernel
theorem dH_writeAttributes_21 : decode cH_writeAttributes 21 = .ok (.invokevirtual 247, 3) := by decide +kernel
theorem dH_writeAttributes_24 : decode cH_writeAttributes 24 = .ok (.ifCond .eq 74, 3) := by decide +kernel
theorem dH_writeAttributes_27 : decode cH_writeAttributes 27 = .ok (.aload 4, 2) := by decide +kernel
theorem dH_writeAttributes_29 : decode cH_writeAttributes 29 = .ok (.getfield 58, 3) := by decide +kernel
theorem dH_writeAttributes_32 : decode cH_writeAttributes 32 = .ok (.ifCond .le 66, 3) := by decide +kernel
theorem dH_writeAttributes_35 : decode cH_writeAttributes 35 = .ok (.aload_n 0, 1) := by decide +kernel
theorem dH_writeAttributes_36 : decode cH_writeAttributes 36 = .ok (.getfield 47, 3) := by decide +kernel
theorem dH_writeAttributes_39 : decode cH_writeAttributes 39 = .ok (.ldc_w 291, 3) := by decide +kernel
theorem dH_writeAttributes_42 : decode cH_writeAttributes 42 = .ok (.invokevirtual 263, 3) := by decide +kernel
theorem dH_writeAttributes_45 : decode cH_writeAttributes 45 = .ok (.aload_n 0, 1) := by decide +kernel
theorem dH_writeAttributes_46 : decode cH_writeAttributes 46 = .ok (.getfield 47, 3) := by decide +kernel
theorem dH_writeAttributes_49 : decode cH_writeAttributes 49 = .ok (.iload_n 3, 1) := by decide +kernel
theorem dH_writeAttributes_50 : decode cH_writeAttributes 50 = .ok (.invokevirtual 266, 3) := by decide +kernel
theorem dH_writeAttributes_53 : decode cH_writeAttributes 53 = .ok (.aload_n 0, 1) := by decide +kernel
theorem dH_writeAttributes_54 : decode cH_writeAttributes 54 = .ok (.getfield 47, 3) := by decide +kernel
theorem dH_writeAttributes_57 : decode cH_writeAttributes 57 = .ok (.bipush 62, 2) := by decide +kernel
theorem dH_writeAttributes_59 : decode cH_writeAttributes 59 = .ok (.invokevirtual 67, 3) := by decide +kernel
theorem dH_writeAttributes_62 : decode cH_writeAttributes 62 = .ok (.aload_n 0, 1) := by decide +kernel
theorem dH_writeAttributes_63 : decode cH_writeAttributes 63 = .ok (.getfield 47, 3) := by decide +kernel
theorem dH_writeAttributes_66 : decode cH_writeAttributes 66 = .ok (.aload 4, 2) := by decide +kernel
theorem dH_writeAttributes_68 : decode cH_writeAttributes 68 = .ok (.invokevirtual 275, 3) := by decide +kernel
theorem dH_writeAttributes_71 : decode cH_writeAttributes 71 = .ok (.aload_n 0, 1) := by decide +kernel
theorem dH_writeAttributes_72 : decode cH_writeAttributes 72 = .ok (.getfield 47, 3) := by decide +kernel
theorem dH_writeAttributes_75 : decode cH_writeAttributes 75 = .ok (.ldc_w 293, 3) := by decide +kernel
theorem dH_writeAttributes_78 : decode cH_writeAttributes 78 = .ok (.invokevirtual 263, 3) := by decide +kernel
theorem dH_writeAttributes_81 : decode cH_writeAttributes 81 = .ok (.aload_n 0, 1) := by decide +kernel
theorem dH_writeAttributes_82 : decode cH_writeAttributes 82 = .ok (.getfield 47, 3) := by decide +kernel
theorem dH_writeAttributes_85 : decode cH_writeAttributes 85 = .ok (.iload_n 3, 1) := by decide +kernel
theorem dH_writeAttributes_86 : decode cH_writeAttributes 86 = .ok (.invokevirtual 266, 3) := by decide +kernel
theorem dH_writeAttributes_89 : decode cH_writeAttributes 89 = .ok (.aload_n 0, 1) := by decide +kernel
theorem dH_writeAttributes_90 : decode cH_writeAttributes 90 = .ok (.getfield 47, 3) := by decide +kernel
theorem dH_writeAttributes_93 : decode cH_writeAttributes 93 = .ok (.bipush 62, 2) := by decide +kernel
theorem dH_writeAttributes_95 : decode cH_writeAttributes 95 = .ok (.invokevirtual 67, 3) := by decide +kernel
theorem dH_writeAttributes_98 : decode cH_writeAttributes 98 = .ok (.iinc 3 1, 3) := by decide +kernel
theorem dH_writeAttributes_101 : decode cH_writeAttributes 101 = .ok (.goto (-99), 3) := by decide +kernel
theorem dH_writeAttributes_104 : decode cH_writeAttributes 104 = .ok (.return_, 1) := by decide +kernel
theorem dT_addElement_0 : decode cT_addElement 0 = .ok (.aload_n 0, 1) := by decide +kernel
theorem dT_addElement_1 : decode cT_addElement 1 = .ok (.bipush 60, 2) := by decide +kernel
theorem dT_addElement_3 : decode cT_addElement 3 = .ok (.invokevirtual 28, 3) := by decide +kernel
theorem dT_addElement_6 : decode cT_addElement 6 = .ok (.aload_n 0, 1) := by decide +kernel
theorem dT_addElement_7 : decode cT_addElement 7 = .ok (.iload_n 1, 1) := by decide +kernel
theorem dT_addElement_8 : decode cT_addElement 8 = .ok (.invokevirtual 28, 3) := by decide +kernel
theorem dT_addElement_11 : decode cT_addElement 11 = .ok (.aload_n 0, 1) := by decide +kernel
theorem dT_addElement_12 : decode cT_addElement 12 = .ok (.bipush 62, 2) := by decide +kernel
theorem dT_addElement_14 : decode cT_addElement 14 = .ok (.invokevirtual 28, 3) := by decide +kernel
theorem dT_addElement_17 : decode cT_addElement 17 = .ok (.aload_n 0, 1) := by decide +kernel
theorem dT_addElement_18 : decode cT_addElement 18 = .ok (.iload_n 2, 1) := by decide +kernel
theorem dT_addElement_19 : decode cT_addElement 19 = .ok (.invokevirtual 36, 3) := by decide +kernel
theorem dT_addElement_22 : decode cT_addElement 22 = .ok (.aload_n 0, 1) := by decide +kernel
theorem dT_addElement_23 : decode cT_addElement 23 = .ok (.ldc 39, 2) := by decide +kernel
theorem dT_addElement_25 : decode cT_addElement 25 = .ok (.invokevirtual 41, 3) := by decide +kernel
theorem dT_addElement_28 : decode cT_addElement 28 = .ok (.aload_n 0, 1) := by decide +kernel
theorem dT_addElement_29 : decode cT_addElement 29 = .ok (.iload_n 1, 1) := by decide +kernel
theorem dT_addElement_30 : decode cT_addElement 30 = .ok (.invokevirtual 28, 3) := by decide +kernel
theorem dT_addElement_33 : decode cT_addElement 33 = .ok (.aload_n 0, 1) := by decide +kernel
theorem dT_addElement_34 : decode cT_addElement 34 = .ok (.bipush 62, 2) := by decide +kernel
theorem dT_addElement_36 : decode cT_addElement 36 = .ok (.invokevirtual 28, 3) := by decide +kernel
theorem dT_addElement_39 : decode cT_addElement 39 = .ok (.return_, 1) := by decide +kernel
theorem dH_writeChain_0 : decode cH_writeChain 0 = .ok (.aload_n 1, 1) := by decide +kernel
theorem dH_writeChain_1 : decode cH_writeChain 1 = .ok (.astore_n 2, 1) := by decide +kernel
theorem dH_writeChain_2 : decode cH_writeChain 2 = .ok (.aload_n 2, 1) := by decide +kernel
theorem dH_writeChain_3 : decode cH_writeChain 3 = .ok (.ifnull 32, 3) := by decide +kernel
theorem dH_writeChain_6 : decode cH_writeChain 6 = .ok (.aload_n 2, 1) := by decide +kernel
theorem dH_writeChain_7 : decode cH_writeChain 7 = .ok (.getfield 157, 3) := by decide +kernel
theorem dH_writeChain_10 : decode cH_writeChain 10 = .ok (.iconst 2, 1) := by decide +kernel
theorem dH_writeChain_11 : decode cH_writeChain 11 = .ok (.if_icmp .ne 16, 3) := by decide +kernel
theorem dH_writeChain_14 : decode cH_writeChain 14 = .ok (.aload_n 0, 1) := by decide +kernel
theorem dH_writeChain_15 : decode cH_writeChain 15 = .ok (.getfield 47, 3) := by decide +kernel
theorem dH_writeChain_18 : decode cH_writeChain 18 = .ok (.bipush 112, 2) := by decide +kernel
theorem dH_writeChain_20 : decode cH_writeChain 20 = .ok (.aload_n 2, 1) := by decide +kernel
theorem dH_writeChain_21 : decode cH_writeChain 21 = .ok (.getfield 226, 3) := by decide +kernel
theorem dH_writeChain_24 : decode cH_writeChain 24 = .ok (.invokevirtual 282, 3) := by decide +kernel
theorem dH_writeChain_27 : decode cH_writeChain 27 = .ok (.aload_n 2, 1) := by decide +kernel
theorem dH_writeChain_28 : decode cH_writeChain 28 = .ok (.getfield 232, 3) := by decide +kernel
theorem dH_writeChain_31 : decode cH_writeChain 31 = .ok (.astore_n 2, 1) := by decide +kernel
theorem dH_writeChain_32 : decode cH_writeChain 32 = .ok (.goto (-30), 3) := by decide +kernel
theorem dH_writeChain_35 : decode cH_writeChain 35 = .ok (.return_, 1) := by decide +kernel
theorem dL_logout_0 : decode cL_logout 0 = .ok (.aload_n 2, 1) := by decide +kernel
theorem dL_logout_1 : decode cL_logout 1 = .ok (.iconst 0, 1) := by decide +kernel
theorem dL_logout_2 : decode cL_logout 2 = .ok (.aload_n 0, 1) := by decide +kernel
theorem dL_logout_3 : decode cL_logout 3 = .ok (.iload_n 1, 1) := by decide +kernel
theorem dL_logout_4 : decode cL_logout 4 = .ok (.invokevirtual 50, 3) := by decide +kernel
theorem dL_logout_7 : decode cL_logout 7 = .ok (.i2l, 1) := by decide +kernel
theorem dL_logout_8 : decode cL_logout 8 = .ok (.lastore, 1) := by decide +kernel
theorem dL_logout_9 : decode cL_logout 9 = .ok (.goto 9, 3) := by decide +kernel
theorem dL_logout_12 : decode cL_logout 12 = .ok (.astore_n 3, 1) := by decide +kernel
theorem dL_logout_13 : decode cL_logout 13 = .ok (.iconst 1, 1) := by decide +kernel
theorem dL_logout_14 : decode cL_logout 14 = .ok (.ireturn, 1) := by decide +kernel
theorem dL_logout_15 : decode cL_logout 15 = .ok (.astore_n 3, 1) := by decide +kernel
theorem dL_logout_16 : decode cL_logout 16 = .ok (.iconst 2, 1) := by decide +kernel
theorem dL_logout_17 : decode cL_logout 17 = .ok (.ireturn, 1) := by decide +kernel
theorem dL_logout_18 : decode cL_logout 18 = .ok (.iconst 0, 1) := by decide +kernel
theorem dL_logout_19 : decode cL_logout 19 = .ok (.ireturn, 1) := by decide +kernel
theorem dH_logout_0 : decode cH_logout 0 = .ok (.aload_n 0, 1) := by decide +kernel
theorem dH_logout_1 : decode cH_logout 1 = .ok (.iload_n 1, 1) := by decide +kernel
theorem dH_logout_2 : decode cH_logout 2 = .ok (.invokevirtual 139, 3) := by decide +kernel
theorem dH_logout_5 : decode cH_logout 5 = .ok (.astore_n 2, 1) := by decide +kernel
theorem dH_logout_6 : decode cH_logout 6 = .ok (.aload_n 2, 1) := by decide +kernel
theorem dH_logout_7 : decode cH_logout 7 = .ok (.ifnonnull 13, 3) := by decide +kernel
theorem dH_logout_10 : decode cH_logout 10 = .ok (.new 51, 3) := by decide +kernel
theorem dH_logout_13 : decode cH_logout 13 = .ok (.dup, 1) := by decide +kernel
theorem dH_logout_14 : decode cH_logout 14 = .ok (.ldc 191, 2) := by decide +kernel
theorem dH_logout_16 : decode cH_logout 16 = .ok (.invokespecial 55, 3) := by decide +kernel
theorem dH_logout_19 : decode cH_logout 19 = .ok (.athrow, 1) := by decide +kernel
theorem dH_logout_20 : decode cH_logout 20 = .ok (.aload_n 2, 1) := by decide +kernel
theorem dH_logout_21 : decode cH_logout 21 = .ok (.getfield 145, 3) := by decide +kernel
theorem dH_logout_24 : decode cH_logout 24 = .ok (.ifCond .ne 13, 3) := by decide +kernel
theorem dH_logout_27 : decode cH_logout 27 = .ok (.new 62, 3) := by decide +kernel
theorem dH_logout_30 : decode cH_logout 30 = .ok (.dup, 1) := by decide +kernel
theorem dH_logout_31 : decode cH_logout 31 = .ok (.ldc 193, 2) := by decide +kernel
theorem dH_logout_33 : decode cH_logout 33 = .ok (.invokespecial 66, 3) := by decide +kernel
theorem dH_logout_36 : decode cH_logout 36 = .ok (.athrow, 1) := by decide +kernel
theorem dH_logout_37 : decode cH_logout 37 = .ok (.aload_n 0, 1) := by decide +kernel
theorem dH_logout_38 : decode cH_logout 38 = .ok (.aload_n 2, 1) := by decide +kernel
theorem dH_logout_39 : decode cH_logout 39 = .ok (.invokevirtual 195, 3) := by decide +kernel
theorem dH_logout_42 : decode cH_logout 42 = .ok (.ireturn, 1) := by decide +kernel
theorem dH_end_0 : decode cH_end 0 = .ok (.aload_n 1, 1) := by decide +kernel
theorem dH_end_1 : decode cH_end 1 = .ok (.iconst 0, 1) := by decide +kernel
theorem dH_end_2 : decode cH_end 2 = .ok (.putfield 145, 3) := by decide +kernel
theorem dH_end_5 : decode cH_end 5 = .ok (.aload_n 0, 1) := by decide +kernel
theorem dH_end_6 : decode cH_end 6 = .ok (.getfield 239, 3) := by decide +kernel
theorem dH_end_9 : decode cH_end 9 = .ok (.istore_n 2, 1) := by decide +kernel
theorem dH_end_10 : decode cH_end 10 = .ok (.iconst 0, 1) := by decide +kernel
theorem dH_end_11 : decode cH_end 11 = .ok (.istore_n 3, 1) := by decide +kernel
theorem dH_end_12 : decode cH_end 12 = .ok (.iload_n 3, 1) := by decide +kernel
theorem dH_end_13 : decode cH_end 13 = .ok (.aload_n 0, 1) := by decide +kernel
theorem dH_end_14 : decode cH_end 14 = .ok (.getfield 125, 3) := by decide +kernel
theorem dH_end_17 : decode cH_end 17 = .ok (.if_icmp .ge 32, 3) := by decide +kernel
theorem dH_end_20 : decode cH_end 20 = .ok (.aload_n 0, 1) := by decide +kernel
theorem dH_end_21 : decode cH_end 21 = .ok (.getfield 31, 3) := by decide +kernel
theorem dH_end_24 : decode cH_end 24 = .ok (.iload_n 3, 1) := by decide +kernel
theorem dH_end_25 : decode cH_end 25 = .ok (.aaload, 1) := by decide +kernel
theorem dH_end_26 : decode cH_end 26 = .ok (.getfield 167, 3) := by decide +kernel
theorem dH_end_29 : decode cH_end 29 = .ok (.aload_n 1, 1) := by decide +kernel
theorem dH_end_30 : decode cH_end 30 = .ok (.if_acmp .ne 13, 3) := by decide +kernel
theorem dH_end_33 : decode cH_end 33 = .ok (.aload_n 0, 1) := by decide +kernel
theorem dH_end_34 : decode cH_end 34 = .ok (.aload_n 0, 1) := by decide +kernel
theorem dH_end_35 : decode cH_end 35 = .ok (.getfield 31, 3) := by decide +kernel
theorem dH_end_38 : decode cH_end 38 = .ok (.iload_n 3, 1) := by decide +kernel
theorem dH_end_39 : decode cH_end 39 = .ok (.aaload, 1) := by decide +kernel
theorem dH_end_40 : decode cH_end 40 = .ok (.invokevirtual 257, 3) := by decide +kernel
theorem dH_end_43 : decode cH_end 43 = .ok (.iinc 3 1, 3) := by decide +kernel
theorem dH_end_46 : decode cH_end 46 = .ok (.goto (-34), 3) := by decide +kernel
theorem dH_end_49 : decode cH_end 49 = .ok (.aload_n 0, 1) := by decide +kernel
theorem dH_end_50 : decode cH_end 50 = .ok (.getfield 239, 3) := by decide +kernel
theorem dH_end_53 : decode cH_end 53 = .ok (.iload_n 2, 1) := by decide +kernel
theorem dH_end_54 : decode cH_end 54 = .ok (.isub, 1) := by decide +kernel
theorem dH_end_55 : decode cH_end 55 = .ok (.ireturn, 1) := by decide +kernel
theorem dH_tellOfEnd_0 : decode cH_tellOfEnd 0 = .ok (.aload_n 1, 1) := by decide +kernel
theorem dH_tellOfEnd_1 : decode cH_tellOfEnd 1 = .ok (.getfield 157, 3) := by decide +kernel
theorem dH_tellOfEnd_4 : decode cH_tellOfEnd 4 = .ok (.ifCond .ne 59, 3) := by decide +kernel
theorem dH_tellOfEnd_7 : decode cH_tellOfEnd 7 = .ok (.aload_n 0, 1) := by decide +kernel
theorem dH_tellOfEnd_8 : decode cH_tellOfEnd 8 = .ok (.aload_n 1, 1) := by decide +kernel
theorem dH_tellOfEnd_9 : decode cH_tellOfEnd 9 = .ok (.getfield 226, 3) := by decide +kernel
theorem dH_tellOfEnd_12 : decode cH_tellOfEnd 12 = .ok (.iconst 4, 1) := by decide +kernel
theorem dH_tellOfEnd_13 : decode cH_tellOfEnd 13 = .ok (.invokevirtual 247, 3) := by decide +kernel
theorem dH_tellOfEnd_16 : decode cH_tellOfEnd 16 = .ok (.ifCond .eq 47, 3) := by decide +kernel
theorem dH_tellOfEnd_19 : decode cH_tellOfEnd 19 = .ok (.aload_n 0, 1) := by decide +kernel
theorem dH_tellOfEnd_20 : decode cH_tellOfEnd 20 = .ok (.getfield 239, 3) := by decide +kernel
theorem dH_tellOfEnd_23 : decode cH_tellOfEnd 23 = .ok (.aload_n 0, 1) := by decide +kernel
theorem dH_tellOfEnd_24 : decode cH_tellOfEnd 24 = .ok (.getfield 35, 3) := by decide +kernel
theorem dH_tellOfEnd_27 : decode cH_tellOfEnd 27 = .ok (.arraylength, 1) := by decide +kernel
theorem dH_tellOfEnd_28 : decode cH_tellOfEnd 28 = .ok (.if_icmp .ge 35, 3) := by decide +kernel
theorem dH_tellOfEnd_31 : decode cH_tellOfEnd 31 = .ok (.aload_n 0, 1) := by decide +kernel
theorem dH_tellOfEnd_32 : decode cH_tellOfEnd 32 = .ok (.getfield 35, 3) := by decide +kernel
theorem dH_tellOfEnd_35 : decode cH_tellOfEnd 35 = .ok (.aload_n 0, 1) := by decide +kernel
theorem dH_tellOfEnd_36 : decode cH_tellOfEnd 36 = .ok (.getfield 239, 3) := by decide +kernel
theorem dH_tellOfEnd_39 : decode cH_tellOfEnd 39 = .ok (.sipush 1000, 3) := by decide +kernel
theorem dH_tellOfEnd_42 : decode cH_tellOfEnd 42 = .ok (.aload_n 1, 1) := by decide +kernel
theorem dH_tellOfEnd_43 : decode cH_tellOfEnd 43 = .ok (.getfield 226, 3) := by decide +kernel
theorem dH_tellOfEnd_46 : decode cH_tellOfEnd 46 = .ok (.imul, 1) := by decide +kernel
theorem dH_tellOfEnd_47 : decode cH_tellOfEnd 47 = .ok (.aload_n 1, 1) := by decide +kernel
theorem dH_tellOfEnd_48 : decode cH_tellOfEnd 48 = .ok (.getfield 138, 3) := by decide +kernel
theorem dH_tellOfEnd_51 : decode cH_tellOfEnd 51 = .ok (.iadd, 1) := by decide +kernel
theorem dH_tellOfEnd_52 : decode cH_tellOfEnd 52 = .ok (.iastore, 1) := by decide +kernel
theorem dH_tellOfEnd_53 : decode cH_tellOfEnd 53 = .ok (.aload_n 0, 1) := by decide +kernel
theorem dH_tellOfEnd_54 : decode cH_tellOfEnd 54 = .ok (.dup, 1) := by decide +kernel
theorem dH_tellOfEnd_55 : decode cH_tellOfEnd 55 = .ok (.getfield 239, 3) := by decide +kernel
theorem dH_tellOfEnd_58 : decode cH_tellOfEnd 58 = .ok (.iconst 1, 1) := by decide +kernel
theorem dH_tellOfEnd_59 : decode cH_tellOfEnd 59 = .ok (.iadd, 1) := by decide +kernel
theorem dH_tellOfEnd_60 : decode cH_tellOfEnd 60 = .ok (.putfield 239, 3) := by decide +kernel
theorem dH_tellOfEnd_63 : decode cH_tellOfEnd 63 = .ok (.return_, 1) := by decide +kernel
theorem dL_tick_0 : decode cL_tick 0 = .ok (.aload_n 2, 1) := by decide +kernel
theorem dL_tick_1 : decode cL_tick 1 = .ok (.iconst 0, 1) := by decide +kernel
theorem dL_tick_2 : decode cL_tick 2 = .ok (.aload_n 0, 1) := by decide +kernel
theorem dL_tick_3 : decode cL_tick 3 = .ok (.iload_n 1, 1) := by decide +kernel
theorem dL_tick_4 : decode cL_tick 4 = .ok (.invokevirtual 53, 3) := by decide +kernel
theorem dL_tick_7 : decode cL_tick 7 = .ok (.i2l, 1) := by decide +kernel
theorem dL_tick_8 : decode cL_tick 8 = .ok (.lastore, 1) := by decide +kernel
theorem dL_tick_9 : decode cL_tick 9 = .ok (.goto 6, 3) := by decide +kernel
theorem dL_tick_12 : decode cL_tick 12 = .ok (.astore_n 3, 1) := by decide +kernel
theorem dL_tick_13 : decode cL_tick 13 = .ok (.iconst 1, 1) := by decide +kernel
theorem dL_tick_14 : decode cL_tick 14 = .ok (.ireturn, 1) := by decide +kernel
theorem dL_tick_15 : decode cL_tick 15 = .ok (.iconst 0, 1) := by decide +kernel
theorem dL_tick_16 : decode cL_tick 16 = .ok (.ireturn, 1) := by decide +kernel
theorem dH_tick_0 : decode cH_tick 0 = .ok (.iload_n 1, 1) := by decide +kernel
theorem dH_tick_1 : decode cH_tick 1 = .ok (.iconst 1, 1) := by decide +kernel
theorem dH_tick_2 : decode cH_tick 2 = .ok (.if_icmp .lt 10, 3) := by decide +kernel
theorem dH_tick_5 : decode cH_tick 5 = .ok (.iload_n 1, 1) := by decide +kernel
theorem dH_tick_6 : decode cH_tick 6 = .ok (.sipush 200, 3) := by decide +kernel
theorem dH_tick_9 : decode cH_tick 9 = .ok (.if_icmp .le 13, 3) := by decide +kernel
theorem dH_tick_12 : decode cH_tick 12 = .ok (.new 51, 3) := by decide +kernel
theorem dH_tick_15 : decode cH_tick 15 = .ok (.dup, 1) := by decide +kernel
theorem dH_tick_16 : decode cH_tick 16 = .ok (.ldc 199, 2) := by decide +kernel
theorem dH_tick_18 : decode cH_tick 18 = .ok (.invokespecial 55, 3) := by decide +kernel
theorem dH_tick_21 : decode cH_tick 21 = .ok (.athrow, 1) := by decide +kernel
theorem dH_tick_22 : decode cH_tick 22 = .ok (.aload_n 0, 1) := by decide +kernel
theorem dH_tick_23 : decode cH_tick 23 = .ok (.dup, 1) := by decide +kernel
theorem dH_tick_24 : decode cH_tick 24 = .ok (.getfield 106, 3) := by decide +kernel
theorem dH_tick_27 : decode cH_tick 27 = .ok (.iload_n 1, 1) := by decide +kernel
theorem dH_tick_28 : decode cH_tick 28 = .ok (.iadd, 1) := by decide +kernel
theorem dH_tick_29 : decode cH_tick 29 = .ok (.putfield 106, 3) := by decide +kernel
theorem dH_tick_32 : decode cH_tick 32 = .ok (.iconst 0, 1) := by decide +kernel
theorem dH_tick_33 : decode cH_tick 33 = .ok (.istore_n 2, 1) := by decide +kernel
theorem dH_tick_34 : decode cH_tick 34 = .ok (.iload_n 2, 1) := by decide +kernel
theorem dH_tick_35 : decode cH_tick 35 = .ok (.iconst 4, 1) := by decide +kernel
theorem dH_tick_36 : decode cH_tick 36 = .ok (.if_icmp .ge 22, 3) := by decide +kernel
theorem dH_tick_39 : decode cH_tick 39 = .ok (.aload_n 0, 1) := by decide +kernel
theorem dH_tick_40 : decode cH_tick 40 = .ok (.getfield 11, 3) := by decide +kernel
theorem dH_tick_43 : decode cH_tick 43 = .ok (.iload_n 2, 1) := by decide +kernel
theorem dH_tick_44 : decode cH_tick 44 = .ok (.aaload, 1) := by decide +kernel
theorem dH_tick_45 : decode cH_tick 45 = .ok (.aload_n 0, 1) := by decide +kernel
theorem dH_tick_46 : decode cH_tick 46 = .ok (.getfield 106, 3) := by decide +kernel
theorem dH_tick_49 : decode cH_tick 49 = .ok (.invokevirtual 201, 3) := by decide +kernel
theorem dH_tick_52 : decode cH_tick 52 = .ok (.iinc 2 1, 3) := by decide +kernel
theorem dH_tick_55 : decode cH_tick 55 = .ok (.goto (-21), 3) := by decide +kernel
theorem dH_tick_58 : decode cH_tick 58 = .ok (.iconst 0, 1) := by decide +kernel
theorem dH_tick_59 : decode cH_tick 59 = .ok (.istore_n 2, 1) := by decide +kernel
theorem dH_tick_60 : decode cH_tick 60 = .ok (.iload_n 2, 1) := by decide +kernel
theorem dH_tick_61 : decode cH_tick 61 = .ok (.aload_n 0, 1) := by decide +kernel
theorem dH_tick_62 : decode cH_tick 62 = .ok (.getfield 101, 3) := by decide +kernel
theorem dH_tick_65 : decode cH_tick 65 = .ok (.if_icmp .ge 48, 3) := by decide +kernel
theorem dH_tick_68 : decode cH_tick 68 = .ok (.aload_n 0, 1) := by decide +kernel
theorem dH_tick_69 : decode cH_tick 69 = .ok (.getfield 25, 3) := by decide +kernel
theorem dH_tick_72 : decode cH_tick 72 = .ok (.iload_n 2, 1) := by decide +kernel
theorem dH_tick_73 : decode cH_tick 73 = .ok (.aaload, 1) := by decide +kernel
theorem dH_tick_74 : decode cH_tick 74 = .ok (.getfield 145, 3) := by decide +kernel
theorem dH_tick_77 : decode cH_tick 77 = .ok (.ifCond .eq 30, 3) := by decide +kernel
theorem dH_tick_80 : decode cH_tick 80 = .ok (.aload_n 0, 1) := by decide +kernel
theorem dH_tick_81 : decode cH_tick 81 = .ok (.getfield 25, 3) := by decide +kernel
theorem dH_tick_84 : decode cH_tick 84 = .ok (.iload_n 2, 1) := by decide +kernel
theorem dH_tick_85 : decode cH_tick 85 = .ok (.aaload, 1) := by decide +kernel
theorem dH_tick_86 : decode cH_tick 86 = .ok (.aload_n 0, 1) := by decide +kernel
theorem dH_tick_87 : decode cH_tick 87 = .ok (.getfield 106, 3) := by decide +kernel
theorem dH_tick_90 : decode cH_tick 90 = .ok (.invokevirtual 204, 3) := by decide +kernel
theorem dH_tick_93 : decode cH_tick 93 = .ok (.ifCond .eq 14, 3) := by decide +kernel
theorem dH_tick_96 : decode cH_tick 96 = .ok (.aload_n 0, 1) := by decide +kernel
theorem dH_tick_97 : decode cH_tick 97 = .ok (.aload_n 0, 1) := by decide +kernel
theorem dH_tick_98 : decode cH_tick 98 = .ok (.getfield 25, 3) := by decide +kernel
theorem dH_tick_101 : decode cH_tick 101 = .ok (.iload_n 2, 1) := by decide +kernel
theorem dH_tick_102 : decode cH_tick 102 = .ok (.aaload, 1) := by decide +kernel
theorem dH_tick_103 : decode cH_tick 103 = .ok (.invokevirtual 195, 3) := by decide +kernel
theorem dH_tick_106 : decode cH_tick 106 = .ok (.pop, 1) := by decide +kernel
theorem dH_tick_107 : decode cH_tick 107 = .ok (.iinc 2 1, 3) := by decide +kernel
theorem dH_tick_110 : decode cH_tick 110 = .ok (.goto (-50), 3) := by decide +kernel
theorem dH_tick_113 : decode cH_tick 113 = .ok (.aload_n 0, 1) := by decide +kernel
theorem dH_tick_114 : decode cH_tick 114 = .ok (.getfield 106, 3) := by decide +kernel
theorem dH_tick_117 : decode cH_tick 117 = .ok (.ireturn, 1) := by decide +kernel
theorem dU_unlockIfDue_0 : decode cU_unlockIfDue 0 = .ok (.aload_n 0, 1) := by decide +kernel
theorem dU_unlockIfDue_1 : decode cU_unlockIfDue 1 = .ok (.getfield 31, 3) := by decide +kernel
theorem dU_unlockIfDue_4 : decode cU_unlockIfDue 4 = .ok (.iconst 3, 1) := by decide +kernel
theorem dU_unlockIfDue_5 : decode cU_unlockIfDue 5 = .ok (.if_icmp .lt 19, 3) := by decide +kernel
theorem dU_unlockIfDue_8 : decode cU_unlockIfDue 8 = .ok (.iload_n 1, 1) := by decide +kernel
theorem dU_unlockIfDue_9 : decode cU_unlockIfDue 9 = .ok (.aload_n 0, 1) := by decide +kernel
theorem dU_unlockIfDue_10 : decode cU_unlockIfDue 10 = .ok (.getfield 34, 3) := by decide +kernel
theorem dU_unlockIfDue_13 : decode cU_unlockIfDue 13 = .ok (.isub, 1) := by decide +kernel
theorem dU_unlockIfDue_14 : decode cU_unlockIfDue 14 = .ok (.bipush 20, 2) := by decide +kernel
theorem dU_unlockIfDue_16 : decode cU_unlockIfDue 16 = .ok (.if_icmp .le 8, 3) := by decide +kernel
theorem dU_unlockIfDue_19 : decode cU_unlockIfDue 19 = .ok (.aload_n 0, 1) := by decide +kernel
theorem dU_unlockIfDue_20 : decode cU_unlockIfDue 20 = .ok (.iconst 0, 1) := by decide +kernel
theorem dU_unlockIfDue_21 : decode cU_unlockIfDue 21 = .ok (.putfield 31, 3) := by decide +kernel
theorem dU_unlockIfDue_24 : decode cU_unlockIfDue 24 = .ok (.return_, 1) := by decide +kernel
theorem dS_isOver_0 : decode cS_isOver 0 = .ok (.aload_n 0, 1) := by decide +kernel
theorem dS_isOver_1 : decode cS_isOver 1 = .ok (.getfield 24, 3) := by decide +kernel
theorem dS_isOver_4 : decode cS_isOver 4 = .ok (.ifCond .eq 9, 3) := by decide +kernel
theorem dS_isOver_7 : decode cS_isOver 7 = .ok (.sipush 150, 3) := by decide +kernel
theorem dS_isOver_10 : decode cS_isOver 10 = .ok (.goto 5, 3) := by decide +kernel
theorem dS_isOver_13 : decode cS_isOver 13 = .ok (.bipush 30, 2) := by decide +kernel
theorem dS_isOver_15 : decode cS_isOver 15 = .ok (.istore_n 2, 1) := by decide +kernel
theorem dS_isOver_16 : decode cS_isOver 16 = .ok (.aload_n 0, 1) := by decide +kernel
theorem dS_isOver_17 : decode cS_isOver 17 = .ok (.getfield 24, 3) := by decide +kernel
theorem dS_isOver_20 : decode cS_isOver 20 = .ok (.ifCond .eq 9, 3) := by decide +kernel
theorem dS_isOver_23 : decode cS_isOver 23 = .ok (.sipush 400, 3) := by decide +kernel
theorem dS_isOver_26 : decode cS_isOver 26 = .ok (.goto 5, 3) := by decide +kernel
theorem dS_isOver_29 : decode cS_isOver 29 = .ok (.bipush 120, 2) := by decide +kernel
theorem dS_isOver_31 : decode cS_isOver 31 = .ok (.istore_n 3, 1) := by decide +kernel
theorem dS_isOver_32 : decode cS_isOver 32 = .ok (.iload_n 1, 1) := by decide +kernel
theorem dS_isOver_33 : decode cS_isOver 33 = .ok (.aload_n 0, 1) := by decide +kernel
theorem dS_isOver_34 : decode cS_isOver 34 = .ok (.getfield 27, 3) := by decide +kernel
theorem dS_isOver_37 : decode cS_isOver 37 = .ok (.isub, 1) := by decide +kernel
theorem dS_isOver_38 : decode cS_isOver 38 = .ok (.iload_n 2, 1) := by decide +kernel
theorem dS_isOver_39 : decode cS_isOver 39 = .ok (.if_icmp .gt 13, 3) := by decide +kernel
theorem dS_isOver_42 : decode cS_isOver 42 = .ok (.iload_n 1, 1) := by decide +kernel
theorem dS_isOver_43 : decode cS_isOver 43 = .ok (.aload_n 0, 1) := by decide +kernel
theorem dS_isOver_44 : decode cS_isOver 44 = .ok (.getfield 21, 3) := by decide +kernel
theorem dS_isOver_47 : decode cS_isOver 47 = .ok (.isub, 1) := by decide +kernel
theorem dS_isOver_48 : decode cS_isOver 48 = .ok (.iload_n 3, 1) := by decide +kernel
theorem dS_isOver_49 : decode cS_isOver 49 = .ok (.if_icmp .le 7, 3) := by decide +kernel
theorem dS_isOver_52 : decode cS_isOver 52 = .ok (.iconst 1, 1) := by decide +kernel
theorem dS_isOver_53 : decode cS_isOver 53 = .ok (.goto 4, 3) := by decide +kernel
theorem dS_isOver_56 : decode cS_isOver 56 = .ok (.iconst 0, 1) := by decide +kernel
theorem dS_isOver_57 : decode cS_isOver 57 = .ok (.ireturn, 1) := by decide +kernel
theorem dM_init_0 : decode cM_init 0 = .ok (.aload_n 0, 1) := by decide +kernel
theorem dM_init_1 : decode cM_init 1 = .ok (.invokespecial 1, 3) := by decide +kernel
theorem dM_init_4 : decode cM_init 4 = .ok (.aload_n 0, 1) := by decide +kernel
theorem dM_init_5 : decode cM_init 5 = .ok (.bipush 8, 2) := by decide +kernel
theorem dM_init_7 : decode cM_init 7 = .ok (.newarray .int, 2) := by decide +kernel
theorem dM_init_9 : decode cM_init 9 = .ok (.putfield 7, 3) := by decide +kernel
theorem dM_init_12 : decode cM_init 12 = .ok (.aload_n 0, 1) := by decide +kernel
theorem dM_init_13 : decode cM_init 13 = .ok (.sipush 128, 3) := by decide +kernel
theorem dM_init_16 : decode cM_init 16 = .ok (.newarray .int, 2) := by decide +kernel
theorem dM_init_18 : decode cM_init 18 = .ok (.putfield 13, 3) := by decide +kernel
theorem dM_init_21 : decode cM_init 21 = .ok (.aload_n 0, 1) := by decide +kernel
theorem dM_init_22 : decode cM_init 22 = .ok (.bipush 16, 2) := by decide +kernel
theorem dM_init_24 : decode cM_init 24 = .ok (.newarray .int, 2) := by decide +kernel
theorem dM_init_26 : decode cM_init 26 = .ok (.putfield 16, 3) := by decide +kernel
theorem dM_init_29 : decode cM_init 29 = .ok (.aload_n 0, 1) := by decide +kernel
theorem dM_init_30 : decode cM_init 30 = .ok (.iconst 4, 1) := by decide +kernel
theorem dM_init_31 : decode cM_init 31 = .ok (.newarray .boolean, 2) := by decide +kernel
theorem dM_init_33 : decode cM_init 33 = .ok (.putfield 19, 3) := by decide +kernel
theorem dM_init_36 : decode cM_init 36 = .ok (.aload_n 0, 1) := by decide +kernel
theorem dM_init_37 : decode cM_init 37 = .ok (.iconst 4, 1) := by decide +kernel
theorem dM_init_38 : decode cM_init 38 = .ok (.newarray .int, 2) := by decide +kernel
theorem dM_init_40 : decode cM_init 40 = .ok (.putfield 23, 3) := by decide +kernel
theorem dM_init_43 : decode cM_init 43 = .ok (.aload_n 0, 1) := by decide +kernel
theorem dM_init_44 : decode cM_init 44 = .ok (.iconst 4, 1) := by decide +kernel
theorem dM_init_45 : decode cM_init 45 = .ok (.newarray .int, 2) := by decide +kernel
theorem dM_init_47 : decode cM_init 47 = .ok (.putfield 26, 3) := by decide +kernel
theorem dM_init_50 : decode cM_init 50 = .ok (.aload_n 0, 1) := by decide +kernel
theorem dM_init_51 : decode cM_init 51 = .ok (.iconst 4, 1) := by decide +kernel
theorem dM_init_52 : decode cM_init 52 = .ok (.newarray .int, 2) := by decide +kernel
theorem dM_init_54 : decode cM_init 54 = .ok (.putfield 29, 3) := by decide +kernel
theorem dM_init_57 : decode cM_init 57 = .ok (.aload_n 0, 1) := by decide +kernel
theorem dM_init_58 : decode cM_init 58 = .ok (.bipush 6, 2) := by decide +kernel
theorem dM_init_60 : decode cM_init 60 = .ok (.newarray .int, 2) := by decide +kernel
theorem dM_init_62 : decode cM_init 62 = .ok (.putfield 32, 3) := by decide +kernel
theorem dM_init_65 : decode cM_init 65 = .ok (.aload_n 0, 1) := by decide +kernel
theorem dM_init_66 : decode cM_init 66 = .ok (.bipush 6, 2) := by decide +kernel
theorem dM_init_68 : decode cM_init 68 = .ok (.newarray .boolean, 2) := by decide +kernel
theorem dM_init_70 : decode cM_init 70 = .ok (.putfield 35, 3) := by decide +kernel
theorem dM_init_73 : decode cM_init 73 = .ok (.aload_n 0, 1) := by decide +kernel
theorem dM_init_74 : decode cM_init 74 = .ok (.bipush 40, 2) := by decide +kernel
theorem dM_init_76 : decode cM_init 76 = .ok (.newarray .int, 2) := by decide +kernel
theorem dM_init_78 : decode cM_init 78 = .ok (.putfield 38, 3) := by decide +kernel
theorem dM_init_81 : decode cM_init 81 = .ok (.aload_n 0, 1) := by decide +kernel
theorem dM_init_82 : decode cM_init 82 = .ok (.bipush 40, 2) := by decide +kernel
theorem dM_init_84 : decode cM_init 84 = .ok (.newarray .int, 2) := by decide +kernel
theorem dM_init_86 : decode cM_init 86 = .ok (.putfield 41, 3) := by decide +kernel
theorem dM_init_89 : decode cM_init 89 = .ok (.aload_n 0, 1) := by decide +kernel
theorem dM_init_90 : decode cM_init 90 = .ok (.bipush 40, 2) := by decide +kernel
theorem dM_init_92 : decode cM_init 92 = .ok (.newarray .int, 2) := by decide +kernel
theorem dM_init_94 : decode cM_init 94 = .ok (.putfield 44, 3) := by decide +kernel
theorem dM_init_97 : decode cM_init 97 = .ok (.aload_n 0, 1) := by decide +kernel
theorem dM_init_98 : decode cM_init 98 = .ok (.bipush 40, 2) := by decide +kernel
theorem dM_init_100 : decode cM_init 100 = .ok (.newarray .boolean, 2) := by decide +kernel
theorem dM_init_102 : decode cM_init 102 = .ok (.putfield 47, 3) := by decide +kernel
theorem dM_init_105 : decode cM_init 105 = .ok (.aload_n 0, 1) := by decide +kernel
theorem dM_init_106 : decode cM_init 106 = .ok (.bipush 40, 2) := by decide +kernel
theorem dM_init_108 : decode cM_init 108 = .ok (.newarray .boolean, 2) := by decide +kernel
theorem dM_init_110 : decode cM_init 110 = .ok (.putfield 50, 3) := by decide +kernel
theorem dM_init_113 : decode cM_init 113 = .ok (.aload_n 0, 1) := by decide +kernel
theorem dM_init_114 : decode cM_init 114 = .ok (.sipush 150, 3) := by decide +kernel
theorem dM_init_117 : decode cM_init 117 = .ok (.newarray .int, 2) := by decide +kernel
theorem dM_init_119 : decode cM_init 119 = .ok (.putfield 53, 3) := by decide +kernel
theorem dM_init_122 : decode cM_init 122 = .ok (.aload_n 0, 1) := by decide +kernel
theorem dM_init_123 : decode cM_init 123 = .ok (.sipush 150, 3) := by decide +kernel
theorem dM_init_126 : decode cM_init 126 = .ok (.newarray .int, 2) := by decide +kernel
theorem dM_init_128 : decode cM_init 128 = .ok (.putfield 56, 3) := by decide +kernel
theorem dM_init_131 : decode cM_init 131 = .ok (.aload_n 0, 1) := by decide +kernel
theorem dM_init_132 : decode cM_init 132 = .ok (.sipush 150, 3) := by decide +kernel
theorem dM_init_135 : decode cM_init 135 = .ok (.newarray .int, 2) := by decide +kernel
theorem dM_init_137 : decode cM_init 137 = .ok (.putfield 59, 3) := by decide +kernel
theorem dM_init_140 : decode cM_init 140 = .ok (.aload_n 0, 1) := by decide +kernel
theorem dM_init_141 : decode cM_init 141 = .ok (.sipush 150, 3) := by decide +kernel
theorem dM_init_144 : decode cM_init 144 = .ok (.newarray .int, 2) := by decide +kernel
theorem dM_init_146 : decode cM_init 146 = .ok (.putfield 62, 3) := by decide +kernel
theorem dM_init_149 : decode cM_init 149 = .ok (.aload_n 0, 1) := by decide +kernel
theorem dM_init_150 : decode cM_init 150 = .ok (.sipush 150, 3) := by decide +kernel
theorem dM_init_153 : decode cM_init 153 = .ok (.newarray .boolean, 2) := by decide +kernel
theorem dM_init_155 : decode cM_init 155 = .ok (.putfield 65, 3) := by decide +kernel
theorem dM_init_158 : decode cM_init 158 = .ok (.aload_n 0, 1) := by decide +kernel
theorem dM_init_159 : decode cM_init 159 = .ok (.sipush 150, 3) := by decide +kernel
theorem dM_init_162 : decode cM_init 162 = .ok (.newarray .int, 2) := by decide +kernel
theorem dM_init_164 : decode cM_init 164 = .ok (.putfield 68, 3) := by decide +kernel
theorem dM_init_167 : decode cM_init 167 = .ok (.aload_n 0, 1) := by decide +kernel
theorem dM_init_168 : decode cM_init 168 = .ok (.sipush 150, 3) := by decide +kernel
theorem dM_init_171 : decode cM_init 171 = .ok (.newarray .boolean, 2) := by decide +kernel
theorem dM_init_173 : decode cM_init 173 = .ok (.putfield 71, 3) := by decide +kernel
theorem dM_init_176 : decode cM_init 176 = .ok (.aload_n 0, 1) := by decide +kernel
theorem dM_init_177 : decode cM_init 177 = .ok (.sipush 200, 3) := by decide +kernel
theorem dM_init_180 : decode cM_init 180 = .ok (.newarray .int, 2) := by decide +kernel
theorem dM_init_182 : decode cM_init 182 = .ok (.putfield 74, 3) := by decide +kernel
theorem dM_init_185 : decode cM_init 185 = .ok (.aload_n 0, 1) := by decide +kernel
theorem dM_init_186 : decode cM_init 186 = .ok (.sipush 1400, 3) := by decide +kernel
theorem dM_init_189 : decode cM_init 189 = .ok (.newarray .int, 2) := by decide +kernel
theorem dM_init_191 : decode cM_init 191 = .ok (.putfield 77, 3) := by decide +kernel
theorem dM_init_194 : decode cM_init 194 = .ok (.aload_n 0, 1) := by decide +kernel
theorem dM_init_195 : decode cM_init 195 = .ok (.iconst (-1), 1) := by decide +kernel
theorem dM_init_196 : decode cM_init 196 = .ok (.putfield 80, 3) := by decide +kernel
theorem dM_init_199 : decode cM_init 199 = .ok (.aload_n 0, 1) := by decide +kernel
theorem dM_init_200 : decode cM_init 200 = .ok (.bipush 12, 2) := by decide +kernel
theorem dM_init_202 : decode cM_init 202 = .ok (.newarray .int, 2) := by decide +kernel
theorem dM_init_204 : decode cM_init 204 = .ok (.putfield 84, 3) := by decide +kernel
theorem dM_init_207 : decode cM_init 207 = .ok (.return_, 1) := by decide +kernel
theorem dM_thrown_0 : decode cM_thrown 0 = .ok (.aload_n 0, 1) := by decide +kernel
theorem dM_thrown_1 : decode cM_thrown 1 = .ok (.getfield 87, 3) := by decide +kernel
theorem dM_thrown_4 : decode cM_thrown 4 = .ok (.ireturn, 1) := by decide +kernel
theorem dM_letter_0 : decode cM_letter 0 = .ok (.aload_n 0, 1) := by decide +kernel
theorem dM_letter_1 : decode cM_letter 1 = .ok (.iload_n 1, 1) := by decide +kernel
theorem dM_letter_2 : decode cM_letter 2 = .ok (.bipush 32, 2) := by decide +kernel
theorem dM_letter_4 : decode cM_letter 4 = .ok (.bipush 126, 2) := by decide +kernel
theorem dM_letter_6 : decode cM_letter 6 = .ok (.invokestatic 90, 3) := by decide +kernel
theorem dM_letter_9 : decode cM_letter 9 = .ok (.ifCond .ne 7, 3) := by decide +kernel
theorem dM_letter_12 : decode cM_letter 12 = .ok (.iconst 1, 1) := by decide +kernel
theorem dM_letter_13 : decode cM_letter 13 = .ok (.goto 17, 3) := by decide +kernel
theorem dM_letter_16 : decode cM_letter 16 = .ok (.aload_n 0, 1) := by decide +kernel
theorem dM_letter_17 : decode cM_letter 17 = .ok (.getfield 94, 3) := by decide +kernel
theorem dM_letter_20 : decode cM_letter 20 = .ok (.bipush 8, 2) := by decide +kernel
theorem dM_letter_22 : decode cM_letter 22 = .ok (.if_icmp .ne 7, 3) := by decide +kernel
theorem dM_letter_25 : decode cM_letter 25 = .ok (.iconst 2, 1) := by decide +kernel
theorem dM_letter_26 : decode cM_letter 26 = .ok (.goto 4, 3) := by decide +kernel
theorem dM_letter_29 : decode cM_letter 29 = .ok (.iconst 0, 1) := by decide +kernel
theorem dM_letter_30 : decode cM_letter 30 = .ok (.putfield 87, 3) := by decide +kernel
theorem dM_letter_33 : decode cM_letter 33 = .ok (.aload_n 0, 1) := by decide +kernel
theorem dM_letter_34 : decode cM_letter 34 = .ok (.getfield 87, 3) := by decide +kernel
theorem dM_letter_37 : decode cM_letter 37 = .ok (.ifCond .ne 23, 3) := by decide +kernel
theorem dM_letter_40 : decode cM_letter 40 = .ok (.aload_n 0, 1) := by decide +kernel
theorem dM_letter_41 : decode cM_letter 41 = .ok (.getfield 7, 3) := by decide +kernel
theorem dM_letter_44 : decode cM_letter 44 = .ok (.aload_n 0, 1) := by decide +kernel
theorem dM_letter_45 : decode cM_letter 45 = .ok (.getfield 94, 3) := by decide +kernel
theorem dM_letter_48 : decode cM_letter 48 = .ok (.iload_n 1, 1) := by decide +kernel
theorem dM_letter_49 : decode cM_letter 49 = .ok (.iastore, 1) := by decide +kernel
theorem dM_letter_50 : decode cM_letter 50 = .ok (.aload_n 0, 1) := by decide +kernel
theorem dM_letter_51 : decode cM_letter 51 = .ok (.dup, 1) := by decide +kernel
theorem dM_letter_52 : decode cM_letter 52 = .ok (.getfield 94, 3) := by decide +kernel
theorem dM_letter_55 : decode cM_letter 55 = .ok (.iconst 1, 1) := by decide +kernel
theorem dM_letter_56 : decode cM_letter 56 = .ok (.iadd, 1) := by decide +kernel
theorem dM_letter_57 : decode cM_letter 57 = .ok (.putfield 94, 3) := by decide +kernel
theorem dM_letter_60 : decode cM_letter 60 = .ok (.aload_n 0, 1) := by decide +kernel
theorem dM_letter_61 : decode cM_letter 61 = .ok (.getfield 94, 3) := by decide +kernel
theorem dM_letter_64 : decode cM_letter 64 = .ok (.ireturn, 1) := by decide +kernel
theorem dM_within_0 : decode cM_within 0 = .ok (.iload_n 0, 1) := by decide +kernel
theorem dM_within_1 : decode cM_within 1 = .ok (.iload_n 1, 1) := by decide +kernel
theorem dM_within_2 : decode cM_within 2 = .ok (.if_icmp .lt 12, 3) := by decide +kernel
theorem dM_within_5 : decode cM_within 5 = .ok (.iload_n 0, 1) := by decide +kernel
theorem dM_within_6 : decode cM_within 6 = .ok (.iload_n 2, 1) := by decide +kernel
theorem dM_within_7 : decode cM_within 7 = .ok (.if_icmp .gt 7, 3) := by decide +kernel
theorem dM_within_10 : decode cM_within 10 = .ok (.iconst 1, 1) := by decide +kernel
theorem dM_within_11 : decode cM_within 11 = .ok (.goto 4, 3) := by decide +kernel
theorem dM_within_14 : decode cM_within 14 = .ok (.iconst 0, 1) := by decide +kernel
theorem dM_within_15 : decode cM_within 15 = .ok (.ireturn, 1) := by decide +kernel
theorem dM_text_0 : decode cM_text 0 = .ok (.aload_n 0, 1) := by decide +kernel
theorem dM_text_1 : decode cM_text 1 = .ok (.iload_n 1, 1) := by decide +kernel
theorem dM_text_2 : decode cM_text 2 = .ok (.iconst 0, 1) := by decide +kernel
theorem dM_text_3 : decode cM_text 3 = .ok (.iconst 3, 1) := by decide +kernel
theorem dM_text_4 : decode cM_text 4 = .ok (.invokestatic 90, 3) := by decide +kernel
theorem dM_text_7 : decode cM_text 7 = .ok (.ifCond .eq 12, 3) := by decide +kernel
theorem dM_text_10 : decode cM_text 10 = .ok (.iload_n 2, 1) := by decide +kernel
theorem dM_text_11 : decode cM_text 11 = .ok (.iconst 0, 1) := by decide +kernel
theorem dM_text_12 : decode cM_text 12 = .ok (.iconst 3, 1) := by decide +kernel
theorem dM_text_13 : decode cM_text 13 = .ok (.invokestatic 90, 3) := by decide +kernel
theorem dM_text_16 : decode cM_text 16 = .ok (.ifCond .ne 7, 3) := by decide +kernel
theorem dM_text_19 : decode cM_text 19 = .ok (.iconst 1, 1) := by decide +kernel
theorem dM_text_20 : decode cM_text 20 = .ok (.goto 4, 3) := by decide +kernel
theorem dM_text_23 : decode cM_text 23 = .ok (.iconst 0, 1) := by decide +kernel
theorem dM_text_24 : decode cM_text 24 = .ok (.putfield 87, 3) := by decide +kernel
theorem dM_text_27 : decode cM_text 27 = .ok (.aload_n 0, 1) := by decide +kernel
theorem dM_text_28 : decode cM_text 28 = .ok (.getfield 87, 3) := by decide +kernel
theorem dM_text_31 : decode cM_text 31 = .ok (.ifCond .le 5, 3) := by decide +kernel
theorem dM_text_34 : decode cM_text 34 = .ok (.iconst 0, 1) := by decide +kernel
theorem dM_text_35 : decode cM_text 35 = .ok (.ireturn, 1) := by decide +kernel
theorem dM_text_36 : decode cM_text 36 = .ok (.iconst 4, 1) := by decide +kernel
theorem dM_text_37 : decode cM_text 37 = .ok (.iload_n 1, 1) := by decide +kernel
theorem dM_text_38 : decode cM_text 38 = .ok (.imul, 1) := by decide +kernel
theorem dM_text_39 : decode cM_text 39 = .ok (.iload_n 2, 1) := by decide +kernel
theorem dM_text_40 : decode cM_text 40 = .ok (.iadd, 1) := by decide +kernel
theorem dM_text_41 : decode cM_text 41 = .ok (.istore_n 3, 1) := by decide +kernel
theorem dM_text_42 : decode cM_text 42 = .ok (.iconst 0, 1) := by decide +kernel
theorem dM_text_43 : decode cM_text 43 = .ok (.istore 4, 2) := by decide +kernel
theorem dM_text_45 : decode cM_text 45 = .ok (.iload 4, 2) := by decide +kernel
theorem dM_text_47 : decode cM_text 47 = .ok (.aload_n 0, 1) := by decide +kernel
theorem dM_text_48 : decode cM_text 48 = .ok (.getfield 94, 3) := by decide +kernel
theorem dM_text_51 : decode cM_text 51 = .ok (.if_icmp .ge 28, 3) := by decide +kernel
theorem dM_text_54 : decode cM_text 54 = .ok (.aload_n 0, 1) := by decide +kernel
theorem dM_text_55 : decode cM_text 55 = .ok (.getfield 13, 3) := by decide +kernel
theorem dM_text_58 : decode cM_text 58 = .ok (.bipush 8, 2) := by decide +kernel
theorem dM_text_60 : decode cM_text 60 = .ok (.iload_n 3, 1) := by decide +kernel
theorem dM_text_61 : decode cM_text 61 = .ok (.imul, 1) := by decide +kernel
theorem dM_text_62 : decode cM_text 62 = .ok (.iload 4, 2) := by decide +kernel
theorem dM_text_64 : decode cM_text 64 = .ok (.iadd, 1) := by decide +kernel
theorem dM_text_65 : decode cM_text 65 = .ok (.aload_n 0, 1) := by decide +kernel
theorem dM_text_66 : decode cM_text 66 = .ok (.getfield 7, 3) := by decide +kernel
theorem dM_text_69 : decode cM_text 69 = .ok (.iload 4, 2) := by decide +kernel
theorem dM_text_71 : decode cM_text 71 = .ok (.iaload, 1) := by decide +kernel
theorem dM_text_72 : decode cM_text 72 = .ok (.iastore, 1) := by decide +kernel
theorem dM_text_73 : decode cM_text 73 = .ok (.iinc 4 1, 3) := by decide +kernel
theorem dM_text_76 : decode cM_text 76 = .ok (.goto (-31), 3) := by decide +kernel
theorem dM_text_79 : decode cM_text 79 = .ok (.aload_n 0, 1) := by decide +kernel
theorem dM_text_80 : decode cM_text 80 = .ok (.getfield 16, 3) := by decide +kernel
theorem dM_text_83 : decode cM_text 83 = .ok (.iload_n 3, 1) := by decide +kernel
theorem dM_text_84 : decode cM_text 84 = .ok (.aload_n 0, 1) := by decide +kernel
theorem dM_text_85 : decode cM_text 85 = .ok (.getfield 94, 3) := by decide +kernel
theorem dM_text_88 : decode cM_text 88 = .ok (.iastore, 1) := by decide +kernel
theorem dM_text_89 : decode cM_text 89 = .ok (.aload_n 0, 1) := by decide +kernel
theorem dM_text_90 : decode cM_text 90 = .ok (.iconst 0, 1) := by decide +kernel
theorem dM_text_91 : decode cM_text 91 = .ok (.putfield 94, 3) := by decide +kernel
theorem dM_text_94 : decode cM_text 94 = .ok (.aload_n 0, 1) := by decide +kernel
theorem dM_text_95 : decode cM_text 95 = .ok (.getfield 16, 3) := by decide +kernel
theorem dM_text_98 : decode cM_text 98 = .ok (.iload_n 3, 1) := by decide +kernel
theorem dM_text_99 : decode cM_text 99 = .ok (.iaload, 1) := by decide +kernel
theorem dM_text_100 : decode cM_text 100 = .ok (.ireturn, 1) := by decide +kernel
theorem dM_password_0 : decode cM_password 0 = .ok (.aload_n 0, 1) := by decide +kernel
theorem dM_password_1 : decode cM_password 1 = .ok (.iload_n 1, 1) := by decide +kernel
theorem dM_password_2 : decode cM_password 2 = .ok (.iconst 0, 1) := by decide +kernel
theorem dM_password_3 : decode cM_password 3 = .ok (.iconst 3, 1) := by decide +kernel
theorem dM_password_4 : decode cM_password 4 = .ok (.invokestatic 90, 3) := by decide +kernel
theorem dM_password_7 : decode cM_password 7 = .ok (.ifCond .eq 7, 3) := by decide +kernel
theorem dM_password_10 : decode cM_password 10 = .ok (.iconst 0, 1) := by decide +kernel
theorem dM_password_11 : decode cM_password 11 = .ok (.goto 4, 3) := by decide +kernel
theorem dM_password_14 : decode cM_password 14 = .ok (.iconst 1, 1) := by decide +kernel
theorem dM_password_15 : decode cM_password 15 = .ok (.putfield 87, 3) := by decide +kernel
theorem dM_password_18 : decode cM_password 18 = .ok (.aload_n 0, 1) := by decide +kernel
theorem dM_password_19 : decode cM_password 19 = .ok (.getfield 87, 3) := by decide +kernel
theorem dM_password_22 : decode cM_password 22 = .ok (.ifCond .le 5, 3) := by decide +kernel
theorem dM_password_25 : decode cM_password 25 = .ok (.iconst 0, 1) := by decide +kernel
theorem dM_password_26 : decode cM_password 26 = .ok (.ireturn, 1) := by decide +kernel
theorem dM_password_27 : decode cM_password 27 = .ok (.aload_n 0, 1) := by decide +kernel
theorem dM_password_28 : decode cM_password 28 = .ok (.getfield 19, 3) := by decide +kernel
theorem dM_password_31 : decode cM_password 31 = .ok (.iload_n 1, 1) := by decide +kernel
theorem dM_password_32 : decode cM_password 32 = .ok (.iconst 1, 1) := by decide +kernel
theorem dM_password_33 : decode cM_password 33 = .ok (.bastore, 1) := by decide +kernel
theorem dM_password_34 : decode cM_password 34 = .ok (.aload_n 0, 1) := by decide +kernel
theorem dM_password_35 : decode cM_password 35 = .ok (.getfield 23, 3) := by decide +kernel
theorem dM_password_38 : decode cM_password 38 = .ok (.iload_n 1, 1) := by decide +kernel
theorem dM_password_39 : decode cM_password 39 = .ok (.iload_n 2, 1) := by decide +kernel
theorem dM_password_40 : decode cM_password 40 = .ok (.iastore, 1) := by decide +kernel
theorem dM_password_41 : decode cM_password 41 = .ok (.aload_n 0, 1) := by decide +kernel
theorem dM_password_42 : decode cM_password 42 = .ok (.getfield 26, 3) := by decide +kernel
theorem dM_password_45 : decode cM_password 45 = .ok (.iload_n 1, 1) := by decide +kernel
theorem dM_password_46 : decode cM_password 46 = .ok (.iconst 0, 1) := by decide +kernel
theorem dM_password_47 : decode cM_password 47 = .ok (.iastore, 1) := by decide +kernel
theorem dM_password_48 : decode cM_password 48 = .ok (.iconst 1, 1) := by decide +kernel
theorem dM_password_49 : decode cM_password 49 = .ok (.ireturn, 1) := by decide +kernel
theorem dM_service_0 : decode cM_service 0 = .ok (.aload_n 0, 1) := by decide +kernel
theorem dM_service_1 : decode cM_service 1 = .ok (.iload_n 1, 1) := by decide +kernel
theorem dM_service_2 : decode cM_service 2 = .ok (.iconst 0, 1) := by decide +kernel
theorem dM_service_3 : decode cM_service 3 = .ok (.iconst 5, 1) := by decide +kernel
theorem dM_service_4 : decode cM_service 4 = .ok (.invokestatic 90, 3) := by decide +kernel
theorem dM_service_7 : decode cM_service 7 = .ok (.ifCond .eq 17, 3) := by decide +kernel
theorem dM_service_10 : decode cM_service 10 = .ok (.iload_n 2, 1) := by decide +kernel
theorem dM_service_11 : decode cM_service 11 = .ok (.iconst 0, 1) := by decide +kernel
theorem dM_service_12 : decode cM_service 12 = .ok (.bipush 63, 2) := by decide +kernel
theorem dM_service_14 : decode cM_service 14 = .ok (.invokestatic 90, 3) := by decide +kernel
theorem dM_service_17 : decode cM_service 17 = .ok (.ifCond .eq 7, 3) := by decide +kernel
theorem dM_service_20 : decode cM_service 20 = .ok (.iconst 0, 1) := by decide +kernel
theorem dM_service_21 : decode cM_service 21 = .ok (.goto 4, 3) := by decide +kernel
theorem dM_service_24 : decode cM_service 24 = .ok (.iconst 1, 1) := by decide +kernel
theorem dM_service_25 : decode cM_service 25 = .ok (.putfield 87, 3) := by decide +kernel
theorem dM_service_28 : decode cM_service 28 = .ok (.aload_n 0, 1) := by decide +kernel
theorem dM_service_29 : decode cM_service 29 = .ok (.getfield 87, 3) := by decide +kernel
theorem dM_service_32 : decode cM_service 32 = .ok (.ifCond .le 5, 3) := by decide +kernel
theorem dM_service_35 : decode cM_service 35 = .ok (.iconst 0, 1) := by decide +kernel
theorem dM_service_36 : decode cM_service 36 = .ok (.ireturn, 1) := by decide +kernel
theorem dM_service_37 : decode cM_service 37 = .ok (.aload_n 0, 1) := by decide +kernel
theorem dM_service_38 : decode cM_service 38 = .ok (.getfield 32, 3) := by decide +kernel
theorem dM_service_41 : decode cM_service 41 = .ok (.iload_n 1, 1) := by decide +kernel
theorem dM_service_42 : decode cM_service 42 = .ok (.iaload, 1) := by decide +kernel
theorem dM_service_43 : decode cM_service 43 = .ok (.istore_n 3, 1) := by decide +kernel
theorem dM_service_44 : decode cM_service 44 = .ok (.aload_n 0, 1) := by decide +kernel
theorem dM_service_45 : decode cM_service 45 = .ok (.getfield 32, 3) := by decide +kernel
theorem dM_service_48 : decode cM_service 48 = .ok (.iload_n 1, 1) := by decide +kernel
theorem dM_service_49 : decode cM_service 49 = .ok (.iload_n 2, 1) := by decide +kernel
theorem dM_service_50 : decode cM_service 50 = .ok (.iastore, 1) := by decide +kernel
theorem dM_service_51 : decode cM_service 51 = .ok (.iload_n 3, 1) := by decide +kernel
theorem dM_service_52 : decode cM_service 52 = .ok (.ireturn, 1) := by decide +kernel
theorem dM_callback_0 : decode cM_callback 0 = .ok (.aload_n 0, 1) := by decide +kernel
theorem dM_callback_1 : decode cM_callback 1 = .ok (.iload_n 1, 1) := by decide +kernel
theorem dM_callback_2 : decode cM_callback 2 = .ok (.iconst 1, 1) := by decide +kernel
theorem dM_callback_3 : decode cM_callback 3 = .ok (.iconst 5, 1) := by decide +kernel
theorem dM_callback_4 : decode cM_callback 4 = .ok (.invokestatic 90, 3) := by decide +kernel
theorem dM_callback_7 : decode cM_callback 7 = .ok (.ifCond .eq 7, 3) := by decide +kernel
theorem dM_callback_10 : decode cM_callback 10 = .ok (.iconst 0, 1) := by decide +kernel
theorem dM_callback_11 : decode cM_callback 11 = .ok (.goto 4, 3) := by decide +kernel
theorem dM_callback_14 : decode cM_callback 14 = .ok (.iconst 1, 1) := by decide +kernel
theorem dM_callback_15 : decode cM_callback 15 = .ok (.putfield 87, 3) := by decide +kernel
theorem dM_callback_18 : decode cM_callback 18 = .ok (.aload_n 0, 1) := by decide +kernel
theorem dM_callback_19 : decode cM_callback 19 = .ok (.getfield 87, 3) := by decide +kernel
theorem dM_callback_22 : decode cM_callback 22 = .ok (.ifCond .le 5, 3) := by decide +kernel
theorem dM_callback_25 : decode cM_callback 25 = .ok (.iconst 0, 1) := by decide +kernel
theorem dM_callback_26 : decode cM_callback 26 = .ok (.ireturn, 1) := by decide +kernel
theorem dM_callback_27 : decode cM_callback 27 = .ok (.aload_n 0, 1) := by decide +kernel
theorem dM_callback_28 : decode cM_callback 28 = .ok (.getfield 35, 3) := by decide +kernel
theorem dM_callback_31 : decode cM_callback 31 = .ok (.iload_n 1, 1) := by decide +kernel
theorem dM_callback_32 : decode cM_callback 32 = .ok (.baload, 1) := by decide +kernel
theorem dM_callback_33 : decode cM_callback 33 = .ok (.ifCond .ne 7, 3) := by decide +kernel
theorem dM_callback_36 : decode cM_callback 36 = .ok (.iconst 1, 1) := by decide +kernel
theorem dM_callback_37 : decode cM_callback 37 = .ok (.goto 4, 3) := by decide +kernel
theorem dM_callback_40 : decode cM_callback 40 = .ok (.iconst 0, 1) := by decide +kernel
theorem dM_callback_41 : decode cM_callback 41 = .ok (.istore_n 3, 1) := by decide +kernel
theorem dM_callback_42 : decode cM_callback 42 = .ok (.aload_n 0, 1) := by decide +kernel
theorem dM_callback_43 : decode cM_callback 43 = .ok (.getfield 35, 3) := by decide +kernel
theorem dM_callback_46 : decode cM_callback 46 = .ok (.iload_n 1, 1) := by decide +kernel
theorem dM_callback_47 : decode cM_callback 47 = .ok (.iload_n 2, 1) := by decide +kernel
theorem dM_callback_48 : decode cM_callback 48 = .ok (.ifCond .ne 7, 3) := by decide +kernel
theorem dM_callback_51 : decode cM_callback 51 = .ok (.iconst 1, 1) := by decide +kernel
theorem dM_callback_52 : decode cM_callback 52 = .ok (.goto 4, 3) := by decide +kernel
theorem dM_callback_55 : decode cM_callback 55 = .ok (.iconst 0, 1) := by decide +kernel
theorem dM_callback_56 : decode cM_callback 56 = .ok (.bastore, 1) := by decide +kernel
theorem dM_callback_57 : decode cM_callback 57 = .ok (.iload_n 3, 1) := by decide +kernel
theorem dM_callback_58 : decode cM_callback 58 = .ok (.ireturn, 1) := by decide +kernel
theorem dM_login_0 : decode cM_login 0 = .ok (.aload_n 0, 1) := by decide +kernel
theorem dM_login_1 : decode cM_login 1 = .ok (.iload_n 1, 1) := by decide +kernel
theorem dM_login_2 : decode cM_login 2 = .ok (.iconst 0, 1) := by decide +kernel
theorem dM_login_3 : decode cM_login 3 = .ok (.iconst 3, 1) := by decide +kernel
theorem dM_login_4 : decode cM_login 4 = .ok (.invokestatic 90, 3) := by decide +kernel
theorem dM_login_7 : decode cM_login 7 = .ok (.ifCond .ne 7, 3) := by decide +kernel
theorem dM_login_10 : decode cM_login 10 = .ok (.iconst 1, 1) := by decide +kernel
theorem dM_login_11 : decode cM_login 11 = .ok (.goto 17, 3) := by decide +kernel
theorem dM_login_14 : decode cM_login 14 = .ok (.aload_n 0, 1) := by decide +kernel
theorem dM_login_15 : decode cM_login 15 = .ok (.getfield 104, 3) := by decide +kernel
theorem dM_login_18 : decode cM_login 18 = .ok (.bipush 40, 2) := by decide +kernel
theorem dM_login_20 : decode cM_login 20 = .ok (.if_icmp .ne 7, 3) := by decide +kernel
end
section
theorem dM_login_23 : decode cM_login 23 = .ok (.iconst 2, 1) := by decide +kernel
theorem dM_login_24 : decode cM_login 24 = .ok (.goto 4, 3) := by decide +kernel
theorem dM_login_27 : decode cM_login 27 = .ok (.iconst 0, 1) := by decide +kernel
theorem dM_login_28 : decode cM_login 28 = .ok (.putfield 87, 3) := by decide +kernel
theorem dM_login_31 : decode cM_login 31 = .ok (.aload_n 0, 1) := by decide +kernel
theorem dM_login_32 : decode cM_login 32 = .ok (.getfield 87, 3) := by decide +kernel
theorem dM_login_35 : decode cM_login 35 = .ok (.ifCond .le 7, 3) := by decide +kernel
theorem dM_login_38 : decode cM_login 38 = .ok (.iconst 0, 1) := by decide +kernel
theorem dM_login_39 : decode cM_login 39 = .ok (.goto 10, 3) := by decide +kernel
theorem dM_login_42 : decode cM_login 42 = .ok (.aload_n 0, 1) := by decide +kernel
theorem dM_login_43 : decode cM_login 43 = .ok (.iload_n 1, 1) := by decide +kernel
theorem dM_login_44 : decode cM_login 44 = .ok (.iload_n 2, 1) := by decide +kernel
theorem dM_login_45 : decode cM_login 45 = .ok (.iload_n 3, 1) := by decide +kernel
theorem dM_login_46 : decode cM_login 46 = .ok (.invokevirtual 107, 3) := by decide +kernel
theorem dM_login_49 : decode cM_login 49 = .ok (.ireturn, 1) := by decide +kernel
theorem dM_tries_0 : decode cM_tries 0 = .ok (.aload_n 0, 1) := by decide +kernel
theorem dM_tries_1 : decode cM_tries 1 = .ok (.getfield 19, 3) := by decide +kernel
theorem dM_tries_4 : decode cM_tries 4 = .ok (.iload_n 1, 1) := by decide +kernel
theorem dM_tries_5 : decode cM_tries 5 = .ok (.baload, 1) := by decide +kernel
theorem dM_tries_6 : decode cM_tries 6 = .ok (.ifCond .ne 6, 3) := by decide +kernel
theorem dM_tries_9 : decode cM_tries 9 = .ok (.bipush (-2), 2) := by decide +kernel
theorem dM_tries_11 : decode cM_tries 11 = .ok (.ireturn, 1) := by decide +kernel
theorem dM_tries_12 : decode cM_tries 12 = .ok (.aload_n 0, 1) := by decide +kernel
theorem dM_tries_13 : decode cM_tries 13 = .ok (.iload_n 1, 1) := by decide +kernel
theorem dM_tries_14 : decode cM_tries 14 = .ok (.invokevirtual 100, 3) := by decide +kernel
theorem dM_tries_17 : decode cM_tries 17 = .ok (.istore 4, 2) := by decide +kernel
theorem dM_tries_19 : decode cM_tries 19 = .ok (.iload 4, 2) := by decide +kernel
theorem dM_tries_21 : decode cM_tries 21 = .ok (.iconst 3, 1) := by decide +kernel
theorem dM_tries_22 : decode cM_tries 22 = .ok (.if_icmp .ne 6, 3) := by decide +kernel
theorem dM_tries_25 : decode cM_tries 25 = .ok (.bipush (-3), 2) := by decide +kernel
theorem dM_tries_27 : decode cM_tries 27 = .ok (.ireturn, 1) := by decide +kernel
theorem dM_tries_28 : decode cM_tries 28 = .ok (.aload_n 0, 1) := by decide +kernel
theorem dM_tries_29 : decode cM_tries 29 = .ok (.getfield 23, 3) := by decide +kernel
theorem dM_tries_32 : decode cM_tries 32 = .ok (.iload_n 1, 1) := by decide +kernel
theorem dM_tries_33 : decode cM_tries 33 = .ok (.iaload, 1) := by decide +kernel
theorem dM_tries_34 : decode cM_tries 34 = .ok (.iload_n 2, 1) := by decide +kernel
theorem dM_tries_35 : decode cM_tries 35 = .ok (.if_icmp .eq 26, 3) := by decide +kernel
theorem dM_tries_38 : decode cM_tries 38 = .ok (.aload_n 0, 1) := by decide +kernel
theorem dM_tries_39 : decode cM_tries 39 = .ok (.getfield 26, 3) := by decide +kernel
theorem dM_tries_42 : decode cM_tries 42 = .ok (.iload_n 1, 1) := by decide +kernel
theorem dM_tries_43 : decode cM_tries 43 = .ok (.iload 4, 2) := by decide +kernel
theorem dM_tries_45 : decode cM_tries 45 = .ok (.iconst 1, 1) := by decide +kernel
theorem dM_tries_46 : decode cM_tries 46 = .ok (.iadd, 1) := by decide +kernel
theorem dM_tries_47 : decode cM_tries 47 = .ok (.iastore, 1) := by decide +kernel
theorem dM_tries_48 : decode cM_tries 48 = .ok (.aload_n 0, 1) := by decide +kernel
theorem dM_tries_49 : decode cM_tries 49 = .ok (.getfield 29, 3) := by decide +kernel
theorem dM_tries_52 : decode cM_tries 52 = .ok (.iload_n 1, 1) := by decide +kernel
theorem dM_tries_53 : decode cM_tries 53 = .ok (.aload_n 0, 1) := by decide +kernel
theorem dM_tries_54 : decode cM_tries 54 = .ok (.getfield 97, 3) := by decide +kernel
theorem dM_tries_57 : decode cM_tries 57 = .ok (.iastore, 1) := by decide +kernel
theorem dM_tries_58 : decode cM_tries 58 = .ok (.bipush (-2), 2) := by decide +kernel
theorem dM_tries_60 : decode cM_tries 60 = .ok (.ireturn, 1) := by decide +kernel
theorem dM_tries_61 : decode cM_tries 61 = .ok (.aload_n 0, 1) := by decide +kernel
theorem dM_tries_62 : decode cM_tries 62 = .ok (.getfield 26, 3) := by decide +kernel
theorem dM_tries_65 : decode cM_tries 65 = .ok (.iload_n 1, 1) := by decide +kernel
theorem dM_tries_66 : decode cM_tries 66 = .ok (.iconst 0, 1) := by decide +kernel
theorem dM_tries_67 : decode cM_tries 67 = .ok (.iastore, 1) := by decide +kernel
theorem dM_tries_68 : decode cM_tries 68 = .ok (.aload_n 0, 1) := by decide +kernel
theorem dM_tries_69 : decode cM_tries 69 = .ok (.getfield 38, 3) := by decide +kernel
theorem dM_tries_72 : decode cM_tries 72 = .ok (.aload_n 0, 1) := by decide +kernel
theorem dM_tries_73 : decode cM_tries 73 = .ok (.getfield 104, 3) := by decide +kernel
theorem dM_tries_76 : decode cM_tries 76 = .ok (.iload_n 1, 1) := by decide +kernel
theorem dM_tries_77 : decode cM_tries 77 = .ok (.iastore, 1) := by decide +kernel
theorem dM_tries_78 : decode cM_tries 78 = .ok (.aload_n 0, 1) := by decide +kernel
theorem dM_tries_79 : decode cM_tries 79 = .ok (.getfield 41, 3) := by decide +kernel
theorem dM_tries_82 : decode cM_tries 82 = .ok (.aload_n 0, 1) := by decide +kernel
theorem dM_tries_83 : decode cM_tries 83 = .ok (.getfield 104, 3) := by decide +kernel
theorem dM_tries_86 : decode cM_tries 86 = .ok (.aload_n 0, 1) := by decide +kernel
theorem dM_tries_87 : decode cM_tries 87 = .ok (.getfield 97, 3) := by decide +kernel
theorem dM_tries_90 : decode cM_tries 90 = .ok (.iastore, 1) := by decide +kernel
theorem dM_tries_91 : decode cM_tries 91 = .ok (.aload_n 0, 1) := by decide +kernel
theorem dM_tries_92 : decode cM_tries 92 = .ok (.getfield 44, 3) := by decide +kernel
theorem dM_tries_95 : decode cM_tries 95 = .ok (.aload_n 0, 1) := by decide +kernel
theorem dM_tries_96 : decode cM_tries 96 = .ok (.getfield 104, 3) := by decide +kernel
theorem dM_tries_99 : decode cM_tries 99 = .ok (.aload_n 0, 1) := by decide +kernel
theorem dM_tries_100 : decode cM_tries 100 = .ok (.getfield 97, 3) := by decide +kernel
theorem dM_tries_103 : decode cM_tries 103 = .ok (.iastore, 1) := by decide +kernel
theorem dM_tries_104 : decode cM_tries 104 = .ok (.aload_n 0, 1) := by decide +kernel
theorem dM_tries_105 : decode cM_tries 105 = .ok (.getfield 47, 3) := by decide +kernel
theorem dM_tries_108 : decode cM_tries 108 = .ok (.aload_n 0, 1) := by decide +kernel
theorem dM_tries_109 : decode cM_tries 109 = .ok (.getfield 104, 3) := by decide +kernel
theorem dM_tries_112 : decode cM_tries 112 = .ok (.iload_n 3, 1) := by decide +kernel
theorem dM_tries_113 : decode cM_tries 113 = .ok (.bastore, 1) := by decide +kernel
theorem dM_tries_114 : decode cM_tries 114 = .ok (.aload_n 0, 1) := by decide +kernel
theorem dM_tries_115 : decode cM_tries 115 = .ok (.getfield 50, 3) := by decide +kernel
theorem dM_tries_118 : decode cM_tries 118 = .ok (.aload_n 0, 1) := by decide +kernel
theorem dM_tries_119 : decode cM_tries 119 = .ok (.getfield 104, 3) := by decide +kernel
theorem dM_tries_122 : decode cM_tries 122 = .ok (.iconst 0, 1) := by decide +kernel
theorem dM_tries_123 : decode cM_tries 123 = .ok (.bastore, 1) := by decide +kernel
theorem dM_tries_124 : decode cM_tries 124 = .ok (.aload_n 0, 1) := by decide +kernel
theorem dM_tries_125 : decode cM_tries 125 = .ok (.dup, 1) := by decide +kernel
theorem dM_tries_126 : decode cM_tries 126 = .ok (.getfield 104, 3) := by decide +kernel
theorem dM_tries_129 : decode cM_tries 129 = .ok (.iconst 1, 1) := by decide +kernel
theorem dM_tries_130 : decode cM_tries 130 = .ok (.iadd, 1) := by decide +kernel
theorem dM_tries_131 : decode cM_tries 131 = .ok (.putfield 104, 3) := by decide +kernel
theorem dM_tries_134 : decode cM_tries 134 = .ok (.aload_n 0, 1) := by decide +kernel
theorem dM_tries_135 : decode cM_tries 135 = .ok (.getfield 104, 3) := by decide +kernel
theorem dM_tries_138 : decode cM_tries 138 = .ok (.iconst 1, 1) := by decide +kernel
theorem dM_tries_139 : decode cM_tries 139 = .ok (.isub, 1) := by decide +kernel
theorem dM_tries_140 : decode cM_tries 140 = .ok (.ireturn, 1) := by decide +kernel
theorem dM_counting_0 : decode cM_counting 0 = .ok (.aload_n 0, 1) := by decide +kernel
theorem dM_counting_1 : decode cM_counting 1 = .ok (.getfield 26, 3) := by decide +kernel
theorem dM_counting_4 : decode cM_counting 4 = .ok (.iload_n 1, 1) := by decide +kernel
theorem dM_counting_5 : decode cM_counting 5 = .ok (.iaload, 1) := by decide +kernel
theorem dM_counting_6 : decode cM_counting 6 = .ok (.iconst 3, 1) := by decide +kernel
theorem dM_counting_7 : decode cM_counting 7 = .ok (.if_icmp .ne 23, 3) := by decide +kernel
theorem dM_counting_10 : decode cM_counting 10 = .ok (.aload_n 0, 1) := by decide +kernel
theorem dM_counting_11 : decode cM_counting 11 = .ok (.getfield 97, 3) := by decide +kernel
theorem dM_counting_14 : decode cM_counting 14 = .ok (.aload_n 0, 1) := by decide +kernel
theorem dM_counting_15 : decode cM_counting 15 = .ok (.getfield 29, 3) := by decide +kernel
theorem dM_counting_18 : decode cM_counting 18 = .ok (.iload_n 1, 1) := by decide +kernel
theorem dM_counting_19 : decode cM_counting 19 = .ok (.iaload, 1) := by decide +kernel
theorem dM_counting_20 : decode cM_counting 20 = .ok (.isub, 1) := by decide +kernel
theorem dM_counting_21 : decode cM_counting 21 = .ok (.bipush 20, 2) := by decide +kernel
theorem dM_counting_23 : decode cM_counting 23 = .ok (.if_icmp .le 7, 3) := by decide +kernel
theorem dM_counting_26 : decode cM_counting 26 = .ok (.iconst 0, 1) := by decide +kernel
theorem dM_counting_27 : decode cM_counting 27 = .ok (.goto 9, 3) := by decide +kernel
theorem dM_counting_30 : decode cM_counting 30 = .ok (.aload_n 0, 1) := by decide +kernel
theorem dM_counting_31 : decode cM_counting 31 = .ok (.getfield 26, 3) := by decide +kernel
theorem dM_counting_34 : decode cM_counting 34 = .ok (.iload_n 1, 1) := by decide +kernel
theorem dM_counting_35 : decode cM_counting 35 = .ok (.iaload, 1) := by decide +kernel
theorem dM_counting_36 : decode cM_counting 36 = .ok (.ireturn, 1) := by decide +kernel
theorem dM_enter_0 : decode cM_enter 0 = .ok (.aload_n 0, 1) := by decide +kernel
theorem dM_enter_1 : decode cM_enter 1 = .ok (.iload_n 1, 1) := by decide +kernel
theorem dM_enter_2 : decode cM_enter 2 = .ok (.iconst 0, 1) := by decide +kernel
theorem dM_enter_3 : decode cM_enter 3 = .ok (.iconst 3, 1) := by decide +kernel
theorem dM_enter_4 : decode cM_enter 4 = .ok (.invokestatic 90, 3) := by decide +kernel
theorem dM_enter_7 : decode cM_enter 7 = .ok (.ifCond .eq 11, 3) := by decide +kernel
theorem dM_enter_10 : decode cM_enter 10 = .ok (.aload_n 0, 1) := by decide +kernel
theorem dM_enter_11 : decode cM_enter 11 = .ok (.iload_n 3, 1) := by decide +kernel
theorem dM_enter_12 : decode cM_enter 12 = .ok (.invokevirtual 114, 3) := by decide +kernel
theorem dM_enter_15 : decode cM_enter 15 = .ok (.ifCond .ne 7, 3) := by decide +kernel
theorem dM_enter_18 : decode cM_enter 18 = .ok (.iconst 1, 1) := by decide +kernel
theorem dM_enter_19 : decode cM_enter 19 = .ok (.goto 27, 3) := by decide +kernel
theorem dM_enter_22 : decode cM_enter 22 = .ok (.aload_n 0, 1) := by decide +kernel
theorem dM_enter_23 : decode cM_enter 23 = .ok (.getfield 104, 3) := by decide +kernel
theorem dM_enter_26 : decode cM_enter 26 = .ok (.bipush 40, 2) := by decide +kernel
theorem dM_enter_28 : decode cM_enter 28 = .ok (.if_icmp .eq 13, 3) := by decide +kernel
theorem dM_enter_31 : decode cM_enter 31 = .ok (.aload_n 0, 1) := by decide +kernel
theorem dM_enter_32 : decode cM_enter 32 = .ok (.getfield 111, 3) := by decide +kernel
theorem dM_enter_35 : decode cM_enter 35 = .ok (.sipush 150, 3) := by decide +kernel
theorem dM_enter_38 : decode cM_enter 38 = .ok (.if_icmp .ne 7, 3) := by decide +kernel
theorem dM_enter_41 : decode cM_enter 41 = .ok (.iconst 2, 1) := by decide +kernel
theorem dM_enter_42 : decode cM_enter 42 = .ok (.goto 4, 3) := by decide +kernel
theorem dM_enter_45 : decode cM_enter 45 = .ok (.iconst 0, 1) := by decide +kernel
theorem dM_enter_46 : decode cM_enter 46 = .ok (.putfield 87, 3) := by decide +kernel
theorem dM_enter_49 : decode cM_enter 49 = .ok (.aload_n 0, 1) := by decide +kernel
theorem dM_enter_50 : decode cM_enter 50 = .ok (.getfield 87, 3) := by decide +kernel
theorem dM_enter_53 : decode cM_enter 53 = .ok (.ifCond .le 5, 3) := by decide +kernel
theorem dM_enter_56 : decode cM_enter 56 = .ok (.iconst 0, 1) := by decide +kernel
theorem dM_enter_57 : decode cM_enter 57 = .ok (.ireturn, 1) := by decide +kernel
theorem dM_enter_58 : decode cM_enter 58 = .ok (.aload_n 0, 1) := by decide +kernel
theorem dM_enter_59 : decode cM_enter 59 = .ok (.iload_n 1, 1) := by decide +kernel
theorem dM_enter_60 : decode cM_enter 60 = .ok (.iload_n 2, 1) := by decide +kernel
theorem dM_enter_61 : decode cM_enter 61 = .ok (.iconst 0, 1) := by decide +kernel
theorem dM_enter_62 : decode cM_enter 62 = .ok (.invokevirtual 107, 3) := by decide +kernel
theorem dM_enter_65 : decode cM_enter 65 = .ok (.istore 4, 2) := by decide +kernel
theorem dM_enter_67 : decode cM_enter 67 = .ok (.iload 4, 2) := by decide +kernel
theorem dM_enter_69 : decode cM_enter 69 = .ok (.ifCond .ge 8, 3) := by decide +kernel
theorem dM_enter_72 : decode cM_enter 72 = .ok (.iload 4, 2) := by decide +kernel
theorem dM_enter_74 : decode cM_enter 74 = .ok (.goto 13, 3) := by decide +kernel
theorem dM_enter_77 : decode cM_enter 77 = .ok (.aload_n 0, 1) := by decide +kernel
theorem dM_enter_78 : decode cM_enter 78 = .ok (.iconst 0, 1) := by decide +kernel
theorem dM_enter_79 : decode cM_enter 79 = .ok (.iload 4, 2) := by decide +kernel
theorem dM_enter_81 : decode cM_enter 81 = .ok (.iload_n 3, 1) := by decide +kernel
theorem dM_enter_82 : decode cM_enter 82 = .ok (.iconst 1, 1) := by decide +kernel
theorem dM_enter_83 : decode cM_enter 83 = .ok (.iconst (-1), 1) := by decide +kernel
theorem dM_enter_84 : decode cM_enter 84 = .ok (.invokevirtual 118, 3) := by decide +kernel
theorem dM_enter_87 : decode cM_enter 87 = .ok (.ireturn, 1) := by decide +kernel
theorem dM_enabled_0 : decode cM_enabled 0 = .ok (.iload_n 1, 1) := by decide +kernel
theorem dM_enabled_1 : decode cM_enabled 1 = .ok (.iconst 0, 1) := by decide +kernel
theorem dM_enabled_2 : decode cM_enabled 2 = .ok (.iconst 5, 1) := by decide +kernel
theorem dM_enabled_3 : decode cM_enabled 3 = .ok (.invokestatic 90, 3) := by decide +kernel
theorem dM_enabled_6 : decode cM_enabled 6 = .ok (.ifCond .eq 19, 3) := by decide +kernel
theorem dM_enabled_9 : decode cM_enabled 9 = .ok (.aload_n 0, 1) := by decide +kernel
theorem dM_enabled_10 : decode cM_enabled 10 = .ok (.getfield 32, 3) := by decide +kernel
theorem dM_enabled_13 : decode cM_enabled 13 = .ok (.iload_n 1, 1) := by decide +kernel
theorem dM_enabled_14 : decode cM_enabled 14 = .ok (.iaload, 1) := by decide +kernel
theorem dM_enabled_15 : decode cM_enabled 15 = .ok (.iconst 2, 1) := by decide +kernel
theorem dM_enabled_16 : decode cM_enabled 16 = .ok (.irem, 1) := by decide +kernel
theorem dM_enabled_17 : decode cM_enabled 17 = .ok (.iconst 1, 1) := by decide +kernel
theorem dM_enabled_18 : decode cM_enabled 18 = .ok (.if_icmp .ne 7, 3) := by decide +kernel
theorem dM_enabled_21 : decode cM_enabled 21 = .ok (.iconst 1, 1) := by decide +kernel
theorem dM_enabled_22 : decode cM_enabled 22 = .ok (.goto 4, 3) := by decide +kernel
theorem dM_enabled_25 : decode cM_enabled 25 = .ok (.iconst 0, 1) := by decide +kernel
theorem dM_enabled_26 : decode cM_enabled 26 = .ok (.ireturn, 1) := by decide +kernel
theorem dM_give_0 : decode cM_give 0 = .ok (.aload_n 0, 1) := by decide +kernel
theorem dM_give_1 : decode cM_give 1 = .ok (.getfield 53, 3) := by decide +kernel
theorem dM_give_4 : decode cM_give 4 = .ok (.aload_n 0, 1) := by decide +kernel
theorem dM_give_5 : decode cM_give 5 = .ok (.getfield 111, 3) := by decide +kernel
theorem dM_give_8 : decode cM_give 8 = .ok (.iload_n 1, 1) := by decide +kernel
theorem dM_give_9 : decode cM_give 9 = .ok (.iastore, 1) := by decide +kernel
theorem dM_give_10 : decode cM_give 10 = .ok (.aload_n 0, 1) := by decide +kernel
theorem dM_give_11 : decode cM_give 11 = .ok (.getfield 56, 3) := by decide +kernel
theorem dM_give_14 : decode cM_give 14 = .ok (.aload_n 0, 1) := by decide +kernel
theorem dM_give_15 : decode cM_give 15 = .ok (.getfield 111, 3) := by decide +kernel
theorem dM_give_18 : decode cM_give 18 = .ok (.iload_n 2, 1) := by decide +kernel
theorem dM_give_19 : decode cM_give 19 = .ok (.iastore, 1) := by decide +kernel
theorem dM_give_20 : decode cM_give 20 = .ok (.aload_n 0, 1) := by decide +kernel
theorem dM_give_21 : decode cM_give 21 = .ok (.getfield 59, 3) := by decide +kernel
theorem dM_give_24 : decode cM_give 24 = .ok (.aload_n 0, 1) := by decide +kernel
theorem dM_give_25 : decode cM_give 25 = .ok (.getfield 111, 3) := by decide +kernel
theorem dM_give_28 : decode cM_give 28 = .ok (.iload_n 3, 1) := by decide +kernel
theorem dM_give_29 : decode cM_give 29 = .ok (.iastore, 1) := by decide +kernel
theorem dM_give_30 : decode cM_give 30 = .ok (.aload_n 0, 1) := by decide +kernel
theorem dM_give_31 : decode cM_give 31 = .ok (.getfield 62, 3) := by decide +kernel
theorem dM_give_34 : decode cM_give 34 = .ok (.aload_n 0, 1) := by decide +kernel
theorem dM_give_35 : decode cM_give 35 = .ok (.getfield 111, 3) := by decide +kernel
theorem dM_give_38 : decode cM_give 38 = .ok (.aload_n 0, 1) := by decide +kernel
theorem dM_give_39 : decode cM_give 39 = .ok (.getfield 97, 3) := by decide +kernel
theorem dM_give_42 : decode cM_give 42 = .ok (.iastore, 1) := by decide +kernel
theorem dM_give_43 : decode cM_give 43 = .ok (.aload_n 0, 1) := by decide +kernel
theorem dM_give_44 : decode cM_give 44 = .ok (.getfield 65, 3) := by decide +kernel
theorem dM_give_47 : decode cM_give 47 = .ok (.aload_n 0, 1) := by decide +kernel
theorem dM_give_48 : decode cM_give 48 = .ok (.getfield 111, 3) := by decide +kernel
theorem dM_give_51 : decode cM_give 51 = .ok (.iload 4, 2) := by decide +kernel
theorem dM_give_53 : decode cM_give 53 = .ok (.bastore, 1) := by decide +kernel
theorem dM_give_54 : decode cM_give 54 = .ok (.aload_n 0, 1) := by decide +kernel
theorem dM_give_55 : decode cM_give 55 = .ok (.getfield 68, 3) := by decide +kernel
theorem dM_give_58 : decode cM_give 58 = .ok (.aload_n 0, 1) := by decide +kernel
theorem dM_give_59 : decode cM_give 59 = .ok (.getfield 111, 3) := by decide +kernel
theorem dM_give_62 : decode cM_give 62 = .ok (.iload 5, 2) := by decide +kernel
theorem dM_give_64 : decode cM_give 64 = .ok (.iastore, 1) := by decide +kernel
theorem dM_give_65 : decode cM_give 65 = .ok (.aload_n 0, 1) := by decide +kernel
theorem dM_give_66 : decode cM_give 66 = .ok (.getfield 71, 3) := by decide +kernel
theorem dM_give_69 : decode cM_give 69 = .ok (.aload_n 0, 1) := by decide +kernel
theorem dM_give_70 : decode cM_give 70 = .ok (.getfield 111, 3) := by decide +kernel
theorem dM_give_73 : decode cM_give 73 = .ok (.iconst 0, 1) := by decide +kernel
theorem dM_give_74 : decode cM_give 74 = .ok (.bastore, 1) := by decide +kernel
theorem dM_give_75 : decode cM_give 75 = .ok (.aload_n 0, 1) := by decide +kernel
theorem dM_give_76 : decode cM_give 76 = .ok (.dup, 1) := by decide +kernel
theorem dM_give_77 : decode cM_give 77 = .ok (.getfield 111, 3) := by decide +kernel
theorem dM_give_80 : decode cM_give 80 = .ok (.iconst 1, 1) := by decide +kernel
theorem dM_give_81 : decode cM_give 81 = .ok (.iadd, 1) := by decide +kernel
theorem dM_give_82 : decode cM_give 82 = .ok (.putfield 111, 3) := by decide +kernel
theorem dM_give_85 : decode cM_give 85 = .ok (.aload_n 0, 1) := by decide +kernel
theorem dM_give_86 : decode cM_give 86 = .ok (.getfield 111, 3) := by decide +kernel
theorem dM_give_89 : decode cM_give 89 = .ok (.iconst 1, 1) := by decide +kernel
theorem dM_give_90 : decode cM_give 90 = .ok (.isub, 1) := by decide +kernel
theorem dM_give_91 : decode cM_give 91 = .ok (.ireturn, 1) := by decide +kernel
theorem dM_ticket_0 : decode cM_ticket 0 = .ok (.aload_n 0, 1) := by decide +kernel
theorem dM_ticket_1 : decode cM_ticket 1 = .ok (.iload_n 1, 1) := by decide +kernel
theorem dM_ticket_2 : decode cM_ticket 2 = .ok (.iconst 0, 1) := by decide +kernel
theorem dM_ticket_3 : decode cM_ticket 3 = .ok (.aload_n 0, 1) := by decide +kernel
theorem dM_ticket_4 : decode cM_ticket 4 = .ok (.getfield 104, 3) := by decide +kernel
theorem dM_ticket_7 : decode cM_ticket 7 = .ok (.iconst 1, 1) := by decide +kernel
theorem dM_ticket_8 : decode cM_ticket 8 = .ok (.isub, 1) := by decide +kernel
theorem dM_ticket_9 : decode cM_ticket 9 = .ok (.invokestatic 90, 3) := by decide +kernel
theorem dM_ticket_12 : decode cM_ticket 12 = .ok (.ifCond .eq 11, 3) := by decide +kernel
theorem dM_ticket_15 : decode cM_ticket 15 = .ok (.aload_n 0, 1) := by decide +kernel
theorem dM_ticket_16 : decode cM_ticket 16 = .ok (.iload_n 2, 1) := by decide +kernel
theorem dM_ticket_17 : decode cM_ticket 17 = .ok (.invokevirtual 114, 3) := by decide +kernel
theorem dM_ticket_20 : decode cM_ticket 20 = .ok (.ifCond .ne 7, 3) := by decide +kernel
theorem dM_ticket_23 : decode cM_ticket 23 = .ok (.iconst 1, 1) := by decide +kernel
theorem dM_ticket_24 : decode cM_ticket 24 = .ok (.goto 27, 3) := by decide +kernel
theorem dM_ticket_27 : decode cM_ticket 27 = .ok (.aload_n 0, 1) := by decide +kernel
theorem dM_ticket_28 : decode cM_ticket 28 = .ok (.getfield 50, 3) := by decide +kernel
theorem dM_ticket_31 : decode cM_ticket 31 = .ok (.iload_n 1, 1) := by decide +kernel
theorem dM_ticket_32 : decode cM_ticket 32 = .ok (.baload, 1) := by decide +kernel
theorem dM_ticket_33 : decode cM_ticket 33 = .ok (.ifCond .ne 13, 3) := by decide +kernel
theorem dM_ticket_36 : decode cM_ticket 36 = .ok (.aload_n 0, 1) := by decide +kernel
theorem dM_ticket_37 : decode cM_ticket 37 = .ok (.getfield 111, 3) := by decide +kernel
theorem dM_ticket_40 : decode cM_ticket 40 = .ok (.sipush 150, 3) := by decide +kernel
theorem dM_ticket_43 : decode cM_ticket 43 = .ok (.if_icmp .ne 7, 3) := by decide +kernel
theorem dM_ticket_46 : decode cM_ticket 46 = .ok (.iconst 2, 1) := by decide +kernel
theorem dM_ticket_47 : decode cM_ticket 47 = .ok (.goto 4, 3) := by decide +kernel
theorem dM_ticket_50 : decode cM_ticket 50 = .ok (.iconst 0, 1) := by decide +kernel
theorem dM_ticket_51 : decode cM_ticket 51 = .ok (.putfield 87, 3) := by decide +kernel
theorem dM_ticket_54 : decode cM_ticket 54 = .ok (.aload_n 0, 1) := by decide +kernel
theorem dM_ticket_55 : decode cM_ticket 55 = .ok (.getfield 87, 3) := by decide +kernel
theorem dM_ticket_58 : decode cM_ticket 58 = .ok (.ifCond .le 5, 3) := by decide +kernel
theorem dM_ticket_61 : decode cM_ticket 61 = .ok (.iconst 0, 1) := by decide +kernel
theorem dM_ticket_62 : decode cM_ticket 62 = .ok (.ireturn, 1) := by decide +kernel
theorem dM_ticket_63 : decode cM_ticket 63 = .ok (.aload_n 0, 1) := by decide +kernel
theorem dM_ticket_64 : decode cM_ticket 64 = .ok (.getfield 44, 3) := by decide +kernel
theorem dM_ticket_67 : decode cM_ticket 67 = .ok (.iload_n 1, 1) := by decide +kernel
theorem dM_ticket_68 : decode cM_ticket 68 = .ok (.aload_n 0, 1) := by decide +kernel
theorem dM_ticket_69 : decode cM_ticket 69 = .ok (.getfield 97, 3) := by decide +kernel
theorem dM_ticket_72 : decode cM_ticket 72 = .ok (.iastore, 1) := by decide +kernel
theorem dM_ticket_73 : decode cM_ticket 73 = .ok (.aload_n 0, 1) := by decide +kernel
theorem dM_ticket_74 : decode cM_ticket 74 = .ok (.iconst 0, 1) := by decide +kernel
theorem dM_ticket_75 : decode cM_ticket 75 = .ok (.iload_n 1, 1) := by decide +kernel
theorem dM_ticket_76 : decode cM_ticket 76 = .ok (.iload_n 2, 1) := by decide +kernel
theorem dM_ticket_77 : decode cM_ticket 77 = .ok (.iconst 0, 1) := by decide +kernel
theorem dM_ticket_78 : decode cM_ticket 78 = .ok (.iconst (-1), 1) := by decide +kernel
theorem dM_ticket_79 : decode cM_ticket 79 = .ok (.invokevirtual 118, 3) := by decide +kernel
theorem dM_ticket_82 : decode cM_ticket 82 = .ok (.ireturn, 1) := by decide +kernel
theorem dM_proxy_0 : decode cM_proxy 0 = .ok (.aload_n 0, 1) := by decide +kernel
theorem dM_proxy_1 : decode cM_proxy 1 = .ok (.iload_n 1, 1) := by decide +kernel
theorem dM_proxy_2 : decode cM_proxy 2 = .ok (.iconst 0, 1) := by decide +kernel
theorem dM_proxy_3 : decode cM_proxy 3 = .ok (.aload_n 0, 1) := by decide +kernel
theorem dM_proxy_4 : decode cM_proxy 4 = .ok (.getfield 111, 3) := by decide +kernel
theorem dM_proxy_7 : decode cM_proxy 7 = .ok (.iconst 1, 1) := by decide +kernel
theorem dM_proxy_8 : decode cM_proxy 8 = .ok (.isub, 1) := by decide +kernel
theorem dM_proxy_9 : decode cM_proxy 9 = .ok (.invokestatic 90, 3) := by decide +kernel
theorem dM_proxy_12 : decode cM_proxy 12 = .ok (.ifCond .eq 21, 3) := by decide +kernel
theorem dM_proxy_15 : decode cM_proxy 15 = .ok (.aload_n 0, 1) := by decide +kernel
theorem dM_proxy_16 : decode cM_proxy 16 = .ok (.getfield 53, 3) := by decide +kernel
theorem dM_proxy_19 : decode cM_proxy 19 = .ok (.iload_n 1, 1) := by decide +kernel
theorem dM_proxy_20 : decode cM_proxy 20 = .ok (.iaload, 1) := by decide +kernel
theorem dM_proxy_21 : decode cM_proxy 21 = .ok (.iconst 2, 1) := by decide +kernel
theorem dM_proxy_22 : decode cM_proxy 22 = .ok (.if_icmp .ne 11, 3) := by decide +kernel
theorem dM_proxy_25 : decode cM_proxy 25 = .ok (.aload_n 0, 1) := by decide +kernel
theorem dM_proxy_26 : decode cM_proxy 26 = .ok (.iload_n 2, 1) := by decide +kernel
theorem dM_proxy_27 : decode cM_proxy 27 = .ok (.invokevirtual 114, 3) := by decide +kernel
theorem dM_proxy_30 : decode cM_proxy 30 = .ok (.ifCond .ne 7, 3) := by decide +kernel
theorem dM_proxy_33 : decode cM_proxy 33 = .ok (.iconst 1, 1) := by decide +kernel
theorem dM_proxy_34 : decode cM_proxy 34 = .ok (.goto 26, 3) := by decide +kernel
theorem dM_proxy_37 : decode cM_proxy 37 = .ok (.aload_n 0, 1) := by decide +kernel
theorem dM_proxy_38 : decode cM_proxy 38 = .ok (.iload_n 1, 1) := by decide +kernel
theorem dM_proxy_39 : decode cM_proxy 39 = .ok (.invokevirtual 122, 3) := by decide +kernel
theorem dM_proxy_42 : decode cM_proxy 42 = .ok (.ifCond .eq 13, 3) := by decide +kernel
theorem dM_proxy_45 : decode cM_proxy 45 = .ok (.aload_n 0, 1) := by decide +kernel
theorem dM_proxy_46 : decode cM_proxy 46 = .ok (.getfield 111, 3) := by decide +kernel
theorem dM_proxy_49 : decode cM_proxy 49 = .ok (.sipush 150, 3) := by decide +kernel
theorem dM_proxy_52 : decode cM_proxy 52 = .ok (.if_icmp .ne 7, 3) := by decide +kernel
theorem dM_proxy_55 : decode cM_proxy 55 = .ok (.iconst 2, 1) := by decide +kernel
theorem dM_proxy_56 : decode cM_proxy 56 = .ok (.goto 4, 3) := by decide +kernel
theorem dM_proxy_59 : decode cM_proxy 59 = .ok (.iconst 0, 1) := by decide +kernel
theorem dM_proxy_60 : decode cM_proxy 60 = .ok (.putfield 87, 3) := by decide +kernel
theorem dM_proxy_63 : decode cM_proxy 63 = .ok (.aload_n 0, 1) := by decide +kernel
theorem dM_proxy_64 : decode cM_proxy 64 = .ok (.getfield 87, 3) := by decide +kernel
theorem dM_proxy_67 : decode cM_proxy 67 = .ok (.ifCond .le 5, 3) := by decide +kernel
theorem dM_proxy_70 : decode cM_proxy 70 = .ok (.iconst 0, 1) := by decide +kernel
theorem dM_proxy_71 : decode cM_proxy 71 = .ok (.ireturn, 1) := by decide +kernel
theorem dM_proxy_72 : decode cM_proxy 72 = .ok (.aload_n 0, 1) := by decide +kernel
theorem dM_proxy_73 : decode cM_proxy 73 = .ok (.getfield 44, 3) := by decide +kernel
theorem dM_proxy_76 : decode cM_proxy 76 = .ok (.aload_n 0, 1) := by decide +kernel
theorem dM_proxy_77 : decode cM_proxy 77 = .ok (.getfield 56, 3) := by decide +kernel
theorem dM_proxy_80 : decode cM_proxy 80 = .ok (.iload_n 1, 1) := by decide +kernel
theorem dM_proxy_81 : decode cM_proxy 81 = .ok (.iaload, 1) := by decide +kernel
theorem dM_proxy_82 : decode cM_proxy 82 = .ok (.aload_n 0, 1) := by decide +kernel
theorem dM_proxy_83 : decode cM_proxy 83 = .ok (.getfield 97, 3) := by decide +kernel
theorem dM_proxy_86 : decode cM_proxy 86 = .ok (.iastore, 1) := by decide +kernel
theorem dM_proxy_87 : decode cM_proxy 87 = .ok (.aload_n 0, 1) := by decide +kernel
theorem dM_proxy_88 : decode cM_proxy 88 = .ok (.iconst 1, 1) := by decide +kernel
theorem dM_proxy_89 : decode cM_proxy 89 = .ok (.aload_n 0, 1) := by decide +kernel
theorem dM_proxy_90 : decode cM_proxy 90 = .ok (.getfield 56, 3) := by decide +kernel
theorem dM_proxy_93 : decode cM_proxy 93 = .ok (.iload_n 1, 1) := by decide +kernel
theorem dM_proxy_94 : decode cM_proxy 94 = .ok (.iaload, 1) := by decide +kernel
theorem dM_proxy_95 : decode cM_proxy 95 = .ok (.iload_n 2, 1) := by decide +kernel
theorem dM_proxy_96 : decode cM_proxy 96 = .ok (.iconst 0, 1) := by decide +kernel
theorem dM_proxy_97 : decode cM_proxy 97 = .ok (.iload_n 1, 1) := by decide +kernel
theorem dM_proxy_98 : decode cM_proxy 98 = .ok (.invokevirtual 118, 3) := by decide +kernel
theorem dM_proxy_101 : decode cM_proxy 101 = .ok (.ireturn, 1) := by decide +kernel
theorem dM_good_0 : decode cM_good 0 = .ok (.aload_n 0, 1) := by decide +kernel
theorem dM_good_1 : decode cM_good 1 = .ok (.getfield 53, 3) := by decide +kernel
theorem dM_good_4 : decode cM_good 4 = .ok (.iload_n 1, 1) := by decide +kernel
theorem dM_good_5 : decode cM_good 5 = .ok (.iaload, 1) := by decide +kernel
theorem dM_good_6 : decode cM_good 6 = .ok (.iconst 2, 1) := by decide +kernel
theorem dM_good_7 : decode cM_good 7 = .ok (.if_icmp .ne 8, 3) := by decide +kernel
theorem dM_good_10 : decode cM_good 10 = .ok (.bipush 60, 2) := by decide +kernel
theorem dM_good_12 : decode cM_good 12 = .ok (.goto 5, 3) := by decide +kernel
theorem dM_good_15 : decode cM_good 15 = .ok (.bipush 10, 2) := by decide +kernel
theorem dM_good_17 : decode cM_good 17 = .ok (.istore_n 2, 1) := by decide +kernel
theorem dM_good_18 : decode cM_good 18 = .ok (.aload_n 0, 1) := by decide +kernel
theorem dM_good_19 : decode cM_good 19 = .ok (.getfield 71, 3) := by decide +kernel
theorem dM_good_22 : decode cM_good 22 = .ok (.iload_n 1, 1) := by decide +kernel
theorem dM_good_23 : decode cM_good 23 = .ok (.baload, 1) := by decide +kernel
theorem dM_good_24 : decode cM_good 24 = .ok (.ifCond .ne 36, 3) := by decide +kernel
theorem dM_good_27 : decode cM_good 27 = .ok (.aload_n 0, 1) := by decide +kernel
theorem dM_good_28 : decode cM_good 28 = .ok (.getfield 50, 3) := by decide +kernel
theorem dM_good_31 : decode cM_good 31 = .ok (.aload_n 0, 1) := by decide +kernel
theorem dM_good_32 : decode cM_good 32 = .ok (.getfield 56, 3) := by decide +kernel
theorem dM_good_35 : decode cM_good 35 = .ok (.iload_n 1, 1) := by decide +kernel
theorem dM_good_36 : decode cM_good 36 = .ok (.iaload, 1) := by decide +kernel
theorem dM_good_37 : decode cM_good 37 = .ok (.baload, 1) := by decide +kernel
theorem dM_good_38 : decode cM_good 38 = .ok (.ifCond .ne 22, 3) := by decide +kernel
theorem dM_good_41 : decode cM_good 41 = .ok (.aload_n 0, 1) := by decide +kernel
theorem dM_good_42 : decode cM_good 42 = .ok (.getfield 97, 3) := by decide +kernel
theorem dM_good_45 : decode cM_good 45 = .ok (.aload_n 0, 1) := by decide +kernel
theorem dM_good_46 : decode cM_good 46 = .ok (.getfield 62, 3) := by decide +kernel
theorem dM_good_49 : decode cM_good 49 = .ok (.iload_n 1, 1) := by decide +kernel
theorem dM_good_50 : decode cM_good 50 = .ok (.iaload, 1) := by decide +kernel
theorem dM_good_51 : decode cM_good 51 = .ok (.isub, 1) := by decide +kernel
theorem dM_good_52 : decode cM_good 52 = .ok (.iload_n 2, 1) := by decide +kernel
theorem dM_good_53 : decode cM_good 53 = .ok (.if_icmp .gt 7, 3) := by decide +kernel
theorem dM_good_56 : decode cM_good 56 = .ok (.iconst 1, 1) := by decide +kernel
theorem dM_good_57 : decode cM_good 57 = .ok (.goto 4, 3) := by decide +kernel
theorem dM_good_60 : decode cM_good 60 = .ok (.iconst 0, 1) := by decide +kernel
theorem dM_good_61 : decode cM_good 61 = .ok (.ireturn, 1) := by decide +kernel
theorem dM_validate_0 : decode cM_validate 0 = .ok (.aload_n 0, 1) := by decide +kernel
theorem dM_validate_1 : decode cM_validate 1 = .ok (.iload_n 3, 1) := by decide +kernel
theorem dM_validate_2 : decode cM_validate 2 = .ok (.iconst 0, 1) := by decide +kernel
theorem dM_validate_3 : decode cM_validate 3 = .ok (.bipush 7, 2) := by decide +kernel
theorem dM_validate_5 : decode cM_validate 5 = .ok (.invokestatic 90, 3) := by decide +kernel
theorem dM_validate_8 : decode cM_validate 8 = .ok (.ifCond .eq 17, 3) := by decide +kernel
theorem dM_validate_11 : decode cM_validate 11 = .ok (.iload 4, 2) := by decide +kernel
theorem dM_validate_13 : decode cM_validate 13 = .ok (.iconst 0, 1) := by decide +kernel
theorem dM_validate_14 : decode cM_validate 14 = .ok (.iconst 5, 1) := by decide +kernel
theorem dM_validate_15 : decode cM_validate 15 = .ok (.invokestatic 90, 3) := by decide +kernel
theorem dM_validate_18 : decode cM_validate 18 = .ok (.ifCond .eq 7, 3) := by decide +kernel
theorem dM_validate_21 : decode cM_validate 21 = .ok (.iconst 0, 1) := by decide +kernel
theorem dM_validate_22 : decode cM_validate 22 = .ok (.goto 4, 3) := by decide +kernel
theorem dM_validate_25 : decode cM_validate 25 = .ok (.iconst 1, 1) := by decide +kernel
theorem dM_validate_26 : decode cM_validate 26 = .ok (.putfield 87, 3) := by decide +kernel
theorem dM_validate_29 : decode cM_validate 29 = .ok (.aload_n 0, 1) := by decide +kernel
theorem dM_validate_30 : decode cM_validate 30 = .ok (.getfield 87, 3) := by decide +kernel
theorem dM_validate_33 : decode cM_validate 33 = .ok (.ifCond .le 5, 3) := by decide +kernel
theorem dM_validate_36 : decode cM_validate 36 = .ok (.iconst 0, 1) := by decide +kernel
theorem dM_validate_37 : decode cM_validate 37 = .ok (.ireturn, 1) := by decide +kernel
theorem dM_validate_38 : decode cM_validate 38 = .ok (.aload_n 0, 1) := by decide +kernel
theorem dM_validate_39 : decode cM_validate 39 = .ok (.iload_n 1, 1) := by decide +kernel
theorem dM_validate_40 : decode cM_validate 40 = .ok (.iload_n 2, 1) := by decide +kernel
theorem dM_validate_41 : decode cM_validate 41 = .ok (.iload_n 3, 1) := by decide +kernel
theorem dM_validate_42 : decode cM_validate 42 = .ok (.invokevirtual 152, 3) := by decide +kernel
theorem dM_validate_45 : decode cM_validate 45 = .ok (.istore 5, 2) := by decide +kernel
theorem dM_validate_47 : decode cM_validate 47 = .ok (.iload 5, 2) := by decide +kernel
theorem dM_validate_49 : decode cM_validate 49 = .ok (.iconst 2, 1) := by decide +kernel
theorem dM_validate_50 : decode cM_validate 50 = .ok (.if_icmp .le 10, 3) := by decide +kernel
theorem dM_validate_53 : decode cM_validate 53 = .ok (.aload_n 0, 1) := by decide +kernel
theorem dM_validate_54 : decode cM_validate 54 = .ok (.getfield 71, 3) := by decide +kernel
theorem dM_validate_57 : decode cM_validate 57 = .ok (.iload_n 1, 1) := by decide +kernel
theorem dM_validate_58 : decode cM_validate 58 = .ok (.iconst 1, 1) := by decide +kernel
theorem dM_validate_59 : decode cM_validate 59 = .ok (.bastore, 1) := by decide +kernel
theorem dM_validate_60 : decode cM_validate 60 = .ok (.iload 5, 2) := by decide +kernel
theorem dM_validate_62 : decode cM_validate 62 = .ok (.ifCond .le 13, 3) := by decide +kernel
theorem dM_validate_65 : decode cM_validate 65 = .ok (.aload_n 0, 1) := by decide +kernel
theorem dM_validate_66 : decode cM_validate 66 = .ok (.iload 5, 2) := by decide +kernel
theorem dM_validate_68 : decode cM_validate 68 = .ok (.iload_n 1, 1) := by decide +kernel
theorem dM_validate_69 : decode cM_validate 69 = .ok (.invokevirtual 156, 3) := by decide +kernel
theorem dM_validate_72 : decode cM_validate 72 = .ok (.iload 5, 2) := by decide +kernel
theorem dM_validate_74 : decode cM_validate 74 = .ok (.ireturn, 1) := by decide +kernel
theorem dM_validate_75 : decode cM_validate 75 = .ok (.aload_n 0, 1) := by decide +kernel
theorem dM_validate_76 : decode cM_validate 76 = .ok (.getfield 71, 3) := by decide +kernel
theorem dM_validate_79 : decode cM_validate 79 = .ok (.iload_n 1, 1) := by decide +kernel
theorem dM_validate_80 : decode cM_validate 80 = .ok (.iconst 1, 1) := by decide +kernel
theorem dM_validate_81 : decode cM_validate 81 = .ok (.bastore, 1) := by decide +kernel
theorem dM_validate_82 : decode cM_validate 82 = .ok (.aload_n 0, 1) := by decide +kernel
theorem dM_validate_83 : decode cM_validate 83 = .ok (.getfield 44, 3) := by decide +kernel
theorem dM_validate_86 : decode cM_validate 86 = .ok (.aload_n 0, 1) := by decide +kernel
theorem dM_validate_87 : decode cM_validate 87 = .ok (.getfield 56, 3) := by decide +kernel
theorem dM_validate_90 : decode cM_validate 90 = .ok (.iload_n 1, 1) := by decide +kernel
theorem dM_validate_91 : decode cM_validate 91 = .ok (.iaload, 1) := by decide +kernel
theorem dM_validate_92 : decode cM_validate 92 = .ok (.aload_n 0, 1) := by decide +kernel
theorem dM_validate_93 : decode cM_validate 93 = .ok (.getfield 97, 3) := by decide +kernel
theorem dM_validate_96 : decode cM_validate 96 = .ok (.iastore, 1) := by decide +kernel
theorem dM_validate_97 : decode cM_validate 97 = .ok (.iconst (-1), 1) := by decide +kernel
theorem dM_validate_98 : decode cM_validate 98 = .ok (.istore 6, 2) := by decide +kernel
theorem dM_validate_100 : decode cM_validate 100 = .ok (.iload 4, 2) := by decide +kernel
theorem dM_validate_102 : decode cM_validate 102 = .ok (.ifCond .le 54, 3) := by decide +kernel
theorem dM_validate_105 : decode cM_validate 105 = .ok (.aload_n 0, 1) := by decide +kernel
theorem dM_validate_106 : decode cM_validate 106 = .ok (.getfield 35, 3) := by decide +kernel
theorem dM_validate_109 : decode cM_validate 109 = .ok (.iload 4, 2) := by decide +kernel
theorem dM_validate_111 : decode cM_validate 111 = .ok (.baload, 1) := by decide +kernel
theorem dM_validate_112 : decode cM_validate 112 = .ok (.ifCond .ne 44, 3) := by decide +kernel
theorem dM_validate_115 : decode cM_validate 115 = .ok (.aload_n 0, 1) := by decide +kernel
theorem dM_validate_116 : decode cM_validate 116 = .ok (.getfield 32, 3) := by decide +kernel
theorem dM_validate_119 : decode cM_validate 119 = .ok (.iload_n 2, 1) := by decide +kernel
theorem dM_validate_120 : decode cM_validate 120 = .ok (.iaload, 1) := by decide +kernel
theorem dM_validate_121 : decode cM_validate 121 = .ok (.iconst 2, 1) := by decide +kernel
theorem dM_validate_122 : decode cM_validate 122 = .ok (.idiv, 1) := by decide +kernel
theorem dM_validate_123 : decode cM_validate 123 = .ok (.iconst 2, 1) := by decide +kernel
theorem dM_validate_124 : decode cM_validate 124 = .ok (.irem, 1) := by decide +kernel
theorem dM_validate_125 : decode cM_validate 125 = .ok (.iconst 1, 1) := by decide +kernel
theorem dM_validate_126 : decode cM_validate 126 = .ok (.if_icmp .ne 30, 3) := by decide +kernel
theorem dM_validate_129 : decode cM_validate 129 = .ok (.aload_n 0, 1) := by decide +kernel
theorem dM_validate_130 : decode cM_validate 130 = .ok (.getfield 111, 3) := by decide +kernel
theorem dM_validate_133 : decode cM_validate 133 = .ok (.sipush 150, 3) := by decide +kernel
theorem dM_validate_136 : decode cM_validate 136 = .ok (.if_icmp .ge 20, 3) := by decide +kernel
theorem dM_validate_139 : decode cM_validate 139 = .ok (.aload_n 0, 1) := by decide +kernel
theorem dM_validate_140 : decode cM_validate 140 = .ok (.iconst 2, 1) := by decide +kernel
theorem dM_validate_141 : decode cM_validate 141 = .ok (.aload_n 0, 1) := by decide +kernel
theorem dM_validate_142 : decode cM_validate 142 = .ok (.getfield 56, 3) := by decide +kernel
theorem dM_validate_145 : decode cM_validate 145 = .ok (.iload_n 1, 1) := by decide +kernel
theorem dM_validate_146 : decode cM_validate 146 = .ok (.iaload, 1) := by decide +kernel
theorem dM_validate_147 : decode cM_validate 147 = .ok (.iload 4, 2) := by decide +kernel
theorem dM_validate_149 : decode cM_validate 149 = .ok (.iconst 0, 1) := by decide +kernel
theorem dM_validate_150 : decode cM_validate 150 = .ok (.iload_n 1, 1) := by decide +kernel
theorem dM_validate_151 : decode cM_validate 151 = .ok (.invokevirtual 118, 3) := by decide +kernel
theorem dM_validate_154 : decode cM_validate 154 = .ok (.istore 6, 2) := by decide +kernel
theorem dM_validate_156 : decode cM_validate 156 = .ok (.aload_n 0, 1) := by decide +kernel
theorem dM_validate_157 : decode cM_validate 157 = .ok (.iload_n 1, 1) := by decide +kernel
theorem dM_validate_158 : decode cM_validate 158 = .ok (.iload_n 2, 1) := by decide +kernel
theorem dM_validate_159 : decode cM_validate 159 = .ok (.iload_n 3, 1) := by decide +kernel
theorem dM_validate_160 : decode cM_validate 160 = .ok (.iconst 4, 1) := by decide +kernel
theorem dM_validate_161 : decode cM_validate 161 = .ok (.if_icmp .lt 7, 3) := by decide +kernel
theorem dM_validate_164 : decode cM_validate 164 = .ok (.iconst 1, 1) := by decide +kernel
theorem dM_validate_165 : decode cM_validate 165 = .ok (.goto 4, 3) := by decide +kernel
theorem dM_validate_168 : decode cM_validate 168 = .ok (.iconst 0, 1) := by decide +kernel
theorem dM_validate_169 : decode cM_validate 169 = .ok (.iload 6, 2) := by decide +kernel
theorem dM_validate_171 : decode cM_validate 171 = .ok (.invokevirtual 159, 3) := by decide +kernel
theorem dM_validate_174 : decode cM_validate 174 = .ok (.iconst 0, 1) := by decide +kernel
theorem dM_validate_175 : decode cM_validate 175 = .ok (.ireturn, 1) := by decide +kernel
theorem dM_judged_0 : decode cM_judged 0 = .ok (.iload_n 1, 1) := by decide +kernel
theorem dM_judged_1 : decode cM_judged 1 = .ok (.iconst 0, 1) := by decide +kernel
theorem dM_judged_2 : decode cM_judged 2 = .ok (.aload_n 0, 1) := by decide +kernel
theorem dM_judged_3 : decode cM_judged 3 = .ok (.getfield 111, 3) := by decide +kernel
theorem dM_judged_6 : decode cM_judged 6 = .ok (.iconst 1, 1) := by decide +kernel
theorem dM_judged_7 : decode cM_judged 7 = .ok (.isub, 1) := by decide +kernel
theorem dM_judged_8 : decode cM_judged 8 = .ok (.invokestatic 90, 3) := by decide +kernel
theorem dM_judged_11 : decode cM_judged 11 = .ok (.ifCond .eq 11, 3) := by decide +kernel
theorem dM_judged_14 : decode cM_judged 14 = .ok (.aload_n 0, 1) := by decide +kernel
theorem dM_judged_15 : decode cM_judged 15 = .ok (.iload_n 2, 1) := by decide +kernel
theorem dM_judged_16 : decode cM_judged 16 = .ok (.invokevirtual 114, 3) := by decide +kernel
theorem dM_judged_19 : decode cM_judged 19 = .ok (.ifCond .ne 5, 3) := by decide +kernel
theorem dM_judged_22 : decode cM_judged 22 = .ok (.iconst 1, 1) := by decide +kernel
theorem dM_judged_23 : decode cM_judged 23 = .ok (.ireturn, 1) := by decide +kernel
theorem dM_judged_24 : decode cM_judged 24 = .ok (.aload_n 0, 1) := by decide +kernel
theorem dM_judged_25 : decode cM_judged 25 = .ok (.getfield 53, 3) := by decide +kernel
theorem dM_judged_28 : decode cM_judged 28 = .ok (.iload_n 1, 1) := by decide +kernel
theorem dM_judged_29 : decode cM_judged 29 = .ok (.iaload, 1) := by decide +kernel
theorem dM_judged_30 : decode cM_judged 30 = .ok (.iconst 2, 1) := by decide +kernel
theorem dM_judged_31 : decode cM_judged 31 = .ok (.if_icmp .eq 21, 3) := by decide +kernel
theorem dM_judged_34 : decode cM_judged 34 = .ok (.aload_n 0, 1) := by decide +kernel
theorem dM_judged_35 : decode cM_judged 35 = .ok (.getfield 53, 3) := by decide +kernel
theorem dM_judged_38 : decode cM_judged 38 = .ok (.iload_n 1, 1) := by decide +kernel
theorem dM_judged_39 : decode cM_judged 39 = .ok (.iaload, 1) := by decide +kernel
theorem dM_judged_40 : decode cM_judged 40 = .ok (.iconst 1, 1) := by decide +kernel
theorem dM_judged_41 : decode cM_judged 41 = .ok (.if_icmp .ne 13, 3) := by decide +kernel
theorem dM_judged_44 : decode cM_judged 44 = .ok (.iload_n 3, 1) := by decide +kernel
theorem dM_judged_45 : decode cM_judged 45 = .ok (.iconst 2, 1) := by decide +kernel
theorem dM_judged_46 : decode cM_judged 46 = .ok (.idiv, 1) := by decide +kernel
theorem dM_judged_47 : decode cM_judged 47 = .ok (.iconst 2, 1) := by decide +kernel
theorem dM_judged_48 : decode cM_judged 48 = .ok (.irem, 1) := by decide +kernel
theorem dM_judged_49 : decode cM_judged 49 = .ok (.ifCond .ne 5, 3) := by decide +kernel
theorem dM_judged_52 : decode cM_judged 52 = .ok (.iconst 2, 1) := by decide +kernel
theorem dM_judged_53 : decode cM_judged 53 = .ok (.ireturn, 1) := by decide +kernel
theorem dM_judged_54 : decode cM_judged 54 = .ok (.aload_n 0, 1) := by decide +kernel
theorem dM_judged_55 : decode cM_judged 55 = .ok (.iload_n 1, 1) := by decide +kernel
theorem dM_judged_56 : decode cM_judged 56 = .ok (.invokevirtual 122, 3) := by decide +kernel
theorem dM_judged_59 : decode cM_judged 59 = .ok (.ifCond .ne 7, 3) := by decide +kernel
theorem dM_judged_62 : decode cM_judged 62 = .ok (.iconst 3, 1) := by decide +kernel
theorem dM_judged_63 : decode cM_judged 63 = .ok (.goto 38, 3) := by decide +kernel
theorem dM_judged_66 : decode cM_judged 66 = .ok (.aload_n 0, 1) := by decide +kernel
theorem dM_judged_67 : decode cM_judged 67 = .ok (.getfield 59, 3) := by decide +kernel
theorem dM_judged_70 : decode cM_judged 70 = .ok (.iload_n 1, 1) := by decide +kernel
theorem dM_judged_71 : decode cM_judged 71 = .ok (.iaload, 1) := by decide +kernel
theorem dM_judged_72 : decode cM_judged 72 = .ok (.iload_n 2, 1) := by decide +kernel
theorem dM_judged_73 : decode cM_judged 73 = .ok (.if_icmp .eq 7, 3) := by decide +kernel
theorem dM_judged_76 : decode cM_judged 76 = .ok (.iconst 4, 1) := by decide +kernel
theorem dM_judged_77 : decode cM_judged 77 = .ok (.goto 24, 3) := by decide +kernel
theorem dM_judged_80 : decode cM_judged 80 = .ok (.iload_n 3, 1) := by decide +kernel
theorem dM_judged_81 : decode cM_judged 81 = .ok (.iconst 2, 1) := by decide +kernel
theorem dM_judged_82 : decode cM_judged 82 = .ok (.irem, 1) := by decide +kernel
theorem dM_judged_83 : decode cM_judged 83 = .ok (.iconst 1, 1) := by decide +kernel
theorem dM_judged_84 : decode cM_judged 84 = .ok (.if_icmp .ne 16, 3) := by decide +kernel
theorem dM_judged_87 : decode cM_judged 87 = .ok (.aload_n 0, 1) := by decide +kernel
theorem dM_judged_88 : decode cM_judged 88 = .ok (.getfield 65, 3) := by decide +kernel
theorem dM_judged_91 : decode cM_judged 91 = .ok (.iload_n 1, 1) := by decide +kernel
theorem dM_judged_92 : decode cM_judged 92 = .ok (.baload, 1) := by decide +kernel
theorem dM_judged_93 : decode cM_judged 93 = .ok (.ifCond .ne 7, 3) := by decide +kernel
theorem dM_judged_96 : decode cM_judged 96 = .ok (.iconst 5, 1) := by decide +kernel
theorem dM_judged_97 : decode cM_judged 97 = .ok (.goto 4, 3) := by decide +kernel
theorem dM_judged_100 : decode cM_judged 100 = .ok (.iconst 0, 1) := by decide +kernel
theorem dM_judged_101 : decode cM_judged 101 = .ok (.ireturn, 1) := by decide +kernel
theorem dM_no_0 : decode cM_no 0 = .ok (.aload_n 0, 1) := by decide +kernel
theorem dM_no_1 : decode cM_no 1 = .ok (.iconst 0, 1) := by decide +kernel
theorem dM_no_2 : decode cM_no 2 = .ok (.putfield 80, 3) := by decide +kernel
theorem dM_no_5 : decode cM_no 5 = .ok (.aload_n 0, 1) := by decide +kernel
theorem dM_no_6 : decode cM_no 6 = .ok (.bipush 60, 2) := by decide +kernel
theorem dM_no_8 : decode cM_no 8 = .ok (.invokevirtual 125, 3) := by decide +kernel
theorem dM_no_11 : decode cM_no 11 = .ok (.aload_n 0, 1) := by decide +kernel
theorem dM_no_12 : decode cM_no 12 = .ok (.bipush 110, 2) := by decide +kernel
theorem dM_no_14 : decode cM_no 14 = .ok (.invokevirtual 125, 3) := by decide +kernel
theorem dM_no_17 : decode cM_no 17 = .ok (.aload_n 0, 1) := by decide +kernel
theorem dM_no_18 : decode cM_no 18 = .ok (.bipush 111, 2) := by decide +kernel
theorem dM_no_20 : decode cM_no 20 = .ok (.invokevirtual 125, 3) := by decide +kernel
theorem dM_no_23 : decode cM_no 23 = .ok (.aload_n 0, 1) := by decide +kernel
theorem dM_no_24 : decode cM_no 24 = .ok (.bipush 32, 2) := by decide +kernel
theorem dM_no_26 : decode cM_no 26 = .ok (.invokevirtual 125, 3) := by decide +kernel
theorem dM_no_29 : decode cM_no 29 = .ok (.aload_n 0, 1) := by decide +kernel
theorem dM_no_30 : decode cM_no 30 = .ok (.bipush 99, 2) := by decide +kernel
theorem dM_no_32 : decode cM_no 32 = .ok (.invokevirtual 125, 3) := by decide +kernel
theorem dM_no_35 : decode cM_no 35 = .ok (.aload_n 0, 1) := by decide +kernel
theorem dM_no_36 : decode cM_no 36 = .ok (.bipush 61, 2) := by decide +kernel
theorem dM_no_38 : decode cM_no 38 = .ok (.invokevirtual 125, 3) := by decide +kernel
theorem dM_no_41 : decode cM_no 41 = .ok (.aload_n 0, 1) := by decide +kernel
theorem dM_no_42 : decode cM_no 42 = .ok (.bipush 34, 2) := by decide +kernel
theorem dM_no_44 : decode cM_no 44 = .ok (.invokevirtual 125, 3) := by decide +kernel
theorem dM_no_47 : decode cM_no 47 = .ok (.aload_n 0, 1) := by decide +kernel
theorem dM_no_48 : decode cM_no 48 = .ok (.iload_n 1, 1) := by decide +kernel
theorem dM_no_49 : decode cM_no 49 = .ok (.invokevirtual 139, 3) := by decide +kernel
theorem dM_no_52 : decode cM_no 52 = .ok (.aload_n 0, 1) := by decide +kernel
theorem dM_no_53 : decode cM_no 53 = .ok (.bipush 34, 2) := by decide +kernel
theorem dM_no_55 : decode cM_no 55 = .ok (.invokevirtual 125, 3) := by decide +kernel
theorem dM_no_58 : decode cM_no 58 = .ok (.aload_n 0, 1) := by decide +kernel
theorem dM_no_59 : decode cM_no 59 = .ok (.bipush 62, 2) := by decide +kernel
theorem dM_no_61 : decode cM_no 61 = .ok (.invokevirtual 125, 3) := by decide +kernel
theorem dM_no_64 : decode cM_no 64 = .ok (.aload_n 0, 1) := by decide +kernel
theorem dM_no_65 : decode cM_no 65 = .ok (.iload_n 2, 1) := by decide +kernel
theorem dM_no_66 : decode cM_no 66 = .ok (.invokevirtual 139, 3) := by decide +kernel
theorem dM_no_69 : decode cM_no 69 = .ok (.aload_n 0, 1) := by decide +kernel
theorem dM_no_70 : decode cM_no 70 = .ok (.bipush 110, 2) := by decide +kernel
theorem dM_no_72 : decode cM_no 72 = .ok (.bipush 111, 2) := by decide +kernel
theorem dM_no_74 : decode cM_no 74 = .ok (.iconst 1, 1) := by decide +kernel
theorem dM_no_75 : decode cM_no 75 = .ok (.invokevirtual 135, 3) := by decide +kernel
theorem dM_no_78 : decode cM_no 78 = .ok (.return_, 1) := by decide +kernel
theorem dM_put_0 : decode cM_put 0 = .ok (.aload_n 0, 1) := by decide +kernel
theorem dM_put_1 : decode cM_put 1 = .ok (.getfield 77, 3) := by decide +kernel
theorem dM_put_4 : decode cM_put 4 = .ok (.aload_n 0, 1) := by decide +kernel
theorem dM_put_5 : decode cM_put 5 = .ok (.getfield 80, 3) := by decide +kernel
theorem dM_put_8 : decode cM_put 8 = .ok (.iload_n 1, 1) := by decide +kernel
theorem dM_put_9 : decode cM_put 9 = .ok (.iastore, 1) := by decide +kernel
theorem dM_put_10 : decode cM_put 10 = .ok (.aload_n 0, 1) := by decide +kernel
theorem dM_put_11 : decode cM_put 11 = .ok (.dup, 1) := by decide +kernel
theorem dM_put_12 : decode cM_put 12 = .ok (.getfield 80, 3) := by decide +kernel
theorem dM_put_15 : decode cM_put 15 = .ok (.iconst 1, 1) := by decide +kernel
theorem dM_put_16 : decode cM_put 16 = .ok (.iadd, 1) := by decide +kernel
theorem dM_put_17 : decode cM_put 17 = .ok (.putfield 80, 3) := by decide +kernel
theorem dM_put_20 : decode cM_put 20 = .ok (.return_, 1) := by decide +kernel
theorem dM_number_0 : decode cM_number 0 = .ok (.iload_n 1, 1) := by decide +kernel
theorem dM_number_1 : decode cM_number 1 = .ok (.ifCond .ge 9, 3) := by decide +kernel
theorem dM_number_4 : decode cM_number 4 = .ok (.iload_n 1, 1) := by decide +kernel
theorem dM_number_5 : decode cM_number 5 = .ok (.i2l, 1) := by decide +kernel
theorem dM_number_6 : decode cM_number 6 = .ok (.lneg, 1) := by decide +kernel
theorem dM_number_7 : decode cM_number 7 = .ok (.goto 5, 3) := by decide +kernel
theorem dM_number_10 : decode cM_number 10 = .ok (.iload_n 1, 1) := by decide +kernel
theorem dM_number_11 : decode cM_number 11 = .ok (.i2l, 1) := by decide +kernel
theorem dM_number_12 : decode cM_number 12 = .ok (.lstore_n 2, 1) := by decide +kernel
theorem dM_number_13 : decode cM_number 13 = .ok (.iconst 0, 1) := by decide +kernel
theorem dM_number_14 : decode cM_number 14 = .ok (.istore 4, 2) := by decide +kernel
theorem dM_number_16 : decode cM_number 16 = .ok (.iconst 0, 1) := by decide +kernel
theorem dM_number_17 : decode cM_number 17 = .ok (.istore 5, 2) := by decide +kernel
theorem dM_number_19 : decode cM_number 19 = .ok (.iload 5, 2) := by decide +kernel
theorem dM_number_21 : decode cM_number 21 = .ok (.bipush 11, 2) := by decide +kernel
theorem dM_number_23 : decode cM_number 23 = .ok (.if_icmp .ge 45, 3) := by decide +kernel
theorem dM_number_26 : decode cM_number 26 = .ok (.iload 5, 2) := by decide +kernel
theorem dM_number_28 : decode cM_number 28 = .ok (.ifCond .eq 9, 3) := by decide +kernel
theorem dM_number_31 : decode cM_number 31 = .ok (.lload_n 2, 1) := by decide +kernel
theorem dM_number_32 : decode cM_number 32 = .ok (.lconst 0, 1) := by decide +kernel
theorem dM_number_33 : decode cM_number 33 = .ok (.lcmp, 1) := by decide +kernel
theorem dM_number_34 : decode cM_number 34 = .ok (.ifCond .le 34, 3) := by decide +kernel
theorem dM_number_37 : decode cM_number 37 = .ok (.aload_n 0, 1) := by decide +kernel
theorem dM_number_38 : decode cM_number 38 = .ok (.getfield 84, 3) := by decide +kernel
theorem dM_number_41 : decode cM_number 41 = .ok (.iload 5, 2) := by decide +kernel
theorem dM_number_43 : decode cM_number 43 = .ok (.lload_n 2, 1) := by decide +kernel
theorem dM_number_44 : decode cM_number 44 = .ok (.ldc2_w 129, 3) := by decide +kernel
theorem dM_number_47 : decode cM_number 47 = .ok (.lrem, 1) := by decide +kernel
theorem dM_number_48 : decode cM_number 48 = .ok (.l2i, 1) := by decide +kernel
theorem dM_number_49 : decode cM_number 49 = .ok (.iastore, 1) := by decide +kernel
theorem dM_number_50 : decode cM_number 50 = .ok (.lload_n 2, 1) := by decide +kernel
theorem dM_number_51 : decode cM_number 51 = .ok (.ldc2_w 129, 3) := by decide +kernel
theorem dM_number_54 : decode cM_number 54 = .ok (.ldiv, 1) := by decide +kernel
theorem dM_number_55 : decode cM_number 55 = .ok (.lstore_n 2, 1) := by decide +kernel
theorem dM_number_56 : decode cM_number 56 = .ok (.iload 5, 2) := by decide +kernel
theorem dM_number_58 : decode cM_number 58 = .ok (.iconst 1, 1) := by decide +kernel
theorem dM_number_59 : decode cM_number 59 = .ok (.iadd, 1) := by decide +kernel
theorem dM_number_60 : decode cM_number 60 = .ok (.istore 4, 2) := by decide +kernel
theorem dM_number_62 : decode cM_number 62 = .ok (.iinc 5 1, 3) := by decide +kernel
theorem dM_number_65 : decode cM_number 65 = .ok (.goto (-46), 3) := by decide +kernel
theorem dM_number_68 : decode cM_number 68 = .ok (.iload_n 1, 1) := by decide +kernel
theorem dM_number_69 : decode cM_number 69 = .ok (.ifCond .ge 9, 3) := by decide +kernel
theorem dM_number_72 : decode cM_number 72 = .ok (.aload_n 0, 1) := by decide +kernel
theorem dM_number_73 : decode cM_number 73 = .ok (.bipush 45, 2) := by decide +kernel
theorem dM_number_75 : decode cM_number 75 = .ok (.invokevirtual 125, 3) := by decide +kernel
theorem dM_number_78 : decode cM_number 78 = .ok (.iload 4, 2) := by decide +kernel
theorem dM_number_80 : decode cM_number 80 = .ok (.iconst 1, 1) := by decide +kernel
theorem dM_number_81 : decode cM_number 81 = .ok (.isub, 1) := by decide +kernel
theorem dM_number_82 : decode cM_number 82 = .ok (.istore 5, 2) := by decide +kernel
theorem dM_number_84 : decode cM_number 84 = .ok (.iload 5, 2) := by decide +kernel
theorem dM_number_86 : decode cM_number 86 = .ok (.ifCond .lt 23, 3) := by decide +kernel
theorem dM_number_89 : decode cM_number 89 = .ok (.aload_n 0, 1) := by decide +kernel
theorem dM_number_90 : decode cM_number 90 = .ok (.bipush 48, 2) := by decide +kernel
theorem dM_number_92 : decode cM_number 92 = .ok (.aload_n 0, 1) := by decide +kernel
theorem dM_number_93 : decode cM_number 93 = .ok (.getfield 84, 3) := by decide +kernel
theorem dM_number_96 : decode cM_number 96 = .ok (.iload 5, 2) := by decide +kernel
theorem dM_number_98 : decode cM_number 98 = .ok (.iaload, 1) := by decide +kernel
theorem dM_number_99 : decode cM_number 99 = .ok (.iadd, 1) := by decide +kernel
theorem dM_number_100 : decode cM_number 100 = .ok (.invokevirtual 125, 3) := by decide +kernel
theorem dM_number_103 : decode cM_number 103 = .ok (.iinc 5 (-1), 3) := by decide +kernel
theorem dM_number_106 : decode cM_number 106 = .ok (.goto (-22), 3) := by decide +kernel
theorem dM_number_109 : decode cM_number 109 = .ok (.return_, 1) := by decide +kernel
theorem dM_tag_0 : decode cM_tag 0 = .ok (.aload_n 0, 1) := by decide +kernel
theorem dM_tag_1 : decode cM_tag 1 = .ok (.bipush 60, 2) := by decide +kernel
theorem dM_tag_3 : decode cM_tag 3 = .ok (.invokevirtual 125, 3) := by decide +kernel
theorem dM_tag_6 : decode cM_tag 6 = .ok (.iload_n 3, 1) := by decide +kernel
theorem dM_tag_7 : decode cM_tag 7 = .ok (.ifCond .eq 9, 3) := by decide +kernel
theorem dM_tag_10 : decode cM_tag 10 = .ok (.aload_n 0, 1) := by decide +kernel
theorem dM_tag_11 : decode cM_tag 11 = .ok (.bipush 47, 2) := by decide +kernel
theorem dM_tag_13 : decode cM_tag 13 = .ok (.invokevirtual 125, 3) := by decide +kernel
theorem dM_tag_16 : decode cM_tag 16 = .ok (.aload_n 0, 1) := by decide +kernel
theorem dM_tag_17 : decode cM_tag 17 = .ok (.iload_n 1, 1) := by decide +kernel
theorem dM_tag_18 : decode cM_tag 18 = .ok (.invokevirtual 125, 3) := by decide +kernel
theorem dM_tag_21 : decode cM_tag 21 = .ok (.iload_n 2, 1) := by decide +kernel
theorem dM_tag_22 : decode cM_tag 22 = .ok (.ifCond .le 8, 3) := by decide +kernel
theorem dM_tag_25 : decode cM_tag 25 = .ok (.aload_n 0, 1) := by decide +kernel
theorem dM_tag_26 : decode cM_tag 26 = .ok (.iload_n 2, 1) := by decide +kernel
theorem dM_tag_27 : decode cM_tag 27 = .ok (.invokevirtual 125, 3) := by decide +kernel
theorem dM_tag_30 : decode cM_tag 30 = .ok (.aload_n 0, 1) := by decide +kernel
theorem dM_tag_31 : decode cM_tag 31 = .ok (.bipush 62, 2) := by decide +kernel
theorem dM_tag_33 : decode cM_tag 33 = .ok (.invokevirtual 125, 3) := by decide +kernel
theorem dM_tag_36 : decode cM_tag 36 = .ok (.return_, 1) := by decide +kernel
theorem dM_ok_0 : decode cM_ok 0 = .ok (.aload_n 0, 1) := by decide +kernel
theorem dM_ok_1 : decode cM_ok 1 = .ok (.getfield 56, 3) := by decide +kernel
theorem dM_ok_4 : decode cM_ok 4 = .ok (.iload_n 1, 1) := by decide +kernel
theorem dM_ok_5 : decode cM_ok 5 = .ok (.iaload, 1) := by decide +kernel
theorem dM_ok_6 : decode cM_ok 6 = .ok (.istore 5, 2) := by decide +kernel
theorem dM_ok_8 : decode cM_ok 8 = .ok (.aload_n 0, 1) := by decide +kernel
theorem dM_ok_9 : decode cM_ok 9 = .ok (.getfield 38, 3) := by decide +kernel
theorem dM_ok_12 : decode cM_ok 12 = .ok (.iload 5, 2) := by decide +kernel
theorem dM_ok_14 : decode cM_ok 14 = .ok (.iaload, 1) := by decide +kernel
theorem dM_ok_15 : decode cM_ok 15 = .ok (.istore 6, 2) := by decide +kernel
theorem dM_ok_17 : decode cM_ok 17 = .ok (.aload_n 0, 1) := by decide +kernel
theorem dM_ok_18 : decode cM_ok 18 = .ok (.iconst 0, 1) := by decide +kernel
theorem dM_ok_19 : decode cM_ok 19 = .ok (.putfield 80, 3) := by decide +kernel
theorem dM_ok_22 : decode cM_ok 22 = .ok (.aload_n 0, 1) := by decide +kernel
theorem dM_ok_23 : decode cM_ok 23 = .ok (.bipush 60, 2) := by decide +kernel
theorem dM_ok_25 : decode cM_ok 25 = .ok (.invokevirtual 125, 3) := by decide +kernel
theorem dM_ok_28 : decode cM_ok 28 = .ok (.aload_n 0, 1) := by decide +kernel
theorem dM_ok_29 : decode cM_ok 29 = .ok (.bipush 111, 2) := by decide +kernel
theorem dM_ok_31 : decode cM_ok 31 = .ok (.invokevirtual 125, 3) := by decide +kernel
theorem dM_ok_34 : decode cM_ok 34 = .ok (.aload_n 0, 1) := by decide +kernel
theorem dM_ok_35 : decode cM_ok 35 = .ok (.bipush 107, 2) := by decide +kernel
theorem dM_ok_37 : decode cM_ok 37 = .ok (.invokevirtual 125, 3) := by decide +kernel
theorem dM_ok_40 : decode cM_ok 40 = .ok (.aload_n 0, 1) := by decide +kernel
theorem dM_ok_41 : decode cM_ok 41 = .ok (.bipush 32, 2) := by decide +kernel
theorem dM_ok_43 : decode cM_ok 43 = .ok (.invokevirtual 125, 3) := by decide +kernel
theorem dM_ok_46 : decode cM_ok 46 = .ok (.aload_n 0, 1) := by decide +kernel
theorem dM_ok_47 : decode cM_ok 47 = .ok (.bipush 117, 2) := by decide +kernel
theorem dM_ok_49 : decode cM_ok 49 = .ok (.invokevirtual 125, 3) := by decide +kernel
theorem dM_ok_52 : decode cM_ok 52 = .ok (.aload_n 0, 1) := by decide +kernel
theorem dM_ok_53 : decode cM_ok 53 = .ok (.bipush 61, 2) := by decide +kernel
theorem dM_ok_55 : decode cM_ok 55 = .ok (.invokevirtual 125, 3) := by decide +kernel
theorem dM_ok_58 : decode cM_ok 58 = .ok (.aload_n 0, 1) := by decide +kernel
theorem dM_ok_59 : decode cM_ok 59 = .ok (.bipush 34, 2) := by decide +kernel
theorem dM_ok_61 : decode cM_ok 61 = .ok (.invokevirtual 125, 3) := by decide +kernel
theorem dM_ok_64 : decode cM_ok 64 = .ok (.aload_n 0, 1) := by decide +kernel
theorem dM_ok_65 : decode cM_ok 65 = .ok (.iconst 4, 1) := by decide +kernel
theorem dM_ok_66 : decode cM_ok 66 = .ok (.iload 6, 2) := by decide +kernel
theorem dM_ok_68 : decode cM_ok 68 = .ok (.imul, 1) := by decide +kernel
theorem dM_ok_69 : decode cM_ok 69 = .ok (.iconst 3, 1) := by decide +kernel
theorem dM_ok_70 : decode cM_ok 70 = .ok (.iadd, 1) := by decide +kernel
theorem dM_ok_71 : decode cM_ok 71 = .ok (.invokevirtual 142, 3) := by decide +kernel
theorem dM_ok_74 : decode cM_ok 74 = .ok (.aload_n 0, 1) := by decide +kernel
theorem dM_ok_75 : decode cM_ok 75 = .ok (.bipush 34, 2) := by decide +kernel
theorem dM_ok_77 : decode cM_ok 77 = .ok (.invokevirtual 125, 3) := by decide +kernel
theorem dM_ok_80 : decode cM_ok 80 = .ok (.aload_n 0, 1) := by decide +kernel
theorem dM_ok_81 : decode cM_ok 81 = .ok (.bipush 62, 2) := by decide +kernel
theorem dM_ok_83 : decode cM_ok 83 = .ok (.invokevirtual 125, 3) := by decide +kernel
theorem dM_ok_86 : decode cM_ok 86 = .ok (.iconst 0, 1) := by decide +kernel
theorem dM_ok_87 : decode cM_ok 87 = .ok (.istore 7, 2) := by decide +kernel
theorem dM_ok_89 : decode cM_ok 89 = .ok (.iload 7, 2) := by decide +kernel
theorem dM_ok_91 : decode cM_ok 91 = .ok (.iconst 3, 1) := by decide +kernel
theorem dM_ok_92 : decode cM_ok 92 = .ok (.if_icmp .ge 80, 3) := by decide +kernel
theorem dM_ok_95 : decode cM_ok 95 = .ok (.iload_n 3, 1) := by decide +kernel
theorem dM_ok_96 : decode cM_ok 96 = .ok (.ifCond .eq 76, 3) := by decide +kernel
theorem dM_ok_99 : decode cM_ok 99 = .ok (.aload_n 0, 1) := by decide +kernel
theorem dM_ok_100 : decode cM_ok 100 = .ok (.getfield 32, 3) := by decide +kernel
theorem dM_ok_103 : decode cM_ok 103 = .ok (.iload_n 2, 1) := by decide +kernel
theorem dM_ok_104 : decode cM_ok 104 = .ok (.iaload, 1) := by decide +kernel
theorem dM_ok_105 : decode cM_ok 105 = .ok (.iconst 3, 1) := by decide +kernel
theorem dM_ok_106 : decode cM_ok 106 = .ok (.iload 7, 2) := by decide +kernel
theorem dM_ok_108 : decode cM_ok 108 = .ok (.iadd, 1) := by decide +kernel
theorem dM_ok_109 : decode cM_ok 109 = .ok (.ishr, 1) := by decide +kernel
theorem dM_ok_110 : decode cM_ok 110 = .ok (.iconst 1, 1) := by decide +kernel
theorem dM_ok_111 : decode cM_ok 111 = .ok (.iand, 1) := by decide +kernel
theorem dM_ok_112 : decode cM_ok 112 = .ok (.iconst 1, 1) := by decide +kernel
theorem dM_ok_113 : decode cM_ok 113 = .ok (.if_icmp .ne 53, 3) := by decide +kernel
theorem dM_ok_116 : decode cM_ok 116 = .ok (.aload_n 0, 1) := by decide +kernel
theorem dM_ok_117 : decode cM_ok 117 = .ok (.getfield 16, 3) := by decide +kernel
theorem dM_ok_120 : decode cM_ok 120 = .ok (.iconst 4, 1) := by decide +kernel
theorem dM_ok_121 : decode cM_ok 121 = .ok (.iload 6, 2) := by decide +kernel
theorem dM_ok_123 : decode cM_ok 123 = .ok (.imul, 1) := by decide +kernel
theorem dM_ok_124 : decode cM_ok 124 = .ok (.iload 7, 2) := by decide +kernel
theorem dM_ok_126 : decode cM_ok 126 = .ok (.iadd, 1) := by decide +kernel
theorem dM_ok_127 : decode cM_ok 127 = .ok (.iaload, 1) := by decide +kernel
theorem dM_ok_128 : decode cM_ok 128 = .ok (.ifCond .le 38, 3) := by decide +kernel
theorem dM_ok_131 : decode cM_ok 131 = .ok (.aload_n 0, 1) := by decide +kernel
theorem dM_ok_132 : decode cM_ok 132 = .ok (.bipush 97, 2) := by decide +kernel
theorem dM_ok_134 : decode cM_ok 134 = .ok (.bipush 48, 2) := by decide +kernel
theorem dM_ok_136 : decode cM_ok 136 = .ok (.iload 7, 2) := by decide +kernel
theorem dM_ok_138 : decode cM_ok 138 = .ok (.iadd, 1) := by decide +kernel
theorem dM_ok_139 : decode cM_ok 139 = .ok (.iconst 0, 1) := by decide +kernel
theorem dM_ok_140 : decode cM_ok 140 = .ok (.invokevirtual 135, 3) := by decide +kernel
theorem dM_ok_143 : decode cM_ok 143 = .ok (.aload_n 0, 1) := by decide +kernel
theorem dM_ok_144 : decode cM_ok 144 = .ok (.iconst 4, 1) := by decide +kernel
theorem dM_ok_145 : decode cM_ok 145 = .ok (.iload 6, 2) := by decide +kernel
theorem dM_ok_147 : decode cM_ok 147 = .ok (.imul, 1) := by decide +kernel
theorem dM_ok_148 : decode cM_ok 148 = .ok (.iload 7, 2) := by decide +kernel
theorem dM_ok_150 : decode cM_ok 150 = .ok (.iadd, 1) := by decide +kernel
theorem dM_ok_151 : decode cM_ok 151 = .ok (.invokevirtual 142, 3) := by decide +kernel
theorem dM_ok_154 : decode cM_ok 154 = .ok (.aload_n 0, 1) := by decide +kernel
theorem dM_ok_155 : decode cM_ok 155 = .ok (.bipush 97, 2) := by decide +kernel
theorem dM_ok_157 : decode cM_ok 157 = .ok (.bipush 48, 2) := by decide +kernel
theorem dM_ok_159 : decode cM_ok 159 = .ok (.iload 7, 2) := by decide +kernel
theorem dM_ok_161 : decode cM_ok 161 = .ok (.iadd, 1) := by decide +kernel
theorem dM_ok_162 : decode cM_ok 162 = .ok (.iconst 1, 1) := by decide +kernel
theorem dM_ok_163 : decode cM_ok 163 = .ok (.invokevirtual 135, 3) := by decide +kernel
theorem dM_ok_166 : decode cM_ok 166 = .ok (.iinc 7 1, 3) := by decide +kernel
theorem dM_ok_169 : decode cM_ok 169 = .ok (.goto (-80), 3) := by decide +kernel
theorem dM_ok_172 : decode cM_ok 172 = .ok (.aload_n 0, 1) := by decide +kernel
theorem dM_ok_173 : decode cM_ok 173 = .ok (.bipush 100, 2) := by decide +kernel
theorem dM_ok_175 : decode cM_ok 175 = .ok (.aload_n 0, 1) := by decide +kernel
theorem dM_ok_176 : decode cM_ok 176 = .ok (.getfield 41, 3) := by decide +kernel
theorem dM_ok_179 : decode cM_ok 179 = .ok (.iload 5, 2) := by decide +kernel
theorem dM_ok_181 : decode cM_ok 181 = .ok (.iaload, 1) := by decide +kernel
theorem dM_ok_182 : decode cM_ok 182 = .ok (.invokevirtual 145, 3) := by decide +kernel
theorem dM_ok_185 : decode cM_ok 185 = .ok (.aload_n 0, 1) := by decide +kernel
theorem dM_ok_186 : decode cM_ok 186 = .ok (.getfield 47, 3) := by decide +kernel
theorem dM_ok_189 : decode cM_ok 189 = .ok (.iload 5, 2) := by decide +kernel
theorem dM_ok_191 : decode cM_ok 191 = .ok (.baload, 1) := by decide +kernel
theorem dM_ok_192 : decode cM_ok 192 = .ok (.ifCond .eq 10, 3) := by decide +kernel
theorem dM_ok_195 : decode cM_ok 195 = .ok (.aload_n 0, 1) := by decide +kernel
theorem dM_ok_196 : decode cM_ok 196 = .ok (.bipush 108, 2) := by decide +kernel
theorem dM_ok_198 : decode cM_ok 198 = .ok (.iconst 1, 1) := by decide +kernel
theorem dM_ok_199 : decode cM_ok 199 = .ok (.invokevirtual 145, 3) := by decide +kernel
theorem dM_ok_202 : decode cM_ok 202 = .ok (.aload_n 0, 1) := by decide +kernel
theorem dM_ok_203 : decode cM_ok 203 = .ok (.bipush 110, 2) := by decide +kernel
theorem dM_ok_205 : decode cM_ok 205 = .ok (.aload_n 0, 1) := by decide +kernel
theorem dM_ok_206 : decode cM_ok 206 = .ok (.getfield 65, 3) := by decide +kernel
theorem dM_ok_209 : decode cM_ok 209 = .ok (.iload_n 1, 1) := by decide +kernel
theorem dM_ok_210 : decode cM_ok 210 = .ok (.baload, 1) := by decide +kernel
theorem dM_ok_211 : decode cM_ok 211 = .ok (.ifCond .eq 7, 3) := by decide +kernel
theorem dM_ok_214 : decode cM_ok 214 = .ok (.iconst 1, 1) := by decide +kernel
theorem dM_ok_215 : decode cM_ok 215 = .ok (.goto 4, 3) := by decide +kernel
theorem dM_ok_218 : decode cM_ok 218 = .ok (.iconst 0, 1) := by decide +kernel
theorem dM_ok_219 : decode cM_ok 219 = .ok (.invokevirtual 145, 3) := by decide +kernel
theorem dM_ok_222 : decode cM_ok 222 = .ok (.iload 4, 2) := by decide +kernel
theorem dM_ok_224 : decode cM_ok 224 = .ok (.ifCond .lt 11, 3) := by decide +kernel
theorem dM_ok_227 : decode cM_ok 227 = .ok (.aload_n 0, 1) := by decide +kernel
theorem dM_ok_228 : decode cM_ok 228 = .ok (.bipush 103, 2) := by decide +kernel
theorem dM_ok_230 : decode cM_ok 230 = .ok (.iload 4, 2) := by decide +kernel
theorem dM_ok_232 : decode cM_ok 232 = .ok (.invokevirtual 145, 3) := by decide +kernel
theorem dM_ok_235 : decode cM_ok 235 = .ok (.aload_n 0, 1) := by decide +kernel
theorem dM_ok_236 : decode cM_ok 236 = .ok (.iload_n 1, 1) := by decide +kernel
theorem dM_ok_237 : decode cM_ok 237 = .ok (.invokevirtual 149, 3) := by decide +kernel
theorem dM_ok_240 : decode cM_ok 240 = .ok (.istore 7, 2) := by decide +kernel
theorem dM_ok_242 : decode cM_ok 242 = .ok (.iload 7, 2) := by decide +kernel
theorem dM_ok_244 : decode cM_ok 244 = .ok (.ifCond .lt 27, 3) := by decide +kernel
theorem dM_ok_247 : decode cM_ok 247 = .ok (.aload_n 0, 1) := by decide +kernel
theorem dM_ok_248 : decode cM_ok 248 = .ok (.bipush 112, 2) := by decide +kernel
theorem dM_ok_250 : decode cM_ok 250 = .ok (.aload_n 0, 1) := by decide +kernel
theorem dM_ok_251 : decode cM_ok 251 = .ok (.getfield 59, 3) := by decide +kernel
theorem dM_ok_254 : decode cM_ok 254 = .ok (.iload 7, 2) := by decide +kernel
theorem dM_ok_256 : decode cM_ok 256 = .ok (.iaload, 1) := by decide +kernel
theorem dM_ok_257 : decode cM_ok 257 = .ok (.invokevirtual 145, 3) := by decide +kernel
theorem dM_ok_260 : decode cM_ok 260 = .ok (.aload_n 0, 1) := by decide +kernel
theorem dM_ok_261 : decode cM_ok 261 = .ok (.iload 7, 2) := by decide +kernel
theorem dM_ok_263 : decode cM_ok 263 = .ok (.invokevirtual 149, 3) := by decide +kernel
theorem dM_ok_266 : decode cM_ok 266 = .ok (.istore 7, 2) := by decide +kernel
theorem dM_ok_268 : decode cM_ok 268 = .ok (.goto (-26), 3) := by decide +kernel
theorem dM_ok_271 : decode cM_ok 271 = .ok (.aload_n 0, 1) := by decide +kernel
theorem dM_ok_272 : decode cM_ok 272 = .ok (.bipush 111, 2) := by decide +kernel
theorem dM_ok_274 : decode cM_ok 274 = .ok (.bipush 107, 2) := by decide +kernel
theorem dM_ok_276 : decode cM_ok 276 = .ok (.iconst 1, 1) := by decide +kernel
theorem dM_ok_277 : decode cM_ok 277 = .ok (.invokevirtual 135, 3) := by decide +kernel
theorem dM_ok_280 : decode cM_ok 280 = .ok (.return_, 1) := by decide +kernel
theorem dM_letters_0 : decode cM_letters 0 = .ok (.bipush 8, 2) := by decide +kernel
theorem dM_letters_2 : decode cM_letters 2 = .ok (.iload_n 1, 1) := by decide +kernel
theorem dM_letters_3 : decode cM_letters 3 = .ok (.imul, 1) := by decide +kernel
theorem dM_letters_4 : decode cM_letters 4 = .ok (.istore_n 2, 1) := by decide +kernel
theorem dM_letters_5 : decode cM_letters 5 = .ok (.iload_n 2, 1) := by decide +kernel
theorem dM_letters_6 : decode cM_letters 6 = .ok (.bipush 8, 2) := by decide +kernel
theorem dM_letters_8 : decode cM_letters 8 = .ok (.iload_n 1, 1) := by decide +kernel
theorem dM_letters_9 : decode cM_letters 9 = .ok (.imul, 1) := by decide +kernel
theorem dM_letters_10 : decode cM_letters 10 = .ok (.aload_n 0, 1) := by decide +kernel
theorem dM_letters_11 : decode cM_letters 11 = .ok (.getfield 16, 3) := by decide +kernel
theorem dM_letters_14 : decode cM_letters 14 = .ok (.iload_n 1, 1) := by decide +kernel
theorem dM_letters_15 : decode cM_letters 15 = .ok (.iaload, 1) := by decide +kernel
theorem dM_letters_16 : decode cM_letters 16 = .ok (.iadd, 1) := by decide +kernel
theorem dM_letters_17 : decode cM_letters 17 = .ok (.if_icmp .ge 100, 3) := by decide +kernel
theorem dM_letters_20 : decode cM_letters 20 = .ok (.aload_n 0, 1) := by decide +kernel
theorem dM_letters_21 : decode cM_letters 21 = .ok (.getfield 13, 3) := by decide +kernel
theorem dM_letters_24 : decode cM_letters 24 = .ok (.iload_n 2, 1) := by decide +kernel
theorem dM_letters_25 : decode cM_letters 25 = .ok (.iaload, 1) := by decide +kernel
theorem dM_letters_26 : decode cM_letters 26 = .ok (.istore_n 3, 1) := by decide +kernel
theorem dM_letters_27 : decode cM_letters 27 = .ok (.iload_n 3, 1) := by decide +kernel
theorem dM_letters_28 : decode cM_letters 28 = .ok (.bipush 38, 2) := by decide +kernel
theorem dM_letters_30 : decode cM_letters 30 = .ok (.if_icmp .ne 17, 3) := by decide +kernel
theorem dM_letters_33 : decode cM_letters 33 = .ok (.aload_n 0, 1) := by decide +kernel
theorem dM_letters_34 : decode cM_letters 34 = .ok (.bipush 97, 2) := by decide +kernel
theorem dM_letters_36 : decode cM_letters 36 = .ok (.bipush 109, 2) := by decide +kernel
theorem dM_letters_38 : decode cM_letters 38 = .ok (.bipush 112, 2) := by decide +kernel
theorem dM_letters_40 : decode cM_letters 40 = .ok (.iconst 0, 1) := by decide +kernel
theorem dM_letters_41 : decode cM_letters 41 = .ok (.invokevirtual 131, 3) := by decide +kernel
theorem dM_letters_44 : decode cM_letters 44 = .ok (.goto 67, 3) := by decide +kernel
theorem dM_letters_47 : decode cM_letters 47 = .ok (.iload_n 3, 1) := by decide +kernel
theorem dM_letters_48 : decode cM_letters 48 = .ok (.bipush 60, 2) := by decide +kernel
theorem dM_letters_50 : decode cM_letters 50 = .ok (.if_icmp .ne 16, 3) := by decide +kernel
theorem dM_letters_53 : decode cM_letters 53 = .ok (.aload_n 0, 1) := by decide +kernel
theorem dM_letters_54 : decode cM_letters 54 = .ok (.bipush 108, 2) := by decide +kernel
theorem dM_letters_56 : decode cM_letters 56 = .ok (.bipush 116, 2) := by decide +kernel
theorem dM_letters_58 : decode cM_letters 58 = .ok (.iconst 0, 1) := by decide +kernel
theorem dM_letters_59 : decode cM_letters 59 = .ok (.iconst 0, 1) := by decide +kernel
theorem dM_letters_60 : decode cM_letters 60 = .ok (.invokevirtual 131, 3) := by decide +kernel
theorem dM_letters_63 : decode cM_letters 63 = .ok (.goto 48, 3) := by decide +kernel
theorem dM_letters_66 : decode cM_letters 66 = .ok (.iload_n 3, 1) := by decide +kernel
theorem dM_letters_67 : decode cM_letters 67 = .ok (.bipush 62, 2) := by decide +kernel
theorem dM_letters_69 : decode cM_letters 69 = .ok (.if_icmp .ne 16, 3) := by decide +kernel
theorem dM_letters_72 : decode cM_letters 72 = .ok (.aload_n 0, 1) := by decide +kernel
theorem dM_letters_73 : decode cM_letters 73 = .ok (.bipush 103, 2) := by decide +kernel
theorem dM_letters_75 : decode cM_letters 75 = .ok (.bipush 116, 2) := by decide +kernel
theorem dM_letters_77 : decode cM_letters 77 = .ok (.iconst 0, 1) := by decide +kernel
theorem dM_letters_78 : decode cM_letters 78 = .ok (.iconst 0, 1) := by decide +kernel
theorem dM_letters_79 : decode cM_letters 79 = .ok (.invokevirtual 131, 3) := by decide +kernel
theorem dM_letters_82 : decode cM_letters 82 = .ok (.goto 29, 3) := by decide +kernel
theorem dM_letters_85 : decode cM_letters 85 = .ok (.iload_n 3, 1) := by decide +kernel
theorem dM_letters_86 : decode cM_letters 86 = .ok (.bipush 34, 2) := by decide +kernel
theorem dM_letters_88 : decode cM_letters 88 = .ok (.if_icmp .ne 18, 3) := by decide +kernel
theorem dM_letters_91 : decode cM_letters 91 = .ok (.aload_n 0, 1) := by decide +kernel
theorem dM_letters_92 : decode cM_letters 92 = .ok (.bipush 113, 2) := by decide +kernel
theorem dM_letters_94 : decode cM_letters 94 = .ok (.bipush 117, 2) := by decide +kernel
theorem dM_letters_96 : decode cM_letters 96 = .ok (.bipush 111, 2) := by decide +kernel
theorem dM_letters_98 : decode cM_letters 98 = .ok (.bipush 116, 2) := by decide +kernel
theorem dM_letters_100 : decode cM_letters 100 = .ok (.invokevirtual 131, 3) := by decide +kernel
theorem dM_letters_103 : decode cM_letters 103 = .ok (.goto 8, 3) := by decide +kernel
theorem dM_letters_106 : decode cM_letters 106 = .ok (.aload_n 0, 1) := by decide +kernel
theorem dM_letters_107 : decode cM_letters 107 = .ok (.iload_n 3, 1) := by decide +kernel
theorem dM_letters_108 : decode cM_letters 108 = .ok (.invokevirtual 125, 3) := by decide +kernel
theorem dM_letters_111 : decode cM_letters 111 = .ok (.iinc 2 1, 3) := by decide +kernel
theorem dM_letters_114 : decode cM_letters 114 = .ok (.goto (-109), 3) := by decide +kernel
theorem dM_letters_117 : decode cM_letters 117 = .ok (.return_, 1) := by decide +kernel
theorem dM_entity_0 : decode cM_entity 0 = .ok (.aload_n 0, 1) := by decide +kernel
theorem dM_entity_1 : decode cM_entity 1 = .ok (.bipush 38, 2) := by decide +kernel
theorem dM_entity_3 : decode cM_entity 3 = .ok (.invokevirtual 125, 3) := by decide +kernel
theorem dM_entity_6 : decode cM_entity 6 = .ok (.aload_n 0, 1) := by decide +kernel
theorem dM_entity_7 : decode cM_entity 7 = .ok (.iload_n 1, 1) := by decide +kernel
theorem dM_entity_8 : decode cM_entity 8 = .ok (.invokevirtual 125, 3) := by decide +kernel
theorem dM_entity_11 : decode cM_entity 11 = .ok (.aload_n 0, 1) := by decide +kernel
theorem dM_entity_12 : decode cM_entity 12 = .ok (.iload_n 2, 1) := by decide +kernel
theorem dM_entity_13 : decode cM_entity 13 = .ok (.invokevirtual 125, 3) := by decide +kernel
theorem dM_entity_16 : decode cM_entity 16 = .ok (.iload_n 3, 1) := by decide +kernel
theorem dM_entity_17 : decode cM_entity 17 = .ok (.ifCond .le 8, 3) := by decide +kernel
theorem dM_entity_20 : decode cM_entity 20 = .ok (.aload_n 0, 1) := by decide +kernel
theorem dM_entity_21 : decode cM_entity 21 = .ok (.iload_n 3, 1) := by decide +kernel
theorem dM_entity_22 : decode cM_entity 22 = .ok (.invokevirtual 125, 3) := by decide +kernel
theorem dM_entity_25 : decode cM_entity 25 = .ok (.iload 4, 2) := by decide +kernel
theorem dM_entity_27 : decode cM_entity 27 = .ok (.ifCond .le 9, 3) := by decide +kernel
theorem dM_entity_30 : decode cM_entity 30 = .ok (.aload_n 0, 1) := by decide +kernel
theorem dM_entity_31 : decode cM_entity 31 = .ok (.iload 4, 2) := by decide +kernel
theorem dM_entity_33 : decode cM_entity 33 = .ok (.invokevirtual 125, 3) := by decide +kernel
theorem dM_entity_36 : decode cM_entity 36 = .ok (.aload_n 0, 1) := by decide +kernel
theorem dM_entity_37 : decode cM_entity 37 = .ok (.bipush 59, 2) := by decide +kernel
theorem dM_entity_39 : decode cM_entity 39 = .ok (.invokevirtual 125, 3) := by decide +kernel
theorem dM_entity_42 : decode cM_entity 42 = .ok (.return_, 1) := by decide +kernel
theorem dM_element_0 : decode cM_element 0 = .ok (.aload_n 0, 1) := by decide +kernel
theorem dM_element_1 : decode cM_element 1 = .ok (.iload_n 1, 1) := by decide +kernel
theorem dM_element_2 : decode cM_element 2 = .ok (.iconst 0, 1) := by decide +kernel
theorem dM_element_3 : decode cM_element 3 = .ok (.iconst 0, 1) := by decide +kernel
theorem dM_element_4 : decode cM_element 4 = .ok (.invokevirtual 135, 3) := by decide +kernel
theorem dM_element_7 : decode cM_element 7 = .ok (.aload_n 0, 1) := by decide +kernel
theorem dM_element_8 : decode cM_element 8 = .ok (.iload_n 2, 1) := by decide +kernel
theorem dM_element_9 : decode cM_element 9 = .ok (.invokevirtual 139, 3) := by decide +kernel
theorem dM_element_12 : decode cM_element 12 = .ok (.aload_n 0, 1) := by decide +kernel
theorem dM_element_13 : decode cM_element 13 = .ok (.iload_n 1, 1) := by decide +kernel
theorem dM_element_14 : decode cM_element 14 = .ok (.iconst 0, 1) := by decide +kernel
theorem dM_element_15 : decode cM_element 15 = .ok (.iconst 1, 1) := by decide +kernel
theorem dM_element_16 : decode cM_element 16 = .ok (.invokevirtual 135, 3) := by decide +kernel
theorem dM_element_19 : decode cM_element 19 = .ok (.return_, 1) := by decide +kernel
theorem dM_grant_0 : decode cM_grant 0 = .ok (.aload_n 0, 1) := by decide +kernel
theorem dM_grant_1 : decode cM_grant 1 = .ok (.getfield 68, 3) := by decide +kernel
theorem dM_grant_4 : decode cM_grant 4 = .ok (.iload_n 1, 1) := by decide +kernel
theorem dM_grant_5 : decode cM_grant 5 = .ok (.iaload, 1) := by decide +kernel
theorem dM_grant_6 : decode cM_grant 6 = .ok (.istore_n 2, 1) := by decide +kernel
theorem dM_grant_7 : decode cM_grant 7 = .ok (.iload_n 2, 1) := by decide +kernel
theorem dM_grant_8 : decode cM_grant 8 = .ok (.ifCond .lt 23, 3) := by decide +kernel
theorem dM_grant_11 : decode cM_grant 11 = .ok (.aload_n 0, 1) := by decide +kernel
theorem dM_grant_12 : decode cM_grant 12 = .ok (.getfield 53, 3) := by decide +kernel
theorem dM_grant_15 : decode cM_grant 15 = .ok (.iload_n 2, 1) := by decide +kernel
theorem dM_grant_16 : decode cM_grant 16 = .ok (.iaload, 1) := by decide +kernel
theorem dM_grant_17 : decode cM_grant 17 = .ok (.iconst 2, 1) := by decide +kernel
theorem dM_grant_18 : decode cM_grant 18 = .ok (.if_icmp .eq 13, 3) := by decide +kernel
theorem dM_grant_21 : decode cM_grant 21 = .ok (.aload_n 0, 1) := by decide +kernel
theorem dM_grant_22 : decode cM_grant 22 = .ok (.getfield 68, 3) := by decide +kernel
theorem dM_grant_25 : decode cM_grant 25 = .ok (.iload_n 2, 1) := by decide +kernel
theorem dM_grant_26 : decode cM_grant 26 = .ok (.iaload, 1) := by decide +kernel
theorem dM_grant_27 : decode cM_grant 27 = .ok (.istore_n 2, 1) := by decide +kernel
theorem dM_grant_28 : decode cM_grant 28 = .ok (.goto (-21), 3) := by decide +kernel
theorem dM_grant_31 : decode cM_grant 31 = .ok (.iload_n 2, 1) := by decide +kernel
theorem dM_grant_32 : decode cM_grant 32 = .ok (.ireturn, 1) := by decide +kernel
theorem dM_logout_0 : decode cM_logout 0 = .ok (.aload_n 0, 1) := by decide +kernel
theorem dM_logout_1 : decode cM_logout 1 = .ok (.iload_n 1, 1) := by decide +kernel
theorem dM_logout_2 : decode cM_logout 2 = .ok (.iconst 0, 1) := by decide +kernel
theorem dM_logout_3 : decode cM_logout 3 = .ok (.aload_n 0, 1) := by decide +kernel
theorem dM_logout_4 : decode cM_logout 4 = .ok (.getfield 104, 3) := by decide +kernel
theorem dM_logout_7 : decode cM_logout 7 = .ok (.iconst 1, 1) := by decide +kernel
theorem dM_logout_8 : decode cM_logout 8 = .ok (.isub, 1) := by decide +kernel
theorem dM_logout_9 : decode cM_logout 9 = .ok (.invokestatic 90, 3) := by decide +kernel
theorem dM_logout_12 : decode cM_logout 12 = .ok (.ifCond .ne 7, 3) := by decide +kernel
theorem dM_logout_15 : decode cM_logout 15 = .ok (.iconst 1, 1) := by decide +kernel
theorem dM_logout_16 : decode cM_logout 16 = .ok (.goto 17, 3) := by decide +kernel
theorem dM_logout_19 : decode cM_logout 19 = .ok (.aload_n 0, 1) := by decide +kernel
theorem dM_logout_20 : decode cM_logout 20 = .ok (.getfield 50, 3) := by decide +kernel
theorem dM_logout_23 : decode cM_logout 23 = .ok (.iload_n 1, 1) := by decide +kernel
theorem dM_logout_24 : decode cM_logout 24 = .ok (.baload, 1) := by decide +kernel
theorem dM_logout_25 : decode cM_logout 25 = .ok (.ifCond .eq 7, 3) := by decide +kernel
theorem dM_logout_28 : decode cM_logout 28 = .ok (.iconst 2, 1) := by decide +kernel
theorem dM_logout_29 : decode cM_logout 29 = .ok (.goto 4, 3) := by decide +kernel
theorem dM_logout_32 : decode cM_logout 32 = .ok (.iconst 0, 1) := by decide +kernel
theorem dM_logout_33 : decode cM_logout 33 = .ok (.putfield 87, 3) := by decide +kernel
theorem dM_logout_36 : decode cM_logout 36 = .ok (.aload_n 0, 1) := by decide +kernel
theorem dM_logout_37 : decode cM_logout 37 = .ok (.getfield 87, 3) := by decide +kernel
theorem dM_logout_40 : decode cM_logout 40 = .ok (.ifCond .le 7, 3) := by decide +kernel
theorem dM_logout_43 : decode cM_logout 43 = .ok (.iconst 0, 1) := by decide +kernel
theorem dM_logout_44 : decode cM_logout 44 = .ok (.goto 8, 3) := by decide +kernel
theorem dM_logout_47 : decode cM_logout 47 = .ok (.aload_n 0, 1) := by decide +kernel
theorem dM_logout_48 : decode cM_logout 48 = .ok (.iload_n 1, 1) := by decide +kernel
theorem dM_logout_49 : decode cM_logout 49 = .ok (.invokevirtual 166, 3) := by decide +kernel
theorem dM_logout_52 : decode cM_logout 52 = .ok (.ireturn, 1) := by decide +kernel
theorem dM_ends_0 : decode cM_ends 0 = .ok (.aload_n 0, 1) := by decide +kernel
theorem dM_ends_1 : decode cM_ends 1 = .ok (.getfield 50, 3) := by decide +kernel
theorem dM_ends_4 : decode cM_ends 4 = .ok (.iload_n 1, 1) := by decide +kernel
theorem dM_ends_5 : decode cM_ends 5 = .ok (.iconst 1, 1) := by decide +kernel
theorem dM_ends_6 : decode cM_ends 6 = .ok (.bastore, 1) := by decide +kernel
theorem dM_ends_7 : decode cM_ends 7 = .ok (.iconst 0, 1) := by decide +kernel
theorem dM_ends_8 : decode cM_ends 8 = .ok (.istore_n 2, 1) := by decide +kernel
theorem dM_ends_9 : decode cM_ends 9 = .ok (.iconst 0, 1) := by decide +kernel
theorem dM_ends_10 : decode cM_ends 10 = .ok (.istore_n 3, 1) := by decide +kernel
theorem dM_ends_11 : decode cM_ends 11 = .ok (.iload_n 3, 1) := by decide +kernel
end
section
theorem dM_ends_12 : decode cM_ends 12 = .ok (.aload_n 0, 1) := by decide +kernel
theorem dM_ends_13 : decode cM_ends 13 = .ok (.getfield 111, 3) := by decide +kernel
theorem dM_ends_16 : decode cM_ends 16 = .ok (.if_icmp .ge 81, 3) := by decide +kernel
theorem dM_ends_19 : decode cM_ends 19 = .ok (.aload_n 0, 1) := by decide +kernel
theorem dM_ends_20 : decode cM_ends 20 = .ok (.getfield 56, 3) := by decide +kernel
theorem dM_ends_23 : decode cM_ends 23 = .ok (.iload_n 3, 1) := by decide +kernel
theorem dM_ends_24 : decode cM_ends 24 = .ok (.iaload, 1) := by decide +kernel
theorem dM_ends_25 : decode cM_ends 25 = .ok (.iload_n 1, 1) := by decide +kernel
theorem dM_ends_26 : decode cM_ends 26 = .ok (.if_icmp .ne 65, 3) := by decide +kernel
theorem dM_ends_29 : decode cM_ends 29 = .ok (.aload_n 0, 1) := by decide +kernel
theorem dM_ends_30 : decode cM_ends 30 = .ok (.getfield 53, 3) := by decide +kernel
theorem dM_ends_33 : decode cM_ends 33 = .ok (.iload_n 3, 1) := by decide +kernel
theorem dM_ends_34 : decode cM_ends 34 = .ok (.iaload, 1) := by decide +kernel
theorem dM_ends_35 : decode cM_ends 35 = .ok (.ifCond .ne 56, 3) := by decide +kernel
theorem dM_ends_38 : decode cM_ends 38 = .ok (.aload_n 0, 1) := by decide +kernel
theorem dM_ends_39 : decode cM_ends 39 = .ok (.getfield 32, 3) := by decide +kernel
theorem dM_ends_42 : decode cM_ends 42 = .ok (.aload_n 0, 1) := by decide +kernel
theorem dM_ends_43 : decode cM_ends 43 = .ok (.getfield 59, 3) := by decide +kernel
theorem dM_ends_46 : decode cM_ends 46 = .ok (.iload_n 3, 1) := by decide +kernel
theorem dM_ends_47 : decode cM_ends 47 = .ok (.iaload, 1) := by decide +kernel
theorem dM_ends_48 : decode cM_ends 48 = .ok (.iaload, 1) := by decide +kernel
theorem dM_ends_49 : decode cM_ends 49 = .ok (.iconst 4, 1) := by decide +kernel
theorem dM_ends_50 : decode cM_ends 50 = .ok (.idiv, 1) := by decide +kernel
theorem dM_ends_51 : decode cM_ends 51 = .ok (.iconst 2, 1) := by decide +kernel
theorem dM_ends_52 : decode cM_ends 52 = .ok (.irem, 1) := by decide +kernel
theorem dM_ends_53 : decode cM_ends 53 = .ok (.iconst 1, 1) := by decide +kernel
theorem dM_ends_54 : decode cM_ends 54 = .ok (.if_icmp .ne 37, 3) := by decide +kernel
theorem dM_ends_57 : decode cM_ends 57 = .ok (.aload_n 0, 1) := by decide +kernel
theorem dM_ends_58 : decode cM_ends 58 = .ok (.getfield 74, 3) := by decide +kernel
theorem dM_ends_61 : decode cM_ends 61 = .ok (.aload_n 0, 1) := by decide +kernel
theorem dM_ends_62 : decode cM_ends 62 = .ok (.getfield 163, 3) := by decide +kernel
theorem dM_ends_65 : decode cM_ends 65 = .ok (.sipush 1000, 3) := by decide +kernel
theorem dM_ends_68 : decode cM_ends 68 = .ok (.aload_n 0, 1) := by decide +kernel
theorem dM_ends_69 : decode cM_ends 69 = .ok (.getfield 59, 3) := by decide +kernel
theorem dM_ends_72 : decode cM_ends 72 = .ok (.iload_n 3, 1) := by decide +kernel
theorem dM_ends_73 : decode cM_ends 73 = .ok (.iaload, 1) := by decide +kernel
theorem dM_ends_74 : decode cM_ends 74 = .ok (.imul, 1) := by decide +kernel
theorem dM_ends_75 : decode cM_ends 75 = .ok (.iload_n 3, 1) := by decide +kernel
theorem dM_ends_76 : decode cM_ends 76 = .ok (.iadd, 1) := by decide +kernel
theorem dM_ends_77 : decode cM_ends 77 = .ok (.iastore, 1) := by decide +kernel
theorem dM_ends_78 : decode cM_ends 78 = .ok (.aload_n 0, 1) := by decide +kernel
theorem dM_ends_79 : decode cM_ends 79 = .ok (.dup, 1) := by decide +kernel
theorem dM_ends_80 : decode cM_ends 80 = .ok (.getfield 163, 3) := by decide +kernel
theorem dM_ends_83 : decode cM_ends 83 = .ok (.iconst 1, 1) := by decide +kernel
theorem dM_ends_84 : decode cM_ends 84 = .ok (.iadd, 1) := by decide +kernel
theorem dM_ends_85 : decode cM_ends 85 = .ok (.putfield 163, 3) := by decide +kernel
theorem dM_ends_88 : decode cM_ends 88 = .ok (.iinc 2 1, 3) := by decide +kernel
theorem dM_ends_91 : decode cM_ends 91 = .ok (.iinc 3 1, 3) := by decide +kernel
theorem dM_ends_94 : decode cM_ends 94 = .ok (.goto (-83), 3) := by decide +kernel
theorem dM_ends_97 : decode cM_ends 97 = .ok (.iload_n 2, 1) := by decide +kernel
theorem dM_ends_98 : decode cM_ends 98 = .ok (.ireturn, 1) := by decide +kernel
theorem dM_tick_0 : decode cM_tick 0 = .ok (.aload_n 0, 1) := by decide +kernel
theorem dM_tick_1 : decode cM_tick 1 = .ok (.iload_n 1, 1) := by decide +kernel
theorem dM_tick_2 : decode cM_tick 2 = .ok (.iconst 1, 1) := by decide +kernel
theorem dM_tick_3 : decode cM_tick 3 = .ok (.sipush 200, 3) := by decide +kernel
theorem dM_tick_6 : decode cM_tick 6 = .ok (.invokestatic 90, 3) := by decide +kernel
theorem dM_tick_9 : decode cM_tick 9 = .ok (.ifCond .eq 7, 3) := by decide +kernel
theorem dM_tick_12 : decode cM_tick 12 = .ok (.iconst 0, 1) := by decide +kernel
theorem dM_tick_13 : decode cM_tick 13 = .ok (.goto 4, 3) := by decide +kernel
theorem dM_tick_16 : decode cM_tick 16 = .ok (.iconst 1, 1) := by decide +kernel
theorem dM_tick_17 : decode cM_tick 17 = .ok (.putfield 87, 3) := by decide +kernel
theorem dM_tick_20 : decode cM_tick 20 = .ok (.aload_n 0, 1) := by decide +kernel
theorem dM_tick_21 : decode cM_tick 21 = .ok (.getfield 87, 3) := by decide +kernel
theorem dM_tick_24 : decode cM_tick 24 = .ok (.ifCond .le 5, 3) := by decide +kernel
theorem dM_tick_27 : decode cM_tick 27 = .ok (.iconst 0, 1) := by decide +kernel
theorem dM_tick_28 : decode cM_tick 28 = .ok (.ireturn, 1) := by decide +kernel
theorem dM_tick_29 : decode cM_tick 29 = .ok (.aload_n 0, 1) := by decide +kernel
theorem dM_tick_30 : decode cM_tick 30 = .ok (.dup, 1) := by decide +kernel
theorem dM_tick_31 : decode cM_tick 31 = .ok (.getfield 97, 3) := by decide +kernel
theorem dM_tick_34 : decode cM_tick 34 = .ok (.iload_n 1, 1) := by decide +kernel
theorem dM_tick_35 : decode cM_tick 35 = .ok (.iadd, 1) := by decide +kernel
theorem dM_tick_36 : decode cM_tick 36 = .ok (.putfield 97, 3) := by decide +kernel
theorem dM_tick_39 : decode cM_tick 39 = .ok (.iconst 0, 1) := by decide +kernel
theorem dM_tick_40 : decode cM_tick 40 = .ok (.istore_n 2, 1) := by decide +kernel
theorem dM_tick_41 : decode cM_tick 41 = .ok (.iload_n 2, 1) := by decide +kernel
theorem dM_tick_42 : decode cM_tick 42 = .ok (.aload_n 0, 1) := by decide +kernel
theorem dM_tick_43 : decode cM_tick 43 = .ok (.getfield 104, 3) := by decide +kernel
theorem dM_tick_46 : decode cM_tick 46 = .ok (.if_icmp .ge 108, 3) := by decide +kernel
theorem dM_tick_49 : decode cM_tick 49 = .ok (.aload_n 0, 1) := by decide +kernel
theorem dM_tick_50 : decode cM_tick 50 = .ok (.getfield 97, 3) := by decide +kernel
theorem dM_tick_53 : decode cM_tick 53 = .ok (.aload_n 0, 1) := by decide +kernel
theorem dM_tick_54 : decode cM_tick 54 = .ok (.getfield 44, 3) := by decide +kernel
theorem dM_tick_57 : decode cM_tick 57 = .ok (.iload_n 2, 1) := by decide +kernel
theorem dM_tick_58 : decode cM_tick 58 = .ok (.iaload, 1) := by decide +kernel
theorem dM_tick_59 : decode cM_tick 59 = .ok (.isub, 1) := by decide +kernel
theorem dM_tick_60 : decode cM_tick 60 = .ok (.aload_n 0, 1) := by decide +kernel
theorem dM_tick_61 : decode cM_tick 61 = .ok (.getfield 47, 3) := by decide +kernel
theorem dM_tick_64 : decode cM_tick 64 = .ok (.iload_n 2, 1) := by decide +kernel
theorem dM_tick_65 : decode cM_tick 65 = .ok (.baload, 1) := by decide +kernel
theorem dM_tick_66 : decode cM_tick 66 = .ok (.ifCond .eq 9, 3) := by decide +kernel
theorem dM_tick_69 : decode cM_tick 69 = .ok (.sipush 150, 3) := by decide +kernel
theorem dM_tick_72 : decode cM_tick 72 = .ok (.goto 5, 3) := by decide +kernel
theorem dM_tick_75 : decode cM_tick 75 = .ok (.bipush 30, 2) := by decide +kernel
theorem dM_tick_77 : decode cM_tick 77 = .ok (.if_icmp .le 7, 3) := by decide +kernel
theorem dM_tick_80 : decode cM_tick 80 = .ok (.iconst 1, 1) := by decide +kernel
theorem dM_tick_81 : decode cM_tick 81 = .ok (.goto 4, 3) := by decide +kernel
theorem dM_tick_84 : decode cM_tick 84 = .ok (.iconst 0, 1) := by decide +kernel
theorem dM_tick_85 : decode cM_tick 85 = .ok (.istore_n 3, 1) := by decide +kernel
theorem dM_tick_86 : decode cM_tick 86 = .ok (.aload_n 0, 1) := by decide +kernel
theorem dM_tick_87 : decode cM_tick 87 = .ok (.getfield 97, 3) := by decide +kernel
theorem dM_tick_90 : decode cM_tick 90 = .ok (.aload_n 0, 1) := by decide +kernel
theorem dM_tick_91 : decode cM_tick 91 = .ok (.getfield 41, 3) := by decide +kernel
theorem dM_tick_94 : decode cM_tick 94 = .ok (.iload_n 2, 1) := by decide +kernel
theorem dM_tick_95 : decode cM_tick 95 = .ok (.iaload, 1) := by decide +kernel
theorem dM_tick_96 : decode cM_tick 96 = .ok (.isub, 1) := by decide +kernel
theorem dM_tick_97 : decode cM_tick 97 = .ok (.aload_n 0, 1) := by decide +kernel
theorem dM_tick_98 : decode cM_tick 98 = .ok (.getfield 47, 3) := by decide +kernel
theorem dM_tick_101 : decode cM_tick 101 = .ok (.iload_n 2, 1) := by decide +kernel
theorem dM_tick_102 : decode cM_tick 102 = .ok (.baload, 1) := by decide +kernel
theorem dM_tick_103 : decode cM_tick 103 = .ok (.ifCond .eq 9, 3) := by decide +kernel
theorem dM_tick_106 : decode cM_tick 106 = .ok (.sipush 400, 3) := by decide +kernel
theorem dM_tick_109 : decode cM_tick 109 = .ok (.goto 5, 3) := by decide +kernel
theorem dM_tick_112 : decode cM_tick 112 = .ok (.bipush 120, 2) := by decide +kernel
theorem dM_tick_114 : decode cM_tick 114 = .ok (.if_icmp .le 7, 3) := by decide +kernel
theorem dM_tick_117 : decode cM_tick 117 = .ok (.iconst 1, 1) := by decide +kernel
theorem dM_tick_118 : decode cM_tick 118 = .ok (.goto 4, 3) := by decide +kernel
theorem dM_tick_121 : decode cM_tick 121 = .ok (.iconst 0, 1) := by decide +kernel
theorem dM_tick_122 : decode cM_tick 122 = .ok (.istore 4, 2) := by decide +kernel
theorem dM_tick_124 : decode cM_tick 124 = .ok (.aload_n 0, 1) := by decide +kernel
theorem dM_tick_125 : decode cM_tick 125 = .ok (.getfield 50, 3) := by decide +kernel
theorem dM_tick_128 : decode cM_tick 128 = .ok (.iload_n 2, 1) := by decide +kernel
theorem dM_tick_129 : decode cM_tick 129 = .ok (.baload, 1) := by decide +kernel
theorem dM_tick_130 : decode cM_tick 130 = .ok (.ifCond .ne 18, 3) := by decide +kernel
theorem dM_tick_133 : decode cM_tick 133 = .ok (.iload_n 3, 1) := by decide +kernel
theorem dM_tick_134 : decode cM_tick 134 = .ok (.ifCond .ne 8, 3) := by decide +kernel
theorem dM_tick_137 : decode cM_tick 137 = .ok (.iload 4, 2) := by decide +kernel
theorem dM_tick_139 : decode cM_tick 139 = .ok (.ifCond .eq 9, 3) := by decide +kernel
theorem dM_tick_142 : decode cM_tick 142 = .ok (.aload_n 0, 1) := by decide +kernel
theorem dM_tick_143 : decode cM_tick 143 = .ok (.iload_n 2, 1) := by decide +kernel
theorem dM_tick_144 : decode cM_tick 144 = .ok (.invokevirtual 166, 3) := by decide +kernel
theorem dM_tick_147 : decode cM_tick 147 = .ok (.pop, 1) := by decide +kernel
theorem dM_tick_148 : decode cM_tick 148 = .ok (.iinc 2 1, 3) := by decide +kernel
theorem dM_tick_151 : decode cM_tick 151 = .ok (.goto (-110), 3) := by decide +kernel
theorem dM_tick_154 : decode cM_tick 154 = .ok (.aload_n 0, 1) := by decide +kernel
theorem dM_tick_155 : decode cM_tick 155 = .ok (.getfield 97, 3) := by decide +kernel
theorem dM_tick_158 : decode cM_tick 158 = .ok (.ireturn, 1) := by decide +kernel
theorem dM_document_0 : decode cM_document 0 = .ok (.aload_n 0, 1) := by decide +kernel
theorem dM_document_1 : decode cM_document 1 = .ok (.iconst 0, 1) := by decide +kernel
theorem dM_document_2 : decode cM_document 2 = .ok (.putfield 87, 3) := by decide +kernel
theorem dM_document_5 : decode cM_document 5 = .ok (.iload_n 1, 1) := by decide +kernel
theorem dM_document_6 : decode cM_document 6 = .ok (.iconst (-1), 1) := by decide +kernel
theorem dM_document_7 : decode cM_document 7 = .ok (.if_icmp .ne 8, 3) := by decide +kernel
theorem dM_document_10 : decode cM_document 10 = .ok (.aload_n 0, 1) := by decide +kernel
theorem dM_document_11 : decode cM_document 11 = .ok (.getfield 80, 3) := by decide +kernel
theorem dM_document_14 : decode cM_document 14 = .ok (.ireturn, 1) := by decide +kernel
theorem dM_document_15 : decode cM_document 15 = .ok (.iload_n 1, 1) := by decide +kernel
theorem dM_document_16 : decode cM_document 16 = .ok (.ifCond .lt 20, 3) := by decide +kernel
theorem dM_document_19 : decode cM_document 19 = .ok (.iload_n 1, 1) := by decide +kernel
theorem dM_document_20 : decode cM_document 20 = .ok (.aload_n 0, 1) := by decide +kernel
theorem dM_document_21 : decode cM_document 21 = .ok (.getfield 80, 3) := by decide +kernel
theorem dM_document_24 : decode cM_document 24 = .ok (.if_icmp .ge 12, 3) := by decide +kernel
theorem dM_document_27 : decode cM_document 27 = .ok (.aload_n 0, 1) := by decide +kernel
theorem dM_document_28 : decode cM_document 28 = .ok (.getfield 77, 3) := by decide +kernel
theorem dM_document_31 : decode cM_document 31 = .ok (.iload_n 1, 1) := by decide +kernel
theorem dM_document_32 : decode cM_document 32 = .ok (.iaload, 1) := by decide +kernel
theorem dM_document_33 : decode cM_document 33 = .ok (.goto 4, 3) := by decide +kernel
theorem dM_document_36 : decode cM_document 36 = .ok (.iconst (-1), 1) := by decide +kernel
theorem dM_document_37 : decode cM_document 37 = .ok (.ireturn, 1) := by decide +kernel
theorem dM_session_0 : decode cM_session 0 = .ok (.aload_n 0, 1) := by decide +kernel
theorem dM_session_1 : decode cM_session 1 = .ok (.iconst 0, 1) := by decide +kernel
theorem dM_session_2 : decode cM_session 2 = .ok (.putfield 87, 3) := by decide +kernel
theorem dM_session_5 : decode cM_session 5 = .ok (.iload_n 1, 1) := by decide +kernel
theorem dM_session_6 : decode cM_session 6 = .ok (.iconst 0, 1) := by decide +kernel
theorem dM_session_7 : decode cM_session 7 = .ok (.aload_n 0, 1) := by decide +kernel
theorem dM_session_8 : decode cM_session 8 = .ok (.getfield 104, 3) := by decide +kernel
theorem dM_session_11 : decode cM_session 11 = .ok (.iconst 1, 1) := by decide +kernel
theorem dM_session_12 : decode cM_session 12 = .ok (.isub, 1) := by decide +kernel
theorem dM_session_13 : decode cM_session 13 = .ok (.invokestatic 90, 3) := by decide +kernel
theorem dM_session_16 : decode cM_session 16 = .ok (.ifCond .ne 5, 3) := by decide +kernel
theorem dM_session_19 : decode cM_session 19 = .ok (.iconst (-1), 1) := by decide +kernel
theorem dM_session_20 : decode cM_session 20 = .ok (.ireturn, 1) := by decide +kernel
theorem dM_session_21 : decode cM_session 21 = .ok (.iload_n 2, 1) := by decide +kernel
theorem dM_session_22 : decode cM_session 22 = .ok (.tableswitch 85 0 4 #[34, 41, 56, 63, 70], 34) := by decide +kernel
theorem dM_session_56 : decode cM_session 56 = .ok (.aload_n 0, 1) := by decide +kernel
theorem dM_session_57 : decode cM_session 57 = .ok (.getfield 38, 3) := by decide +kernel
theorem dM_session_60 : decode cM_session 60 = .ok (.iload_n 1, 1) := by decide +kernel
theorem dM_session_61 : decode cM_session 61 = .ok (.iaload, 1) := by decide +kernel
theorem dM_session_62 : decode cM_session 62 = .ok (.ireturn, 1) := by decide +kernel
theorem dM_session_63 : decode cM_session 63 = .ok (.aload_n 0, 1) := by decide +kernel
theorem dM_session_64 : decode cM_session 64 = .ok (.getfield 50, 3) := by decide +kernel
theorem dM_session_67 : decode cM_session 67 = .ok (.iload_n 1, 1) := by decide +kernel
theorem dM_session_68 : decode cM_session 68 = .ok (.baload, 1) := by decide +kernel
theorem dM_session_69 : decode cM_session 69 = .ok (.ifCond .eq 7, 3) := by decide +kernel
theorem dM_session_72 : decode cM_session 72 = .ok (.iconst 0, 1) := by decide +kernel
theorem dM_session_73 : decode cM_session 73 = .ok (.goto 4, 3) := by decide +kernel
theorem dM_session_76 : decode cM_session 76 = .ok (.iconst 1, 1) := by decide +kernel
theorem dM_session_77 : decode cM_session 77 = .ok (.ireturn, 1) := by decide +kernel
theorem dM_session_78 : decode cM_session 78 = .ok (.aload_n 0, 1) := by decide +kernel
theorem dM_session_79 : decode cM_session 79 = .ok (.getfield 41, 3) := by decide +kernel
theorem dM_session_82 : decode cM_session 82 = .ok (.iload_n 1, 1) := by decide +kernel
theorem dM_session_83 : decode cM_session 83 = .ok (.iaload, 1) := by decide +kernel
theorem dM_session_84 : decode cM_session 84 = .ok (.ireturn, 1) := by decide +kernel
theorem dM_session_85 : decode cM_session 85 = .ok (.aload_n 0, 1) := by decide +kernel
theorem dM_session_86 : decode cM_session 86 = .ok (.getfield 44, 3) := by decide +kernel
theorem dM_session_89 : decode cM_session 89 = .ok (.iload_n 1, 1) := by decide +kernel
theorem dM_session_90 : decode cM_session 90 = .ok (.iaload, 1) := by decide +kernel
theorem dM_session_91 : decode cM_session 91 = .ok (.ireturn, 1) := by decide +kernel
theorem dM_session_92 : decode cM_session 92 = .ok (.aload_n 0, 1) := by decide +kernel
theorem dM_session_93 : decode cM_session 93 = .ok (.getfield 47, 3) := by decide +kernel
theorem dM_session_96 : decode cM_session 96 = .ok (.iload_n 1, 1) := by decide +kernel
theorem dM_session_97 : decode cM_session 97 = .ok (.baload, 1) := by decide +kernel
theorem dM_session_98 : decode cM_session 98 = .ok (.ifCond .eq 7, 3) := by decide +kernel
theorem dM_session_101 : decode cM_session 101 = .ok (.iconst 1, 1) := by decide +kernel
theorem dM_session_102 : decode cM_session 102 = .ok (.goto 4, 3) := by decide +kernel
theorem dM_session_105 : decode cM_session 105 = .ok (.iconst 0, 1) := by decide +kernel
theorem dM_session_106 : decode cM_session 106 = .ok (.ireturn, 1) := by decide +kernel
theorem dM_session_107 : decode cM_session 107 = .ok (.iconst (-1), 1) := by decide +kernel
theorem dM_session_108 : decode cM_session 108 = .ok (.ireturn, 1) := by decide +kernel
theorem dM_about_0 : decode cM_about 0 = .ok (.aload_n 0, 1) := by decide +kernel
theorem dM_about_1 : decode cM_about 1 = .ok (.iconst 0, 1) := by decide +kernel
theorem dM_about_2 : decode cM_about 2 = .ok (.putfield 87, 3) := by decide +kernel
theorem dM_about_5 : decode cM_about 5 = .ok (.iload_n 1, 1) := by decide +kernel
theorem dM_about_6 : decode cM_about 6 = .ok (.iconst 0, 1) := by decide +kernel
theorem dM_about_7 : decode cM_about 7 = .ok (.aload_n 0, 1) := by decide +kernel
theorem dM_about_8 : decode cM_about 8 = .ok (.getfield 111, 3) := by decide +kernel
theorem dM_about_11 : decode cM_about 11 = .ok (.iconst 1, 1) := by decide +kernel
theorem dM_about_12 : decode cM_about 12 = .ok (.isub, 1) := by decide +kernel
theorem dM_about_13 : decode cM_about 13 = .ok (.invokestatic 90, 3) := by decide +kernel
theorem dM_about_16 : decode cM_about 16 = .ok (.ifCond .ne 5, 3) := by decide +kernel
theorem dM_about_19 : decode cM_about 19 = .ok (.iconst (-1), 1) := by decide +kernel
theorem dM_about_20 : decode cM_about 20 = .ok (.ireturn, 1) := by decide +kernel
theorem dM_about_21 : decode cM_about 21 = .ok (.aload_n 0, 1) := by decide +kernel
theorem dM_about_22 : decode cM_about 22 = .ok (.getfield 53, 3) := by decide +kernel
theorem dM_about_25 : decode cM_about 25 = .ok (.iload_n 1, 1) := by decide +kernel
theorem dM_about_26 : decode cM_about 26 = .ok (.iaload, 1) := by decide +kernel
theorem dM_about_27 : decode cM_about 27 = .ok (.iconst 2, 1) := by decide +kernel
theorem dM_about_28 : decode cM_about 28 = .ok (.if_icmp .ne 7, 3) := by decide +kernel
theorem dM_about_31 : decode cM_about 31 = .ok (.iconst 1, 1) := by decide +kernel
theorem dM_about_32 : decode cM_about 32 = .ok (.goto 4, 3) := by decide +kernel
theorem dM_about_35 : decode cM_about 35 = .ok (.iconst 0, 1) := by decide +kernel
theorem dM_about_36 : decode cM_about 36 = .ok (.istore_n 3, 1) := by decide +kernel
theorem dM_about_37 : decode cM_about 37 = .ok (.aload_n 0, 1) := by decide +kernel
theorem dM_about_38 : decode cM_about 38 = .ok (.iload_n 1, 1) := by decide +kernel
theorem dM_about_39 : decode cM_about 39 = .ok (.invokevirtual 149, 3) := by decide +kernel
theorem dM_about_42 : decode cM_about 42 = .ok (.istore 4, 2) := by decide +kernel
theorem dM_about_44 : decode cM_about 44 = .ok (.iload 4, 2) := by decide +kernel
theorem dM_about_46 : decode cM_about 46 = .ok (.ifCond .lt 17, 3) := by decide +kernel
theorem dM_about_49 : decode cM_about 49 = .ok (.iinc 3 1, 3) := by decide +kernel
theorem dM_about_52 : decode cM_about 52 = .ok (.aload_n 0, 1) := by decide +kernel
theorem dM_about_53 : decode cM_about 53 = .ok (.iload 4, 2) := by decide +kernel
theorem dM_about_55 : decode cM_about 55 = .ok (.invokevirtual 149, 3) := by decide +kernel
theorem dM_about_58 : decode cM_about 58 = .ok (.istore 4, 2) := by decide +kernel
theorem dM_about_60 : decode cM_about 60 = .ok (.goto (-16), 3) := by decide +kernel
theorem dM_about_63 : decode cM_about 63 = .ok (.iload_n 2, 1) := by decide +kernel
theorem dM_about_64 : decode cM_about 64 = .ok (.tableswitch 114 0 7 #[48, 55, 69, 76, 83, 90, 105, 112], 48) := by decide +kernel
theorem dM_about_112 : decode cM_about 112 = .ok (.aload_n 0, 1) := by decide +kernel
theorem dM_about_113 : decode cM_about 113 = .ok (.getfield 53, 3) := by decide +kernel
theorem dM_about_116 : decode cM_about 116 = .ok (.iload_n 1, 1) := by decide +kernel
theorem dM_about_117 : decode cM_about 117 = .ok (.iaload, 1) := by decide +kernel
theorem dM_about_118 : decode cM_about 118 = .ok (.ireturn, 1) := by decide +kernel
theorem dM_about_119 : decode cM_about 119 = .ok (.aload_n 0, 1) := by decide +kernel
theorem dM_about_120 : decode cM_about 120 = .ok (.iload_n 1, 1) := by decide +kernel
theorem dM_about_121 : decode cM_about 121 = .ok (.invokevirtual 122, 3) := by decide +kernel
theorem dM_about_124 : decode cM_about 124 = .ok (.ifCond .eq 7, 3) := by decide +kernel
theorem dM_about_127 : decode cM_about 127 = .ok (.iconst 1, 1) := by decide +kernel
theorem dM_about_128 : decode cM_about 128 = .ok (.goto 4, 3) := by decide +kernel
theorem dM_about_131 : decode cM_about 131 = .ok (.iconst 0, 1) := by decide +kernel
theorem dM_about_132 : decode cM_about 132 = .ok (.ireturn, 1) := by decide +kernel
theorem dM_about_133 : decode cM_about 133 = .ok (.aload_n 0, 1) := by decide +kernel
theorem dM_about_134 : decode cM_about 134 = .ok (.getfield 56, 3) := by decide +kernel
theorem dM_about_137 : decode cM_about 137 = .ok (.iload_n 1, 1) := by decide +kernel
theorem dM_about_138 : decode cM_about 138 = .ok (.iaload, 1) := by decide +kernel
theorem dM_about_139 : decode cM_about 139 = .ok (.ireturn, 1) := by decide +kernel
theorem dM_about_140 : decode cM_about 140 = .ok (.aload_n 0, 1) := by decide +kernel
theorem dM_about_141 : decode cM_about 141 = .ok (.getfield 59, 3) := by decide +kernel
theorem dM_about_144 : decode cM_about 144 = .ok (.iload_n 1, 1) := by decide +kernel
theorem dM_about_145 : decode cM_about 145 = .ok (.iaload, 1) := by decide +kernel
theorem dM_about_146 : decode cM_about 146 = .ok (.ireturn, 1) := by decide +kernel
theorem dM_about_147 : decode cM_about 147 = .ok (.aload_n 0, 1) := by decide +kernel
theorem dM_about_148 : decode cM_about 148 = .ok (.getfield 62, 3) := by decide +kernel
theorem dM_about_151 : decode cM_about 151 = .ok (.iload_n 1, 1) := by decide +kernel
theorem dM_about_152 : decode cM_about 152 = .ok (.iaload, 1) := by decide +kernel
theorem dM_about_153 : decode cM_about 153 = .ok (.ireturn, 1) := by decide +kernel
theorem dM_about_154 : decode cM_about 154 = .ok (.aload_n 0, 1) := by decide +kernel
theorem dM_about_155 : decode cM_about 155 = .ok (.getfield 65, 3) := by decide +kernel
theorem dM_about_158 : decode cM_about 158 = .ok (.iload_n 1, 1) := by decide +kernel
theorem dM_about_159 : decode cM_about 159 = .ok (.baload, 1) := by decide +kernel
theorem dM_about_160 : decode cM_about 160 = .ok (.ifCond .eq 7, 3) := by decide +kernel
theorem dM_about_163 : decode cM_about 163 = .ok (.iconst 1, 1) := by decide +kernel
theorem dM_about_164 : decode cM_about 164 = .ok (.goto 4, 3) := by decide +kernel
theorem dM_about_167 : decode cM_about 167 = .ok (.iconst 0, 1) := by decide +kernel
theorem dM_about_168 : decode cM_about 168 = .ok (.ireturn, 1) := by decide +kernel
theorem dM_about_169 : decode cM_about 169 = .ok (.aload_n 0, 1) := by decide +kernel
theorem dM_about_170 : decode cM_about 170 = .ok (.getfield 68, 3) := by decide +kernel
theorem dM_about_173 : decode cM_about 173 = .ok (.iload_n 1, 1) := by decide +kernel
theorem dM_about_174 : decode cM_about 174 = .ok (.iaload, 1) := by decide +kernel
theorem dM_about_175 : decode cM_about 175 = .ok (.ireturn, 1) := by decide +kernel
theorem dM_about_176 : decode cM_about 176 = .ok (.iload_n 3, 1) := by decide +kernel
theorem dM_about_177 : decode cM_about 177 = .ok (.ireturn, 1) := by decide +kernel
theorem dM_about_178 : decode cM_about 178 = .ok (.iconst (-1), 1) := by decide +kernel
theorem dM_about_179 : decode cM_about 179 = .ok (.ireturn, 1) := by decide +kernel
theorem dM_message_0 : decode cM_message 0 = .ok (.aload_n 0, 1) := by decide +kernel
theorem dM_message_1 : decode cM_message 1 = .ok (.iconst 0, 1) := by decide +kernel
theorem dM_message_2 : decode cM_message 2 = .ok (.putfield 87, 3) := by decide +kernel
theorem dM_message_5 : decode cM_message 5 = .ok (.iload_n 1, 1) := by decide +kernel
theorem dM_message_6 : decode cM_message 6 = .ok (.ifCond .lt 20, 3) := by decide +kernel
theorem dM_message_9 : decode cM_message 9 = .ok (.iload_n 1, 1) := by decide +kernel
theorem dM_message_10 : decode cM_message 10 = .ok (.aload_n 0, 1) := by decide +kernel
theorem dM_message_11 : decode cM_message 11 = .ok (.getfield 163, 3) := by decide +kernel
theorem dM_message_14 : decode cM_message 14 = .ok (.if_icmp .ge 12, 3) := by decide +kernel
theorem dM_message_17 : decode cM_message 17 = .ok (.aload_n 0, 1) := by decide +kernel
theorem dM_message_18 : decode cM_message 18 = .ok (.getfield 74, 3) := by decide +kernel
theorem dM_message_21 : decode cM_message 21 = .ok (.iload_n 1, 1) := by decide +kernel
theorem dM_message_22 : decode cM_message 22 = .ok (.iaload, 1) := by decide +kernel
theorem dM_message_23 : decode cM_message 23 = .ok (.goto 4, 3) := by decide +kernel
theorem dM_message_26 : decode cM_message 26 = .ok (.iconst (-1), 1) := by decide +kernel
theorem dM_message_27 : decode cM_message 27 = .ok (.ireturn, 1) := by decide +kernel
theorem dM_house_0 : decode cM_house 0 = .ok (.aload_n 0, 1) := by decide +kernel
theorem dM_house_1 : decode cM_house 1 = .ok (.iconst 0, 1) := by decide +kernel
theorem dM_house_2 : decode cM_house 2 = .ok (.putfield 87, 3) := by decide +kernel
theorem dM_house_5 : decode cM_house 5 = .ok (.iload_n 1, 1) := by decide +kernel
theorem dM_house_6 : decode cM_house 6 = .ok (.iconst 5, 1) := by decide +kernel
theorem dM_house_7 : decode cM_house 7 = .ok (.bipush 8, 2) := by decide +kernel
theorem dM_house_9 : decode cM_house 9 = .ok (.invokestatic 90, 3) := by decide +kernel
theorem dM_house_12 : decode cM_house 12 = .ok (.ifCond .eq 11, 3) := by decide +kernel
theorem dM_house_15 : decode cM_house 15 = .ok (.aload_n 0, 1) := by decide +kernel
theorem dM_house_16 : decode cM_house 16 = .ok (.iload_n 1, 1) := by decide +kernel
theorem dM_house_17 : decode cM_house 17 = .ok (.iconst 5, 1) := by decide +kernel
theorem dM_house_18 : decode cM_house 18 = .ok (.isub, 1) := by decide +kernel
theorem dM_house_19 : decode cM_house 19 = .ok (.invokevirtual 100, 3) := by decide +kernel
theorem dM_house_22 : decode cM_house 22 = .ok (.ireturn, 1) := by decide +kernel
theorem dM_house_23 : decode cM_house 23 = .ok (.iload_n 1, 1) := by decide +kernel
theorem dM_house_24 : decode cM_house 24 = .ok (.tableswitch 61 0 4 #[36, 41, 46, 51, 56], 36) := by decide +kernel
theorem dM_house_60 : decode cM_house 60 = .ok (.aload_n 0, 1) := by decide +kernel
theorem dM_house_61 : decode cM_house 61 = .ok (.getfield 97, 3) := by decide +kernel
theorem dM_house_64 : decode cM_house 64 = .ok (.ireturn, 1) := by decide +kernel
theorem dM_house_65 : decode cM_house 65 = .ok (.aload_n 0, 1) := by decide +kernel
theorem dM_house_66 : decode cM_house 66 = .ok (.getfield 104, 3) := by decide +kernel
theorem dM_house_69 : decode cM_house 69 = .ok (.ireturn, 1) := by decide +kernel
theorem dM_house_70 : decode cM_house 70 = .ok (.aload_n 0, 1) := by decide +kernel
theorem dM_house_71 : decode cM_house 71 = .ok (.getfield 111, 3) := by decide +kernel
theorem dM_house_74 : decode cM_house 74 = .ok (.ireturn, 1) := by decide +kernel
theorem dM_house_75 : decode cM_house 75 = .ok (.aload_n 0, 1) := by decide +kernel
theorem dM_house_76 : decode cM_house 76 = .ok (.getfield 163, 3) := by decide +kernel
theorem dM_house_79 : decode cM_house 79 = .ok (.ireturn, 1) := by decide +kernel
theorem dM_house_80 : decode cM_house 80 = .ok (.aload_n 0, 1) := by decide +kernel
theorem dM_house_81 : decode cM_house 81 = .ok (.getfield 94, 3) := by decide +kernel
theorem dM_house_84 : decode cM_house 84 = .ok (.ireturn, 1) := by decide +kernel
theorem dM_house_85 : decode cM_house 85 = .ok (.iconst (-1), 1) := by decide +kernel
theorem dM_house_86 : decode cM_house 86 = .ok (.ireturn, 1) := by decide +kernel
theorem dL_law_0 : decode cL_law 0 = .ok (.new 8, 3) := by decide +kernel
theorem dL_law_3 : decode cL_law 3 = .ok (.dup, 1) := by decide +kernel
theorem dL_law_4 : decode cL_law 4 = .ok (.invokespecial 56, 3) := by decide +kernel
theorem dL_law_7 : decode cL_law 7 = .ok (.astore_n 1, 1) := by decide +kernel
theorem dL_law_8 : decode cL_law 8 = .ok (.new 57, 3) := by decide +kernel
theorem dL_law_11 : decode cL_law 11 = .ok (.dup, 1) := by decide +kernel
theorem dL_law_12 : decode cL_law 12 = .ok (.invokespecial 59, 3) := by decide +kernel
theorem dL_law_15 : decode cL_law 15 = .ok (.astore_n 2, 1) := by decide +kernel
theorem dL_law_16 : decode cL_law 16 = .ok (.iconst 1, 1) := by decide +kernel
theorem dL_law_17 : decode cL_law 17 = .ok (.newarray .long, 2) := by decide +kernel
theorem dL_law_19 : decode cL_law 19 = .ok (.astore_n 3, 1) := by decide +kernel
theorem dL_law_20 : decode cL_law 20 = .ok (.iconst 0, 1) := by decide +kernel
theorem dL_law_21 : decode cL_law 21 = .ok (.istore 4, 2) := by decide +kernel
theorem dL_law_23 : decode cL_law 23 = .ok (.iload 4, 2) := by decide +kernel
theorem dL_law_25 : decode cL_law 25 = .ok (.aload_n 0, 1) := by decide +kernel
theorem dL_law_26 : decode cL_law 26 = .ok (.arraylength, 1) := by decide +kernel
theorem dL_law_27 : decode cL_law 27 = .ok (.iconst 5, 1) := by decide +kernel
theorem dL_law_28 : decode cL_law 28 = .ok (.isub, 1) := by decide +kernel
theorem dL_law_29 : decode cL_law 29 = .ok (.if_icmp .gt 798, 3) := by decide +kernel
theorem dL_law_32 : decode cL_law 32 = .ok (.aload_n 0, 1) := by decide +kernel
theorem dL_law_33 : decode cL_law 33 = .ok (.iload 4, 2) := by decide +kernel
theorem dL_law_35 : decode cL_law 35 = .ok (.iaload, 1) := by decide +kernel
theorem dL_law_36 : decode cL_law 36 = .ok (.bipush 31, 2) := by decide +kernel
theorem dL_law_38 : decode cL_law 38 = .ok (.iand, 1) := by decide +kernel
theorem dL_law_39 : decode cL_law 39 = .ok (.tableswitch 782 0 16 #[81, 109, 149, 189, 257, 313, 381, 433, 473, 513, 577, 605, 633, 658, 695, 732, 757], 81) := by decide +kernel
theorem dL_law_120 : decode cL_law 120 = .ok (.aload_n 1, 1) := by decide +kernel
theorem dL_law_121 : decode cL_law 121 = .ok (.aload_n 0, 1) := by decide +kernel
theorem dL_law_122 : decode cL_law 122 = .ok (.iload 4, 2) := by decide +kernel
theorem dL_law_124 : decode cL_law 124 = .ok (.iconst 1, 1) := by decide +kernel
theorem dL_law_125 : decode cL_law 125 = .ok (.iadd, 1) := by decide +kernel
theorem dL_law_126 : decode cL_law 126 = .ok (.iaload, 1) := by decide +kernel
theorem dL_law_127 : decode cL_law 127 = .ok (.aload_n 3, 1) := by decide +kernel
theorem dL_law_128 : decode cL_law 128 = .ok (.invokestatic 60, 3) := by decide +kernel
theorem dL_law_131 : decode cL_law 131 = .ok (.istore 5, 2) := by decide +kernel
theorem dL_law_133 : decode cL_law 133 = .ok (.aload_n 2, 1) := by decide +kernel
theorem dL_law_134 : decode cL_law 134 = .ok (.aload_n 0, 1) := by decide +kernel
theorem dL_law_135 : decode cL_law 135 = .ok (.iload 4, 2) := by decide +kernel
theorem dL_law_137 : decode cL_law 137 = .ok (.iconst 1, 1) := by decide +kernel
theorem dL_law_138 : decode cL_law 138 = .ok (.iadd, 1) := by decide +kernel
theorem dL_law_139 : decode cL_law 139 = .ok (.iaload, 1) := by decide +kernel
theorem dL_law_140 : decode cL_law 140 = .ok (.invokevirtual 65, 3) := by decide +kernel
theorem dL_law_143 : decode cL_law 143 = .ok (.istore 6, 2) := by decide +kernel
theorem dL_law_145 : decode cL_law 145 = .ok (.goto 676, 3) := by decide +kernel
theorem dL_law_148 : decode cL_law 148 = .ok (.aload_n 1, 1) := by decide +kernel
theorem dL_law_149 : decode cL_law 149 = .ok (.aload_n 0, 1) := by decide +kernel
theorem dL_law_150 : decode cL_law 150 = .ok (.iload 4, 2) := by decide +kernel
theorem dL_law_152 : decode cL_law 152 = .ok (.iconst 1, 1) := by decide +kernel
theorem dL_law_153 : decode cL_law 153 = .ok (.iadd, 1) := by decide +kernel
theorem dL_law_154 : decode cL_law 154 = .ok (.iaload, 1) := by decide +kernel
theorem dL_law_155 : decode cL_law 155 = .ok (.aload_n 0, 1) := by decide +kernel
theorem dL_law_156 : decode cL_law 156 = .ok (.iload 4, 2) := by decide +kernel
theorem dL_law_158 : decode cL_law 158 = .ok (.iconst 2, 1) := by decide +kernel
theorem dL_law_159 : decode cL_law 159 = .ok (.iadd, 1) := by decide +kernel
theorem dL_law_160 : decode cL_law 160 = .ok (.iaload, 1) := by decide +kernel
theorem dL_law_161 : decode cL_law 161 = .ok (.aload_n 3, 1) := by decide +kernel
theorem dL_law_162 : decode cL_law 162 = .ok (.invokestatic 66, 3) := by decide +kernel
theorem dL_law_165 : decode cL_law 165 = .ok (.istore 5, 2) := by decide +kernel
theorem dL_law_167 : decode cL_law 167 = .ok (.aload_n 2, 1) := by decide +kernel
theorem dL_law_168 : decode cL_law 168 = .ok (.aload_n 0, 1) := by decide +kernel
theorem dL_law_169 : decode cL_law 169 = .ok (.iload 4, 2) := by decide +kernel
theorem dL_law_171 : decode cL_law 171 = .ok (.iconst 1, 1) := by decide +kernel
theorem dL_law_172 : decode cL_law 172 = .ok (.iadd, 1) := by decide +kernel
theorem dL_law_173 : decode cL_law 173 = .ok (.iaload, 1) := by decide +kernel
theorem dL_law_174 : decode cL_law 174 = .ok (.aload_n 0, 1) := by decide +kernel
theorem dL_law_175 : decode cL_law 175 = .ok (.iload 4, 2) := by decide +kernel
theorem dL_law_177 : decode cL_law 177 = .ok (.iconst 2, 1) := by decide +kernel
theorem dL_law_178 : decode cL_law 178 = .ok (.iadd, 1) := by decide +kernel
theorem dL_law_179 : decode cL_law 179 = .ok (.iaload, 1) := by decide +kernel
theorem dL_law_180 : decode cL_law 180 = .ok (.invokevirtual 69, 3) := by decide +kernel
theorem dL_law_183 : decode cL_law 183 = .ok (.istore 6, 2) := by decide +kernel
theorem dL_law_185 : decode cL_law 185 = .ok (.goto 636, 3) := by decide +kernel
theorem dL_law_188 : decode cL_law 188 = .ok (.aload_n 1, 1) := by decide +kernel
theorem dL_law_189 : decode cL_law 189 = .ok (.aload_n 0, 1) := by decide +kernel
theorem dL_law_190 : decode cL_law 190 = .ok (.iload 4, 2) := by decide +kernel
theorem dL_law_192 : decode cL_law 192 = .ok (.iconst 1, 1) := by decide +kernel
theorem dL_law_193 : decode cL_law 193 = .ok (.iadd, 1) := by decide +kernel
theorem dL_law_194 : decode cL_law 194 = .ok (.iaload, 1) := by decide +kernel
theorem dL_law_195 : decode cL_law 195 = .ok (.aload_n 0, 1) := by decide +kernel
theorem dL_law_196 : decode cL_law 196 = .ok (.iload 4, 2) := by decide +kernel
theorem dL_law_198 : decode cL_law 198 = .ok (.iconst 2, 1) := by decide +kernel
theorem dL_law_199 : decode cL_law 199 = .ok (.iadd, 1) := by decide +kernel
theorem dL_law_200 : decode cL_law 200 = .ok (.iaload, 1) := by decide +kernel
theorem dL_law_201 : decode cL_law 201 = .ok (.aload_n 3, 1) := by decide +kernel
theorem dL_law_202 : decode cL_law 202 = .ok (.invokestatic 70, 3) := by decide +kernel
theorem dL_law_205 : decode cL_law 205 = .ok (.istore 5, 2) := by decide +kernel
theorem dL_law_207 : decode cL_law 207 = .ok (.aload_n 2, 1) := by decide +kernel
theorem dL_law_208 : decode cL_law 208 = .ok (.aload_n 0, 1) := by decide +kernel
theorem dL_law_209 : decode cL_law 209 = .ok (.iload 4, 2) := by decide +kernel
theorem dL_law_211 : decode cL_law 211 = .ok (.iconst 1, 1) := by decide +kernel
theorem dL_law_212 : decode cL_law 212 = .ok (.iadd, 1) := by decide +kernel
theorem dL_law_213 : decode cL_law 213 = .ok (.iaload, 1) := by decide +kernel
theorem dL_law_214 : decode cL_law 214 = .ok (.aload_n 0, 1) := by decide +kernel
theorem dL_law_215 : decode cL_law 215 = .ok (.iload 4, 2) := by decide +kernel
theorem dL_law_217 : decode cL_law 217 = .ok (.iconst 2, 1) := by decide +kernel
theorem dL_law_218 : decode cL_law 218 = .ok (.iadd, 1) := by decide +kernel
theorem dL_law_219 : decode cL_law 219 = .ok (.iaload, 1) := by decide +kernel
theorem dL_law_220 : decode cL_law 220 = .ok (.invokevirtual 72, 3) := by decide +kernel
theorem dL_law_223 : decode cL_law 223 = .ok (.istore 6, 2) := by decide +kernel
theorem dL_law_225 : decode cL_law 225 = .ok (.goto 596, 3) := by decide +kernel
theorem dL_law_228 : decode cL_law 228 = .ok (.aload_n 1, 1) := by decide +kernel
theorem dL_law_229 : decode cL_law 229 = .ok (.aload_n 0, 1) := by decide +kernel
theorem dL_law_230 : decode cL_law 230 = .ok (.iload 4, 2) := by decide +kernel
theorem dL_law_232 : decode cL_law 232 = .ok (.iconst 1, 1) := by decide +kernel
theorem dL_law_233 : decode cL_law 233 = .ok (.iadd, 1) := by decide +kernel
theorem dL_law_234 : decode cL_law 234 = .ok (.iaload, 1) := by decide +kernel
theorem dL_law_235 : decode cL_law 235 = .ok (.aload_n 0, 1) := by decide +kernel
theorem dL_law_236 : decode cL_law 236 = .ok (.iload 4, 2) := by decide +kernel
theorem dL_law_238 : decode cL_law 238 = .ok (.iconst 2, 1) := by decide +kernel
theorem dL_law_239 : decode cL_law 239 = .ok (.iadd, 1) := by decide +kernel
theorem dL_law_240 : decode cL_law 240 = .ok (.iaload, 1) := by decide +kernel
theorem dL_law_241 : decode cL_law 241 = .ok (.aload_n 3, 1) := by decide +kernel
theorem dL_law_242 : decode cL_law 242 = .ok (.invokestatic 73, 3) := by decide +kernel
theorem dL_law_245 : decode cL_law 245 = .ok (.istore 5, 2) := by decide +kernel
theorem dL_law_247 : decode cL_law 247 = .ok (.aload_n 2, 1) := by decide +kernel
theorem dL_law_248 : decode cL_law 248 = .ok (.aload_n 0, 1) := by decide +kernel
theorem dL_law_249 : decode cL_law 249 = .ok (.iload 4, 2) := by decide +kernel
theorem dL_law_251 : decode cL_law 251 = .ok (.iconst 1, 1) := by decide +kernel
theorem dL_law_252 : decode cL_law 252 = .ok (.iadd, 1) := by decide +kernel
theorem dL_law_253 : decode cL_law 253 = .ok (.iaload, 1) := by decide +kernel
theorem dL_law_254 : decode cL_law 254 = .ok (.aload_n 0, 1) := by decide +kernel
theorem dL_law_255 : decode cL_law 255 = .ok (.iload 4, 2) := by decide +kernel
theorem dL_law_257 : decode cL_law 257 = .ok (.iconst 2, 1) := by decide +kernel
theorem dL_law_258 : decode cL_law 258 = .ok (.iadd, 1) := by decide +kernel
theorem dL_law_259 : decode cL_law 259 = .ok (.iaload, 1) := by decide +kernel
theorem dL_law_260 : decode cL_law 260 = .ok (.invokevirtual 75, 3) := by decide +kernel
theorem dL_law_263 : decode cL_law 263 = .ok (.istore 6, 2) := by decide +kernel
theorem dL_law_265 : decode cL_law 265 = .ok (.aload_n 2, 1) := by decide +kernel
theorem dL_law_266 : decode cL_law 266 = .ok (.invokevirtual 76, 3) := by decide +kernel
theorem dL_law_269 : decode cL_law 269 = .ok (.iload 5, 2) := by decide +kernel
theorem dL_law_271 : decode cL_law 271 = .ok (.if_icmp .eq 5, 3) := by decide +kernel
theorem dL_law_274 : decode cL_law 274 = .ok (.iconst 0, 1) := by decide +kernel
theorem dL_law_275 : decode cL_law 275 = .ok (.ireturn, 1) := by decide +kernel
theorem dL_law_276 : decode cL_law 276 = .ok (.iload 5, 2) := by decide +kernel
theorem dL_law_278 : decode cL_law 278 = .ok (.ifCond .ne 15, 3) := by decide +kernel
theorem dL_law_281 : decode cL_law 281 = .ok (.aload_n 3, 1) := by decide +kernel
theorem dL_law_282 : decode cL_law 282 = .ok (.iconst 0, 1) := by decide +kernel
theorem dL_law_283 : decode cL_law 283 = .ok (.laload, 1) := by decide +kernel
theorem dL_law_284 : decode cL_law 284 = .ok (.iload 6, 2) := by decide +kernel
theorem dL_law_286 : decode cL_law 286 = .ok (.i2l, 1) := by decide +kernel
theorem dL_law_287 : decode cL_law 287 = .ok (.lcmp, 1) := by decide +kernel
theorem dL_law_288 : decode cL_law 288 = .ok (.ifCond .eq 5, 3) := by decide +kernel
theorem dL_law_291 : decode cL_law 291 = .ok (.iconst 0, 1) := by decide +kernel
theorem dL_law_292 : decode cL_law 292 = .ok (.ireturn, 1) := by decide +kernel
theorem dL_law_293 : decode cL_law 293 = .ok (.goto 528, 3) := by decide +kernel
theorem dL_law_296 : decode cL_law 296 = .ok (.aload_n 1, 1) := by decide +kernel
theorem dL_law_297 : decode cL_law 297 = .ok (.aload_n 0, 1) := by decide +kernel
theorem dL_law_298 : decode cL_law 298 = .ok (.iload 4, 2) := by decide +kernel
theorem dL_law_300 : decode cL_law 300 = .ok (.iconst 1, 1) := by decide +kernel
theorem dL_law_301 : decode cL_law 301 = .ok (.iadd, 1) := by decide +kernel
theorem dL_law_302 : decode cL_law 302 = .ok (.iaload, 1) := by decide +kernel
theorem dL_law_303 : decode cL_law 303 = .ok (.aload_n 0, 1) := by decide +kernel
theorem dL_law_304 : decode cL_law 304 = .ok (.iload 4, 2) := by decide +kernel
theorem dL_law_306 : decode cL_law 306 = .ok (.iconst 2, 1) := by decide +kernel
theorem dL_law_307 : decode cL_law 307 = .ok (.iadd, 1) := by decide +kernel
theorem dL_law_308 : decode cL_law 308 = .ok (.iaload, 1) := by decide +kernel
theorem dL_law_309 : decode cL_law 309 = .ok (.ifCond .eq 7, 3) := by decide +kernel
theorem dL_law_312 : decode cL_law 312 = .ok (.iconst 1, 1) := by decide +kernel
theorem dL_law_313 : decode cL_law 313 = .ok (.goto 4, 3) := by decide +kernel
theorem dL_law_316 : decode cL_law 316 = .ok (.iconst 0, 1) := by decide +kernel
theorem dL_law_317 : decode cL_law 317 = .ok (.aload_n 3, 1) := by decide +kernel
theorem dL_law_318 : decode cL_law 318 = .ok (.invokestatic 80, 3) := by decide +kernel
theorem dL_law_321 : decode cL_law 321 = .ok (.istore 5, 2) := by decide +kernel
theorem dL_law_323 : decode cL_law 323 = .ok (.aload_n 2, 1) := by decide +kernel
theorem dL_law_324 : decode cL_law 324 = .ok (.aload_n 0, 1) := by decide +kernel
theorem dL_law_325 : decode cL_law 325 = .ok (.iload 4, 2) := by decide +kernel
theorem dL_law_327 : decode cL_law 327 = .ok (.iconst 1, 1) := by decide +kernel
theorem dL_law_328 : decode cL_law 328 = .ok (.iadd, 1) := by decide +kernel
theorem dL_law_329 : decode cL_law 329 = .ok (.iaload, 1) := by decide +kernel
theorem dL_law_330 : decode cL_law 330 = .ok (.aload_n 0, 1) := by decide +kernel
theorem dL_law_331 : decode cL_law 331 = .ok (.iload 4, 2) := by decide +kernel
theorem dL_law_333 : decode cL_law 333 = .ok (.iconst 2, 1) := by decide +kernel
theorem dL_law_334 : decode cL_law 334 = .ok (.iadd, 1) := by decide +kernel
theorem dL_law_335 : decode cL_law 335 = .ok (.iaload, 1) := by decide +kernel
theorem dL_law_336 : decode cL_law 336 = .ok (.ifCond .eq 7, 3) := by decide +kernel
theorem dL_law_339 : decode cL_law 339 = .ok (.iconst 1, 1) := by decide +kernel
theorem dL_law_340 : decode cL_law 340 = .ok (.goto 4, 3) := by decide +kernel
theorem dL_law_343 : decode cL_law 343 = .ok (.iconst 0, 1) := by decide +kernel
theorem dL_law_344 : decode cL_law 344 = .ok (.invokevirtual 83, 3) := by decide +kernel
theorem dL_law_347 : decode cL_law 347 = .ok (.istore 6, 2) := by decide +kernel
theorem dL_law_349 : decode cL_law 349 = .ok (.goto 472, 3) := by decide +kernel
theorem dL_law_352 : decode cL_law 352 = .ok (.aload_n 1, 1) := by decide +kernel
theorem dL_law_353 : decode cL_law 353 = .ok (.aload_n 0, 1) := by decide +kernel
theorem dL_law_354 : decode cL_law 354 = .ok (.iload 4, 2) := by decide +kernel
theorem dL_law_356 : decode cL_law 356 = .ok (.iconst 1, 1) := by decide +kernel
theorem dL_law_357 : decode cL_law 357 = .ok (.iadd, 1) := by decide +kernel
theorem dL_law_358 : decode cL_law 358 = .ok (.iaload, 1) := by decide +kernel
theorem dL_law_359 : decode cL_law 359 = .ok (.aload_n 0, 1) := by decide +kernel
theorem dL_law_360 : decode cL_law 360 = .ok (.iload 4, 2) := by decide +kernel
theorem dL_law_362 : decode cL_law 362 = .ok (.iconst 2, 1) := by decide +kernel
theorem dL_law_363 : decode cL_law 363 = .ok (.iadd, 1) := by decide +kernel
theorem dL_law_364 : decode cL_law 364 = .ok (.iaload, 1) := by decide +kernel
theorem dL_law_365 : decode cL_law 365 = .ok (.aload_n 0, 1) := by decide +kernel
theorem dL_law_366 : decode cL_law 366 = .ok (.iload 4, 2) := by decide +kernel
theorem dL_law_368 : decode cL_law 368 = .ok (.iconst 3, 1) := by decide +kernel
theorem dL_law_369 : decode cL_law 369 = .ok (.iadd, 1) := by decide +kernel
theorem dL_law_370 : decode cL_law 370 = .ok (.iaload, 1) := by decide +kernel
theorem dL_law_371 : decode cL_law 371 = .ok (.ifCond .eq 7, 3) := by decide +kernel
theorem dL_law_374 : decode cL_law 374 = .ok (.iconst 1, 1) := by decide +kernel
theorem dL_law_375 : decode cL_law 375 = .ok (.goto 4, 3) := by decide +kernel
theorem dL_law_378 : decode cL_law 378 = .ok (.iconst 0, 1) := by decide +kernel
theorem dL_law_379 : decode cL_law 379 = .ok (.aload_n 3, 1) := by decide +kernel
theorem dL_law_380 : decode cL_law 380 = .ok (.invokestatic 84, 3) := by decide +kernel
theorem dL_law_383 : decode cL_law 383 = .ok (.istore 5, 2) := by decide +kernel
theorem dL_law_385 : decode cL_law 385 = .ok (.aload_n 2, 1) := by decide +kernel
theorem dL_law_386 : decode cL_law 386 = .ok (.aload_n 0, 1) := by decide +kernel
theorem dL_law_387 : decode cL_law 387 = .ok (.iload 4, 2) := by decide +kernel
theorem dL_law_389 : decode cL_law 389 = .ok (.iconst 1, 1) := by decide +kernel
theorem dL_law_390 : decode cL_law 390 = .ok (.iadd, 1) := by decide +kernel
theorem dL_law_391 : decode cL_law 391 = .ok (.iaload, 1) := by decide +kernel
theorem dL_law_392 : decode cL_law 392 = .ok (.aload_n 0, 1) := by decide +kernel
theorem dL_law_393 : decode cL_law 393 = .ok (.iload 4, 2) := by decide +kernel
theorem dL_law_395 : decode cL_law 395 = .ok (.iconst 2, 1) := by decide +kernel
theorem dL_law_396 : decode cL_law 396 = .ok (.iadd, 1) := by decide +kernel
theorem dL_law_397 : decode cL_law 397 = .ok (.iaload, 1) := by decide +kernel
theorem dL_law_398 : decode cL_law 398 = .ok (.aload_n 0, 1) := by decide +kernel
theorem dL_law_399 : decode cL_law 399 = .ok (.iload 4, 2) := by decide +kernel
theorem dL_law_401 : decode cL_law 401 = .ok (.iconst 3, 1) := by decide +kernel
theorem dL_law_402 : decode cL_law 402 = .ok (.iadd, 1) := by decide +kernel
theorem dL_law_403 : decode cL_law 403 = .ok (.iaload, 1) := by decide +kernel
theorem dL_law_404 : decode cL_law 404 = .ok (.ifCond .eq 7, 3) := by decide +kernel
theorem dL_law_407 : decode cL_law 407 = .ok (.iconst 1, 1) := by decide +kernel
theorem dL_law_408 : decode cL_law 408 = .ok (.goto 4, 3) := by decide +kernel
theorem dL_law_411 : decode cL_law 411 = .ok (.iconst 0, 1) := by decide +kernel
theorem dL_law_412 : decode cL_law 412 = .ok (.invokevirtual 87, 3) := by decide +kernel
theorem dL_law_415 : decode cL_law 415 = .ok (.istore 6, 2) := by decide +kernel
theorem dL_law_417 : decode cL_law 417 = .ok (.goto 404, 3) := by decide +kernel
theorem dL_law_420 : decode cL_law 420 = .ok (.aload_n 1, 1) := by decide +kernel
theorem dL_law_421 : decode cL_law 421 = .ok (.aload_n 0, 1) := by decide +kernel
theorem dL_law_422 : decode cL_law 422 = .ok (.iload 4, 2) := by decide +kernel
theorem dL_law_424 : decode cL_law 424 = .ok (.iconst 1, 1) := by decide +kernel
theorem dL_law_425 : decode cL_law 425 = .ok (.iadd, 1) := by decide +kernel
theorem dL_law_426 : decode cL_law 426 = .ok (.iaload, 1) := by decide +kernel
theorem dL_law_427 : decode cL_law 427 = .ok (.aload_n 0, 1) := by decide +kernel
theorem dL_law_428 : decode cL_law 428 = .ok (.iload 4, 2) := by decide +kernel
theorem dL_law_430 : decode cL_law 430 = .ok (.iconst 2, 1) := by decide +kernel
theorem dL_law_431 : decode cL_law 431 = .ok (.iadd, 1) := by decide +kernel
theorem dL_law_432 : decode cL_law 432 = .ok (.iaload, 1) := by decide +kernel
theorem dL_law_433 : decode cL_law 433 = .ok (.aload_n 0, 1) := by decide +kernel
theorem dL_law_434 : decode cL_law 434 = .ok (.iload 4, 2) := by decide +kernel
theorem dL_law_436 : decode cL_law 436 = .ok (.iconst 3, 1) := by decide +kernel
theorem dL_law_437 : decode cL_law 437 = .ok (.iadd, 1) := by decide +kernel
theorem dL_law_438 : decode cL_law 438 = .ok (.iaload, 1) := by decide +kernel
theorem dL_law_439 : decode cL_law 439 = .ok (.aload_n 3, 1) := by decide +kernel
theorem dL_law_440 : decode cL_law 440 = .ok (.invokestatic 88, 3) := by decide +kernel
theorem dL_law_443 : decode cL_law 443 = .ok (.istore 5, 2) := by decide +kernel
theorem dL_law_445 : decode cL_law 445 = .ok (.aload_n 2, 1) := by decide +kernel
theorem dL_law_446 : decode cL_law 446 = .ok (.aload_n 0, 1) := by decide +kernel
theorem dL_law_447 : decode cL_law 447 = .ok (.iload 4, 2) := by decide +kernel
theorem dL_law_449 : decode cL_law 449 = .ok (.iconst 1, 1) := by decide +kernel
theorem dL_law_450 : decode cL_law 450 = .ok (.iadd, 1) := by decide +kernel
theorem dL_law_451 : decode cL_law 451 = .ok (.iaload, 1) := by decide +kernel
theorem dL_law_452 : decode cL_law 452 = .ok (.aload_n 0, 1) := by decide +kernel
theorem dL_law_453 : decode cL_law 453 = .ok (.iload 4, 2) := by decide +kernel
theorem dL_law_455 : decode cL_law 455 = .ok (.iconst 2, 1) := by decide +kernel
theorem dL_law_456 : decode cL_law 456 = .ok (.iadd, 1) := by decide +kernel
theorem dL_law_457 : decode cL_law 457 = .ok (.iaload, 1) := by decide +kernel
theorem dL_law_458 : decode cL_law 458 = .ok (.aload_n 0, 1) := by decide +kernel
theorem dL_law_459 : decode cL_law 459 = .ok (.iload 4, 2) := by decide +kernel
theorem dL_law_461 : decode cL_law 461 = .ok (.iconst 3, 1) := by decide +kernel
theorem dL_law_462 : decode cL_law 462 = .ok (.iadd, 1) := by decide +kernel
theorem dL_law_463 : decode cL_law 463 = .ok (.iaload, 1) := by decide +kernel
theorem dL_law_464 : decode cL_law 464 = .ok (.invokevirtual 91, 3) := by decide +kernel
theorem dL_law_467 : decode cL_law 467 = .ok (.istore 6, 2) := by decide +kernel
theorem dL_law_469 : decode cL_law 469 = .ok (.goto 352, 3) := by decide +kernel
theorem dL_law_472 : decode cL_law 472 = .ok (.aload_n 1, 1) := by decide +kernel
theorem dL_law_473 : decode cL_law 473 = .ok (.aload_n 0, 1) := by decide +kernel
theorem dL_law_474 : decode cL_law 474 = .ok (.iload 4, 2) := by decide +kernel
theorem dL_law_476 : decode cL_law 476 = .ok (.iconst 1, 1) := by decide +kernel
theorem dL_law_477 : decode cL_law 477 = .ok (.iadd, 1) := by decide +kernel
theorem dL_law_478 : decode cL_law 478 = .ok (.iaload, 1) := by decide +kernel
theorem dL_law_479 : decode cL_law 479 = .ok (.aload_n 0, 1) := by decide +kernel
theorem dL_law_480 : decode cL_law 480 = .ok (.iload 4, 2) := by decide +kernel
theorem dL_law_482 : decode cL_law 482 = .ok (.iconst 2, 1) := by decide +kernel
theorem dL_law_483 : decode cL_law 483 = .ok (.iadd, 1) := by decide +kernel
theorem dL_law_484 : decode cL_law 484 = .ok (.iaload, 1) := by decide +kernel
theorem dL_law_485 : decode cL_law 485 = .ok (.aload_n 3, 1) := by decide +kernel
theorem dL_law_486 : decode cL_law 486 = .ok (.invokestatic 92, 3) := by decide +kernel
theorem dL_law_489 : decode cL_law 489 = .ok (.istore 5, 2) := by decide +kernel
theorem dL_law_491 : decode cL_law 491 = .ok (.aload_n 2, 1) := by decide +kernel
theorem dL_law_492 : decode cL_law 492 = .ok (.aload_n 0, 1) := by decide +kernel
theorem dL_law_493 : decode cL_law 493 = .ok (.iload 4, 2) := by decide +kernel
theorem dL_law_495 : decode cL_law 495 = .ok (.iconst 1, 1) := by decide +kernel
theorem dL_law_496 : decode cL_law 496 = .ok (.iadd, 1) := by decide +kernel
theorem dL_law_497 : decode cL_law 497 = .ok (.iaload, 1) := by decide +kernel
theorem dL_law_498 : decode cL_law 498 = .ok (.aload_n 0, 1) := by decide +kernel
theorem dL_law_499 : decode cL_law 499 = .ok (.iload 4, 2) := by decide +kernel
theorem dL_law_501 : decode cL_law 501 = .ok (.iconst 2, 1) := by decide +kernel
theorem dL_law_502 : decode cL_law 502 = .ok (.iadd, 1) := by decide +kernel
theorem dL_law_503 : decode cL_law 503 = .ok (.iaload, 1) := by decide +kernel
theorem dL_law_504 : decode cL_law 504 = .ok (.invokevirtual 94, 3) := by decide +kernel
theorem dL_law_507 : decode cL_law 507 = .ok (.istore 6, 2) := by decide +kernel
theorem dL_law_509 : decode cL_law 509 = .ok (.goto 312, 3) := by decide +kernel
theorem dL_law_512 : decode cL_law 512 = .ok (.aload_n 1, 1) := by decide +kernel
theorem dL_law_513 : decode cL_law 513 = .ok (.aload_n 0, 1) := by decide +kernel
theorem dL_law_514 : decode cL_law 514 = .ok (.iload 4, 2) := by decide +kernel
theorem dL_law_516 : decode cL_law 516 = .ok (.iconst 1, 1) := by decide +kernel
theorem dL_law_517 : decode cL_law 517 = .ok (.iadd, 1) := by decide +kernel
theorem dL_law_518 : decode cL_law 518 = .ok (.iaload, 1) := by decide +kernel
theorem dL_law_519 : decode cL_law 519 = .ok (.aload_n 0, 1) := by decide +kernel
theorem dL_law_520 : decode cL_law 520 = .ok (.iload 4, 2) := by decide +kernel
theorem dL_law_522 : decode cL_law 522 = .ok (.iconst 2, 1) := by decide +kernel
theorem dL_law_523 : decode cL_law 523 = .ok (.iadd, 1) := by decide +kernel
theorem dL_law_524 : decode cL_law 524 = .ok (.iaload, 1) := by decide +kernel
theorem dL_law_525 : decode cL_law 525 = .ok (.aload_n 3, 1) := by decide +kernel
theorem dL_law_526 : decode cL_law 526 = .ok (.invokestatic 95, 3) := by decide +kernel
theorem dL_law_529 : decode cL_law 529 = .ok (.istore 5, 2) := by decide +kernel
theorem dL_law_531 : decode cL_law 531 = .ok (.aload_n 2, 1) := by decide +kernel
theorem dL_law_532 : decode cL_law 532 = .ok (.aload_n 0, 1) := by decide +kernel
theorem dL_law_533 : decode cL_law 533 = .ok (.iload 4, 2) := by decide +kernel
theorem dL_law_535 : decode cL_law 535 = .ok (.iconst 1, 1) := by decide +kernel
theorem dL_law_536 : decode cL_law 536 = .ok (.iadd, 1) := by decide +kernel
theorem dL_law_537 : decode cL_law 537 = .ok (.iaload, 1) := by decide +kernel
theorem dL_law_538 : decode cL_law 538 = .ok (.aload_n 0, 1) := by decide +kernel
theorem dL_law_539 : decode cL_law 539 = .ok (.iload 4, 2) := by decide +kernel
theorem dL_law_541 : decode cL_law 541 = .ok (.iconst 2, 1) := by decide +kernel
theorem dL_law_542 : decode cL_law 542 = .ok (.iadd, 1) := by decide +kernel
theorem dL_law_543 : decode cL_law 543 = .ok (.iaload, 1) := by decide +kernel
theorem dL_law_544 : decode cL_law 544 = .ok (.invokevirtual 97, 3) := by decide +kernel
theorem dL_law_547 : decode cL_law 547 = .ok (.istore 6, 2) := by decide +kernel
theorem dL_law_549 : decode cL_law 549 = .ok (.goto 272, 3) := by decide +kernel
theorem dL_law_552 : decode cL_law 552 = .ok (.aload_n 1, 1) := by decide +kernel
theorem dL_law_553 : decode cL_law 553 = .ok (.aload_n 0, 1) := by decide +kernel
theorem dL_law_554 : decode cL_law 554 = .ok (.iload 4, 2) := by decide +kernel
theorem dL_law_556 : decode cL_law 556 = .ok (.iconst 1, 1) := by decide +kernel
theorem dL_law_557 : decode cL_law 557 = .ok (.iadd, 1) := by decide +kernel
theorem dL_law_558 : decode cL_law 558 = .ok (.iaload, 1) := by decide +kernel
theorem dL_law_559 : decode cL_law 559 = .ok (.aload_n 0, 1) := by decide +kernel
theorem dL_law_560 : decode cL_law 560 = .ok (.iload 4, 2) := by decide +kernel
theorem dL_law_562 : decode cL_law 562 = .ok (.iconst 2, 1) := by decide +kernel
theorem dL_law_563 : decode cL_law 563 = .ok (.iadd, 1) := by decide +kernel
theorem dL_law_564 : decode cL_law 564 = .ok (.iaload, 1) := by decide +kernel
theorem dL_law_565 : decode cL_law 565 = .ok (.aload_n 0, 1) := by decide +kernel
theorem dL_law_566 : decode cL_law 566 = .ok (.iload 4, 2) := by decide +kernel
theorem dL_law_568 : decode cL_law 568 = .ok (.iconst 3, 1) := by decide +kernel
theorem dL_law_569 : decode cL_law 569 = .ok (.iadd, 1) := by decide +kernel
theorem dL_law_570 : decode cL_law 570 = .ok (.iaload, 1) := by decide +kernel
theorem dL_law_571 : decode cL_law 571 = .ok (.aload_n 0, 1) := by decide +kernel
theorem dL_law_572 : decode cL_law 572 = .ok (.iload 4, 2) := by decide +kernel
theorem dL_law_574 : decode cL_law 574 = .ok (.iconst 4, 1) := by decide +kernel
theorem dL_law_575 : decode cL_law 575 = .ok (.iadd, 1) := by decide +kernel
theorem dL_law_576 : decode cL_law 576 = .ok (.iaload, 1) := by decide +kernel
theorem dL_law_577 : decode cL_law 577 = .ok (.aload_n 3, 1) := by decide +kernel
theorem dL_law_578 : decode cL_law 578 = .ok (.invokestatic 98, 3) := by decide +kernel
theorem dL_law_581 : decode cL_law 581 = .ok (.istore 5, 2) := by decide +kernel
theorem dL_law_583 : decode cL_law 583 = .ok (.aload_n 2, 1) := by decide +kernel
theorem dL_law_584 : decode cL_law 584 = .ok (.aload_n 0, 1) := by decide +kernel
theorem dL_law_585 : decode cL_law 585 = .ok (.iload 4, 2) := by decide +kernel
theorem dL_law_587 : decode cL_law 587 = .ok (.iconst 1, 1) := by decide +kernel
theorem dL_law_588 : decode cL_law 588 = .ok (.iadd, 1) := by decide +kernel
theorem dL_law_589 : decode cL_law 589 = .ok (.iaload, 1) := by decide +kernel
theorem dL_law_590 : decode cL_law 590 = .ok (.aload_n 0, 1) := by decide +kernel
theorem dL_law_591 : decode cL_law 591 = .ok (.iload 4, 2) := by decide +kernel
theorem dL_law_593 : decode cL_law 593 = .ok (.iconst 2, 1) := by decide +kernel
theorem dL_law_594 : decode cL_law 594 = .ok (.iadd, 1) := by decide +kernel
theorem dL_law_595 : decode cL_law 595 = .ok (.iaload, 1) := by decide +kernel
theorem dL_law_596 : decode cL_law 596 = .ok (.aload_n 0, 1) := by decide +kernel
theorem dL_law_597 : decode cL_law 597 = .ok (.iload 4, 2) := by decide +kernel
theorem dL_law_599 : decode cL_law 599 = .ok (.iconst 3, 1) := by decide +kernel
theorem dL_law_600 : decode cL_law 600 = .ok (.iadd, 1) := by decide +kernel
theorem dL_law_601 : decode cL_law 601 = .ok (.iaload, 1) := by decide +kernel
theorem dL_law_602 : decode cL_law 602 = .ok (.aload_n 0, 1) := by decide +kernel
theorem dL_law_603 : decode cL_law 603 = .ok (.iload 4, 2) := by decide +kernel
theorem dL_law_605 : decode cL_law 605 = .ok (.iconst 4, 1) := by decide +kernel
theorem dL_law_606 : decode cL_law 606 = .ok (.iadd, 1) := by decide +kernel
theorem dL_law_607 : decode cL_law 607 = .ok (.iaload, 1) := by decide +kernel
theorem dL_law_608 : decode cL_law 608 = .ok (.invokevirtual 101, 3) := by decide +kernel
theorem dL_law_611 : decode cL_law 611 = .ok (.istore 6, 2) := by decide +kernel
theorem dL_law_613 : decode cL_law 613 = .ok (.goto 208, 3) := by decide +kernel
theorem dL_law_616 : decode cL_law 616 = .ok (.aload_n 1, 1) := by decide +kernel
theorem dL_law_617 : decode cL_law 617 = .ok (.aload_n 0, 1) := by decide +kernel
theorem dL_law_618 : decode cL_law 618 = .ok (.iload 4, 2) := by decide +kernel
theorem dL_law_620 : decode cL_law 620 = .ok (.iconst 1, 1) := by decide +kernel
theorem dL_law_621 : decode cL_law 621 = .ok (.iadd, 1) := by decide +kernel
theorem dL_law_622 : decode cL_law 622 = .ok (.iaload, 1) := by decide +kernel
theorem dL_law_623 : decode cL_law 623 = .ok (.aload_n 3, 1) := by decide +kernel
theorem dL_law_624 : decode cL_law 624 = .ok (.invokestatic 102, 3) := by decide +kernel
theorem dL_law_627 : decode cL_law 627 = .ok (.istore 5, 2) := by decide +kernel
theorem dL_law_629 : decode cL_law 629 = .ok (.aload_n 2, 1) := by decide +kernel
theorem dL_law_630 : decode cL_law 630 = .ok (.aload_n 0, 1) := by decide +kernel
theorem dL_law_631 : decode cL_law 631 = .ok (.iload 4, 2) := by decide +kernel
theorem dL_law_633 : decode cL_law 633 = .ok (.iconst 1, 1) := by decide +kernel
theorem dL_law_634 : decode cL_law 634 = .ok (.iadd, 1) := by decide +kernel
theorem dL_law_635 : decode cL_law 635 = .ok (.iaload, 1) := by decide +kernel
theorem dL_law_636 : decode cL_law 636 = .ok (.invokevirtual 104, 3) := by decide +kernel
theorem dL_law_639 : decode cL_law 639 = .ok (.istore 6, 2) := by decide +kernel
theorem dL_law_641 : decode cL_law 641 = .ok (.goto 180, 3) := by decide +kernel
theorem dL_law_644 : decode cL_law 644 = .ok (.aload_n 1, 1) := by decide +kernel
theorem dL_law_645 : decode cL_law 645 = .ok (.aload_n 0, 1) := by decide +kernel
theorem dL_law_646 : decode cL_law 646 = .ok (.iload 4, 2) := by decide +kernel
theorem dL_law_648 : decode cL_law 648 = .ok (.iconst 1, 1) := by decide +kernel
theorem dL_law_649 : decode cL_law 649 = .ok (.iadd, 1) := by decide +kernel
theorem dL_law_650 : decode cL_law 650 = .ok (.iaload, 1) := by decide +kernel
theorem dL_law_651 : decode cL_law 651 = .ok (.aload_n 3, 1) := by decide +kernel
theorem dL_law_652 : decode cL_law 652 = .ok (.invokestatic 105, 3) := by decide +kernel
theorem dL_law_655 : decode cL_law 655 = .ok (.istore 5, 2) := by decide +kernel
theorem dL_law_657 : decode cL_law 657 = .ok (.aload_n 2, 1) := by decide +kernel
theorem dL_law_658 : decode cL_law 658 = .ok (.aload_n 0, 1) := by decide +kernel
theorem dL_law_659 : decode cL_law 659 = .ok (.iload 4, 2) := by decide +kernel
theorem dL_law_661 : decode cL_law 661 = .ok (.iconst 1, 1) := by decide +kernel
theorem dL_law_662 : decode cL_law 662 = .ok (.iadd, 1) := by decide +kernel
theorem dL_law_663 : decode cL_law 663 = .ok (.iaload, 1) := by decide +kernel
theorem dL_law_664 : decode cL_law 664 = .ok (.invokevirtual 107, 3) := by decide +kernel
theorem dL_law_667 : decode cL_law 667 = .ok (.istore 6, 2) := by decide +kernel
theorem dL_law_669 : decode cL_law 669 = .ok (.goto 152, 3) := by decide +kernel
theorem dL_law_672 : decode cL_law 672 = .ok (.aload_n 1, 1) := by decide +kernel
theorem dL_law_673 : decode cL_law 673 = .ok (.aload_n 0, 1) := by decide +kernel
theorem dL_law_674 : decode cL_law 674 = .ok (.iload 4, 2) := by decide +kernel
theorem dL_law_676 : decode cL_law 676 = .ok (.iconst 1, 1) := by decide +kernel
theorem dL_law_677 : decode cL_law 677 = .ok (.iadd, 1) := by decide +kernel
theorem dL_law_678 : decode cL_law 678 = .ok (.iaload, 1) := by decide +kernel
theorem dL_law_679 : decode cL_law 679 = .ok (.invokevirtual 108, 3) := by decide +kernel
theorem dL_law_682 : decode cL_law 682 = .ok (.pop, 1) := by decide +kernel
theorem dL_law_683 : decode cL_law 683 = .ok (.aload_n 2, 1) := by decide +kernel
theorem dL_law_684 : decode cL_law 684 = .ok (.aload_n 0, 1) := by decide +kernel
theorem dL_law_685 : decode cL_law 685 = .ok (.iload 4, 2) := by decide +kernel
theorem dL_law_687 : decode cL_law 687 = .ok (.iconst 1, 1) := by decide +kernel
theorem dL_law_688 : decode cL_law 688 = .ok (.iadd, 1) := by decide +kernel
theorem dL_law_689 : decode cL_law 689 = .ok (.iaload, 1) := by decide +kernel
theorem dL_law_690 : decode cL_law 690 = .ok (.invokevirtual 111, 3) := by decide +kernel
theorem dL_law_693 : decode cL_law 693 = .ok (.pop, 1) := by decide +kernel
theorem dL_law_694 : decode cL_law 694 = .ok (.goto 127, 3) := by decide +kernel
theorem dL_law_697 : decode cL_law 697 = .ok (.aload_n 1, 1) := by decide +kernel
theorem dL_law_698 : decode cL_law 698 = .ok (.aload_n 0, 1) := by decide +kernel
theorem dL_law_699 : decode cL_law 699 = .ok (.iload 4, 2) := by decide +kernel
theorem dL_law_701 : decode cL_law 701 = .ok (.iconst 1, 1) := by decide +kernel
theorem dL_law_702 : decode cL_law 702 = .ok (.iadd, 1) := by decide +kernel
theorem dL_law_703 : decode cL_law 703 = .ok (.iaload, 1) := by decide +kernel
theorem dL_law_704 : decode cL_law 704 = .ok (.aload_n 0, 1) := by decide +kernel
theorem dL_law_705 : decode cL_law 705 = .ok (.iload 4, 2) := by decide +kernel
theorem dL_law_707 : decode cL_law 707 = .ok (.iconst 2, 1) := by decide +kernel
theorem dL_law_708 : decode cL_law 708 = .ok (.iadd, 1) := by decide +kernel
theorem dL_law_709 : decode cL_law 709 = .ok (.iaload, 1) := by decide +kernel
theorem dL_law_710 : decode cL_law 710 = .ok (.invokevirtual 112, 3) := by decide +kernel
theorem dL_law_713 : decode cL_law 713 = .ok (.pop, 1) := by decide +kernel
theorem dL_law_714 : decode cL_law 714 = .ok (.aload_n 2, 1) := by decide +kernel
theorem dL_law_715 : decode cL_law 715 = .ok (.aload_n 0, 1) := by decide +kernel
theorem dL_law_716 : decode cL_law 716 = .ok (.iload 4, 2) := by decide +kernel
theorem dL_law_718 : decode cL_law 718 = .ok (.iconst 1, 1) := by decide +kernel
theorem dL_law_719 : decode cL_law 719 = .ok (.iadd, 1) := by decide +kernel
theorem dL_law_720 : decode cL_law 720 = .ok (.iaload, 1) := by decide +kernel
theorem dL_law_721 : decode cL_law 721 = .ok (.aload_n 0, 1) := by decide +kernel
theorem dL_law_722 : decode cL_law 722 = .ok (.iload 4, 2) := by decide +kernel
theorem dL_law_724 : decode cL_law 724 = .ok (.iconst 2, 1) := by decide +kernel
theorem dL_law_725 : decode cL_law 725 = .ok (.iadd, 1) := by decide +kernel
theorem dL_law_726 : decode cL_law 726 = .ok (.iaload, 1) := by decide +kernel
theorem dL_law_727 : decode cL_law 727 = .ok (.invokevirtual 115, 3) := by decide +kernel
theorem dL_law_730 : decode cL_law 730 = .ok (.pop, 1) := by decide +kernel
theorem dL_law_731 : decode cL_law 731 = .ok (.goto 90, 3) := by decide +kernel
theorem dL_law_734 : decode cL_law 734 = .ok (.aload_n 1, 1) := by decide +kernel
theorem dL_law_735 : decode cL_law 735 = .ok (.aload_n 0, 1) := by decide +kernel
theorem dL_law_736 : decode cL_law 736 = .ok (.iload 4, 2) := by decide +kernel
theorem dL_law_738 : decode cL_law 738 = .ok (.iconst 1, 1) := by decide +kernel
theorem dL_law_739 : decode cL_law 739 = .ok (.iadd, 1) := by decide +kernel
theorem dL_law_740 : decode cL_law 740 = .ok (.iaload, 1) := by decide +kernel
theorem dL_law_741 : decode cL_law 741 = .ok (.aload_n 0, 1) := by decide +kernel
theorem dL_law_742 : decode cL_law 742 = .ok (.iload 4, 2) := by decide +kernel
theorem dL_law_744 : decode cL_law 744 = .ok (.iconst 2, 1) := by decide +kernel
theorem dL_law_745 : decode cL_law 745 = .ok (.iadd, 1) := by decide +kernel
theorem dL_law_746 : decode cL_law 746 = .ok (.iaload, 1) := by decide +kernel
theorem dL_law_747 : decode cL_law 747 = .ok (.invokevirtual 116, 3) := by decide +kernel
theorem dL_law_750 : decode cL_law 750 = .ok (.pop, 1) := by decide +kernel
theorem dL_law_751 : decode cL_law 751 = .ok (.aload_n 2, 1) := by decide +kernel
theorem dL_law_752 : decode cL_law 752 = .ok (.aload_n 0, 1) := by decide +kernel
theorem dL_law_753 : decode cL_law 753 = .ok (.iload 4, 2) := by decide +kernel
theorem dL_law_755 : decode cL_law 755 = .ok (.iconst 1, 1) := by decide +kernel
theorem dL_law_756 : decode cL_law 756 = .ok (.iadd, 1) := by decide +kernel
theorem dL_law_757 : decode cL_law 757 = .ok (.iaload, 1) := by decide +kernel
theorem dL_law_758 : decode cL_law 758 = .ok (.aload_n 0, 1) := by decide +kernel
theorem dL_law_759 : decode cL_law 759 = .ok (.iload 4, 2) := by decide +kernel
theorem dL_law_761 : decode cL_law 761 = .ok (.iconst 2, 1) := by decide +kernel
theorem dL_law_762 : decode cL_law 762 = .ok (.iadd, 1) := by decide +kernel
theorem dL_law_763 : decode cL_law 763 = .ok (.iaload, 1) := by decide +kernel
theorem dL_law_764 : decode cL_law 764 = .ok (.invokevirtual 119, 3) := by decide +kernel
theorem dL_law_767 : decode cL_law 767 = .ok (.pop, 1) := by decide +kernel
theorem dL_law_768 : decode cL_law 768 = .ok (.goto 53, 3) := by decide +kernel
theorem dL_law_771 : decode cL_law 771 = .ok (.aload_n 1, 1) := by decide +kernel
theorem dL_law_772 : decode cL_law 772 = .ok (.aload_n 0, 1) := by decide +kernel
theorem dL_law_773 : decode cL_law 773 = .ok (.iload 4, 2) := by decide +kernel
theorem dL_law_775 : decode cL_law 775 = .ok (.iconst 1, 1) := by decide +kernel
theorem dL_law_776 : decode cL_law 776 = .ok (.iadd, 1) := by decide +kernel
theorem dL_law_777 : decode cL_law 777 = .ok (.iaload, 1) := by decide +kernel
theorem dL_law_778 : decode cL_law 778 = .ok (.invokevirtual 120, 3) := by decide +kernel
theorem dL_law_781 : decode cL_law 781 = .ok (.pop, 1) := by decide +kernel
theorem dL_law_782 : decode cL_law 782 = .ok (.aload_n 2, 1) := by decide +kernel
theorem dL_law_783 : decode cL_law 783 = .ok (.aload_n 0, 1) := by decide +kernel
theorem dL_law_784 : decode cL_law 784 = .ok (.iload 4, 2) := by decide +kernel
theorem dL_law_786 : decode cL_law 786 = .ok (.iconst 1, 1) := by decide +kernel
theorem dL_law_787 : decode cL_law 787 = .ok (.iadd, 1) := by decide +kernel
theorem dL_law_788 : decode cL_law 788 = .ok (.iaload, 1) := by decide +kernel
theorem dL_law_789 : decode cL_law 789 = .ok (.invokevirtual 123, 3) := by decide +kernel
theorem dL_law_792 : decode cL_law 792 = .ok (.pop, 1) := by decide +kernel
theorem dL_law_793 : decode cL_law 793 = .ok (.goto 28, 3) := by decide +kernel
theorem dL_law_796 : decode cL_law 796 = .ok (.aload_n 1, 1) := by decide +kernel
theorem dL_law_797 : decode cL_law 797 = .ok (.aload_n 0, 1) := by decide +kernel
theorem dL_law_798 : decode cL_law 798 = .ok (.iload 4, 2) := by decide +kernel
theorem dL_law_800 : decode cL_law 800 = .ok (.iconst 1, 1) := by decide +kernel
theorem dL_law_801 : decode cL_law 801 = .ok (.iadd, 1) := by decide +kernel
theorem dL_law_802 : decode cL_law 802 = .ok (.iaload, 1) := by decide +kernel
theorem dL_law_803 : decode cL_law 803 = .ok (.invokevirtual 124, 3) := by decide +kernel
theorem dL_law_806 : decode cL_law 806 = .ok (.pop, 1) := by decide +kernel
theorem dL_law_807 : decode cL_law 807 = .ok (.aload_n 2, 1) := by decide +kernel
theorem dL_law_808 : decode cL_law 808 = .ok (.aload_n 0, 1) := by decide +kernel
theorem dL_law_809 : decode cL_law 809 = .ok (.iload 4, 2) := by decide +kernel
theorem dL_law_811 : decode cL_law 811 = .ok (.iconst 1, 1) := by decide +kernel
theorem dL_law_812 : decode cL_law 812 = .ok (.iadd, 1) := by decide +kernel
theorem dL_law_813 : decode cL_law 813 = .ok (.iaload, 1) := by decide +kernel
theorem dL_law_814 : decode cL_law 814 = .ok (.invokevirtual 127, 3) := by decide +kernel
theorem dL_law_817 : decode cL_law 817 = .ok (.pop, 1) := by decide +kernel
theorem dL_law_818 : decode cL_law 818 = .ok (.goto 3, 3) := by decide +kernel
theorem dL_law_821 : decode cL_law 821 = .ok (.iinc 4 5, 3) := by decide +kernel
theorem dL_law_824 : decode cL_law 824 = .ok (.goto (-801), 3) := by decide +kernel
theorem dL_law_827 : decode cL_law 827 = .ok (.iconst 1, 1) := by decide +kernel
theorem dL_law_828 : decode cL_law 828 = .ok (.ireturn, 1) := by decide +kernel
end
section
/-! The world: every cell of class, reference and law is (kind, number); its slots are Int32 codes (S kind number slot); a reference is the number of a cell of a known kind, -1 is null. -/
abbrev hw_St : Type := Nat → Nat → Nat → Int32
abbrev hw_D : Type := va_G × (Nat → ClassId)
/-- base; the old heap; class numbers; addresses -/
abbrev hw_B : Type := Nat × Heap × hw_D × (Nat → Nat → Nat)
def hw_a (B : hw_B) (k i : Nat) : Nat := B.2.2.2 k i
def hw_sv (S : hw_St) (k i j : Nat) (v : Int32) : hw_St := fun k' i' j' => if k' = k ∧ i' = i ∧ j' = j then v else S k' i' j'
def hw_rd (B : hw_B) (t : Nat) (v : Int32) : Value := match t with
  | 0 => .int v
  | 1 => .long v.toInt64
  | t + 2 => if v < 0 then .null else .ref (hw_a B t v.toNatClampNeg)
def hw_cel (B : hw_B) (k i : Nat) (f : Nat → Int32) (H : Heap) : Prop := match hw_kd k with
  | .inl ci => ∃ r : vw_C, vwCl[ci]? = some r ∧ t_OB (hw_a B k i) (B.2.2.1.1.1 ci) r.2.2 (B.2.2.1.1.2 ci) H (fun j => hw_rd B (hw_ty k j) (f j))
  | .inr et => H[hw_a B k i]? = some (arrV (B.2.2.1.2 et) (hw_ln k i) (fun j => hw_rd B (hw_ty k j) (f j)))
theorem hw_cel_o {B : hw_B} {k i ci : Nat} {f : Nat → Int32} {H : Heap} (hk : hw_kd k = .inl ci) : hw_cel B k i f H ↔ ∃ r : vw_C, vwCl[ci]? = some r ∧ t_OB (hw_a B k i) (B.2.2.1.1.1 ci) r.2.2 (B.2.2.1.1.2 ci) H (fun j => hw_rd B (hw_ty k j) (f j)) := by
  simp only [hw_cel, hk]
theorem hw_cel_a {B : hw_B} {k i et : Nat} {f : Nat → Int32} {H : Heap} (hk : hw_kd k = .inr et) : hw_cel B k i f H ↔ H[hw_a B k i]? = some (arrV (B.2.2.1.2 et) (hw_ln k i) (fun j => hw_rd B (hw_ty k j) (f j))) := by
  simp only [hw_cel, hk]
def hw_P (B : hw_B) (nb : Nat → Nat) (S : hw_St) (H : Heap) : Prop :=
  (B.1 ≤ H.size ∧ ∀ q : Nat, q < B.1 → H[q]? = B.2.1[q]?) ∧ (∀ k i : Nat, i < nb k → B.1 ≤ hw_a B k i ∧ hw_cel B k i (S k i) H) ∧ ∀ k i k' i' : Nat, i < nb k → i' < nb k' → hw_a B k i = hw_a B k' i' → k = k' ∧ i = i'
theorem hw_cel.kept {B : hw_B} {k i : Nat} {f : Nat → Int32} {H H1 : Heap} (h : hw_cel B k i f H) (hq : H1[hw_a B k i]? = H[hw_a B k i]?) : hw_cel B k i f H1 := by
  cases hk : hw_kd k with
  | inl ci =>
    obtain ⟨r, h1, h2⟩ := (hw_cel_o hk).mp h
    exact (hw_cel_o hk).mpr ⟨r, h1, h2.kept hq⟩
  | inr et => exact (hw_cel_a hk).mpr (hq.trans ((hw_cel_a hk).mp h))
theorem hw_cel.lt {B : hw_B} {k i : Nat} {f : Nat → Int32} {H : Heap} (h : hw_cel B k i f H) : hw_a B k i < H.size := by
  cases hk : hw_kd k with
  | inl ci =>
    obtain ⟨r, h1, cell, h2, -⟩ := (hw_cel_o hk).mp h
    exact (Array.getElem?_eq_some_iff.mp h2).1
  | inr et => exact (Array.getElem?_eq_some_iff.mp ((hw_cel_a hk).mp h)).1
theorem hw_P.set {B : hw_B} {nb : Nat → Nat} {S S' : hw_St} {H H1 : Heap} {k i : Nat} (h : hw_P B nb S H) (hi : i < nb k) (hs : H1.size = H.size) (ho : ∀ q : Nat, q ≠ hw_a B k i → H1[q]? = H[q]?) (hc : hw_cel B k i (S' k i) H1) (hS : ∀ k' i', ¬ (k' = k ∧ i' = i) → S' k' i' = S k' i') : hw_P B nb S' H1 := by
  refine ⟨⟨by rw [hs]; exact h.1.1, fun q hq => ?_⟩, fun k' i' hi' => ⟨(h.2.1 k' i' hi').1, ?_⟩, h.2.2⟩
  · have h1 := (h.2.1 k i hi).1
    rw [ho q (by omega)]
    exact h.1.2 q hq
  · by_cases e : k' = k ∧ i' = i
    · obtain ⟨rfl, rfl⟩ := e
      exact hc
    · rw [hS k' i' e]
      exact (h.2.1 k' i' hi').2.kept (ho _ (fun q => e (h.2.2 _ _ _ _ hi' hi q)))
theorem hw_sv_off {S : hw_St} {k i j k' i' : Nat} {v : Int32} (h : ¬ (k' = k ∧ i' = i)) : hw_sv S k i j v k' i' = S k' i' := by
  funext j'
  unfold hw_sv
  rw [if_neg]
  rintro ⟨a, b, -⟩
  exact h ⟨a, b⟩
theorem hw_sv_row {S : hw_St} {k i j : Nat} {v : Int32} (j' : Nat) : hw_sv S k i j v k i j' = if j' = j then v else S k i j' := by
  unfold hw_sv
  by_cases h : j' = j
  · rw [if_pos ⟨rfl, rfl, h⟩, if_pos h]
  · rw [if_neg (fun q => h q.2.2), if_neg h]
theorem hw_sv_same {S : hw_St} {k i j : Nat} {v : Int32} : hw_sv S k i j v k i j = v := by rw [hw_sv_row, if_pos rfl]
/-- a String constant, the i-th: its cell and its bytes lie in the old heap -/
def hw_sc (B : hw_B) (i : Nat) (q : String × Nat × String) (U : State) : Prop := vk_R q.1 q.2.1 q.2.2 (hw_a B 60 i) U ∧ va_O "java/lang/String" (hw_a B 60 i) (fun x => B.1 ≤ x) U B.2.1 ∧ va_OF "java/lang/String" "coder" "B" (.int 0) (hw_a B 60 i) (fun x => B.1 ≤ x) U B.2.1 ∧ va_OF "java/lang/String" "value" "[B" (.ref (hw_a B 61 i)) (hw_a B 60 i) (fun x => B.1 ≤ x) U B.2.1 ∧ ∃ f : Nat → Int32, va_T .byte (hw_a B 61 i) (hw_sln i) (fun j => .int (f j)) (fun x => B.1 ≤ x) U B.2.1
/-- what throwing needs, and the String constants -/
def hw_Z (B : hw_B) (U : State) : Prop := (vx_Zq Bundle.tN "UNASSIGNED_STACK" Bundle.steD (fun x => B.1 ≤ x) U B.2.1 ∧ vx_Zq Bundle.tN "SUPPRESSED_SENTINEL" Bundle.listD (fun x => B.1 ≤ x) U B.2.1) ∧ va_Nc "java/lang/IllegalStateException" "java/lang/IllegalArgumentException" U ∧ (∀ (i : Nat) (q : String × Nat × String), hw_strs[i]? = some q → hw_sc B i q U) ∧ va_Z "java/lang/String" "COMPACT_STRINGS" "Z" (.int 1) (fun x => B.1 ≤ x) U B.2.1 ∧ va_Zq "jdk/internal/util/Preconditions" "SIOOBE_FORMATTER" "Ljava/util/function/BiFunction;" (fun x => B.1 ≤ x) U B.2.1
/-- what the tables say -/
def hw_K (B : hw_B) (U : State) : Prop := (∀ (c : Nat) (q : vw_C), vwCl[c]? = some q → u_Kn U q.1 q.2.1 q.2.2 (B.2.2.1.1.1 c) (B.2.2.1.1.2 c)) ∧ (∀ et : Nat, et < hw_nt → ArrOfT U (B.2.2.1.2 et) (hw_ft et) ∧ va_RA U (B.2.2.1.2 et) (hw_ft et)) ∧ (∀ w ∈ hw_TS, va_Nw w U) ∧ hw_Z B U
theorem hw_Nw_moved {s U : State} (hW : s.WarmedH U.vm) {w : Cond} (hw : hw_okw w = true) (h : va_Nw w s) : va_Nw w U := by
  have hg : goodWord w = true → va_Nw w U := fun hg => word_at hW (good_of_word hg) h
  cases w with
  | fieldLinkNest a i b n d z => exact va_Nw.warmF hW h
  | methodLinkNest a i x z => exact va_Nw.warmM hW h
  | declares x => exact va_Nw.warmD hW h
  | castable C T => exact va_Nw.warmC hW h
  | arrayOver t =>
    cases t with
    | object C => exact va_AO.moved hW.alike h
    | _ => exact hg hw
  | _ => exact hg hw
theorem hw_sc.moved {B : hw_B} {i : Nat} {q : String × Nat × String} {s U : State} (hW : s.WarmedH U.vm) (h : hw_sc B i q s) : hw_sc B i q U := by
  obtain ⟨h1, h2, h3, h4, f, h5⟩ := h
  exact ⟨vk_R.warm hW h1, va_O.moved hW.alike h2, va_OF.moved hW.alike h3, va_OF.moved hW.alike h4, f, va_T.moved hW.alike h5⟩
theorem hw_K.moved {B : hw_B} {s U : State} (hW : s.WarmedH U.vm) (h : hw_K B s) : hw_K B U :=
  ⟨fun c q hq => u_Kn_moved hW.alike (h.1 c q hq), fun et he => ⟨arrOfT_moved hW.alike (h.2.1 et he).1, (h.2.1 et he).2.moved hW.alike⟩, fun w hw => hw_Nw_moved hW (List.all_eq_true.mp hw_ok w hw) (h.2.2.1 w hw), ⟨vx_Zq.moved hW.alike h.2.2.2.1.1, vx_Zq.moved hW.alike h.2.2.2.1.2⟩, va_Nc.moved hW.alike h.2.2.2.2.1, fun i q hq => (h.2.2.2.2.2.1 i q hq).moved hW, va_Z.moved hW.alike h.2.2.2.2.2.2.1, va_Zq.moved hW.alike h.2.2.2.2.2.2.2⟩
end
section
/-! One row an instruction, over the judgement hw_V: the machine at pc with locals L (an association list) and stack st, in a world (nb, S), comes to a state with Q. -/
abbrev hw_X : Type := Program × Launch × Env × Room × State × MethodId × Array Value × List Frame × Method × Code
abbrev xR (X : hw_X) : Room := X.2.2.2.1
abbrev xs (X : hw_X) : State := X.2.2.2.2.1
abbrev xm (X : hw_X) : MethodId := X.2.2.2.2.2.1
abbrev xa (X : hw_X) : Array Value := X.2.2.2.2.2.2.1
abbrev xb (X : hw_X) : List Frame := X.2.2.2.2.2.2.2.1
abbrev xt (X : hw_X) : Method := X.2.2.2.2.2.2.2.2.1
abbrev xc (X : hw_X) : Code := X.2.2.2.2.2.2.2.2.2
abbrev hw_W (X : hw_X) (H : Heap) (locs : List Loc) (c sl : Nat) (Q : State → Prop) (g : JFrame) : Prop := W X.1 X.2.1 X.2.2.1 (xR X) (xs X) (xm X) (xa X) (xb X) (xt X) (xc X) H locs c sl Q g
def hw_L (B : hw_B) (fr : Nat → Prop) (nb : Nat → Nat) (z : Nat) (locs : List Loc) : Prop := (∀ q ∈ locs, fr q.base) ∧ (∀ k i : Nat, i < nb k → fr (hw_a B k i)) ∧ ∀ q : Nat, z ≤ q → fr q
def hw_V (X : hw_X) (B : hw_B) (fr : Nat → Prop) (nb : Nat → Nat) (S : hw_St) (z c sl : Nat) (Q : State → Prop) (nL pc : Nat) (L : List (Nat × Value)) (st : List Value) : Prop :=
  ∀ (ls : Array Slot) (H : Heap) (locs : List Loc), lv_has ls nL L → hw_P B nb S H → H.size = z → hw_L B fr nb z locs → hw_W X H locs c sl Q (F0 (xm X) pc ls st)
def hw_G (X : hw_X) (B : hw_B) (fr : Nat → Prop) (cc : ByteArray) (nL : Nat) (own : String) : Prop :=
  X.1.tables.exec = Jvm.exec ∧ (xc X).code = cc ∧ (xc X).maxLocals = nL ∧ (xs X).vm.findClass own = some (xm X).cls ∧ hw_K B (xs X) ∧ (xt X).locks = false ∧ (∀ (q : Nat) (cell : Cell), fr q → (xs X).heap[q]? = some cell → cell.vm.isStatics = false) ∧ (∀ q : Nat, fr q → B.1 ≤ q) ∧ ∀ q : Nat, q < B.1 → (xs X).heap[q]? = B.2.1[q]?
def hw_lk : List (Nat × Value) → Nat → Option Value
  | [], _ => none
  | q :: r, n => cond (Nat.beq q.1 n) (some q.2) (hw_lk r n)
theorem hw_lk_at {ls : Array Slot} {nL : Nat} {L : List (Nat × Value)} (h : lv_has ls nL L) {n : Nat} {v : Value} (hl : hw_lk L n = some v) : ls[n]? = some (.val v) := by
  suffices hm : (n, v) ∈ L from h.2.2 (n, v) hm
  clear h
  induction L with
  | nil => cases hl
  | cons q r ih =>
    unfold hw_lk at hl
    cases hb : Nat.beq q.1 n with
    | true =>
      rw [hb] at hl
      have h1 : q.1 = n := Nat.eq_of_beq_eq_true hb
      have h2 : q.2 = v := Option.some.inj hl
      subst h1; subst h2
      exact List.mem_cons_self
    | false =>
      rw [hb] at hl
      exact List.mem_cons_of_mem _ (ih hl)
theorem hw_lk_get {L : List (Nat × Value)} {n : Nat} {v : Value} (hl : hw_lk L n = some v) : ∃ k : Nat, L[k]? = some (n, v) := by
  induction L with
  | nil => cases hl
  | cons q r ih =>
    unfold hw_lk at hl
    cases hb : Nat.beq q.1 n with
    | true =>
      rw [hb] at hl
      have h1 : q.1 = n := Nat.eq_of_beq_eq_true hb
      have h2 : q.2 = v := Option.some.inj hl
      subst h1; subst h2
      exact ⟨0, rfl⟩
    | false =>
      rw [hb] at hl
      obtain ⟨k, hk⟩ := ih hl
      exact ⟨k + 1, hk⟩
def hw_st (L : List (Nat × Value)) (i : Nat) (v : Value) : List (Nat × Value) := (i, v) :: L.filter (fun q => !(q.1 == i) && !(q.1 + 1 == i && q.2.category == 2))
def hw_st2 (L : List (Nat × Value)) (i : Nat) (v : Value) : List (Nat × Value) := (i, v) :: L.filter (fun q => !(q.1 == i) && (!(q.1 == i + 1) && !(q.1 + 1 == i && q.2.category == 2)))
def hw_sub (L L' : List (Nat × Value)) : Prop := ∀ q ∈ L', hw_lk L q.1 = some q.2
theorem hw_s0 {L : List (Nat × Value)} : hw_sub L [] := fun q h => by cases h
theorem hw_s1 {L r : List (Nat × Value)} {n : Nat} {v : Value} (h : hw_lk L n = some v) (hr : hw_sub L r) : hw_sub L ((n, v) :: r) := fun q hq => by
  rcases List.mem_cons.mp hq with rfl | h'
  · exact h
  · exact hr q h'
section HR
variable {X : hw_X} {B : hw_B} {fr : Nat → Prop} {nb : Nat → Nat} {S : hw_St} {z c sl : Nat} {Q : State → Prop} {cc : ByteArray} {nL pc : Nat} {own : String} {L : List (Nat × Value)} {st : List Value}
theorem hr_L {L' : List (Nat × Value)} (h : hw_sub L L') (K : hw_V X B fr nb S z c sl Q nL pc L' st) : hw_V X B fr nb S z c sl Q nL pc L st :=
  fun ls H locs hl => K ls H locs ⟨hl.1, hl.2.1, fun q hq => hw_lk_at hl (h q hq)⟩
theorem hr_st {st' : List Value} (h : st = st') (K : hw_V X B fr nb S z c sl Q nL pc L st') : hw_V X B fr nb S z c sl Q nL pc L st := h ▸ K
theorem hr_S {S' : hw_St} (h : S = S') (K : hw_V X B fr nb S' z c sl Q nL pc L st) : hw_V X B fr nb S z c sl Q nL pc L st := h ▸ K
theorem hr_wide {c' sl' : Nat} (h1 : c ≤ c') (h2 : sl ≤ sl') (K : hw_V X B fr nb S z c' sl' Q nL pc L st) : hw_V X B fr nb S z c sl Q nL pc L st :=
  fun ls H locs hl hP hz hf => W.widen h1 h2 (K ls H locs hl hP hz hf)
theorem hr_topi {x : Int32} (K : ∀ y : Int32, y = x → hw_V X B fr nb S z c sl Q nL pc L (.int y :: st)) : hw_V X B fr nb S z c sl Q nL pc L (.int x :: st) := K x rfl

theorem hr_iconst (G : hw_G X B fr cc nL own) {n : Int} {v : Int32} (d : decode cc pc = .ok (.iconst n, 1)) (hv : Int32.ofInt n = v) (K : hw_V X B fr nb S z c sl Q nL (pc + 1) L (.int v :: st)) : hw_V X B fr nb S z c sl Q nL pc L (st) :=
  fun ls H locs hl hP hz hf => lv_iconst G.1 G.2.1 d hv (K ls H locs hl hP hz hf)
theorem hr_bipush (G : hw_G X B fr cc nL own) {n : Int} {v : Int32} (d : decode cc pc = .ok (.bipush n, 2)) (hv : (Int8.ofInt n).toInt32 = v) (K : hw_V X B fr nb S z c sl Q nL (pc + 2) L (.int v :: st)) : hw_V X B fr nb S z c sl Q nL pc L (st) :=
  fun ls H locs hl hP hz hf => lv_bipush G.1 G.2.1 d hv (K ls H locs hl hP hz hf)
theorem hr_sipush (G : hw_G X B fr cc nL own) {n : Int} {v : Int32} (d : decode cc pc = .ok (.sipush n, 3)) (hv : (Int16.ofInt n).toInt32 = v) (K : hw_V X B fr nb S z c sl Q nL (pc + 3) L (.int v :: st)) : hw_V X B fr nb S z c sl Q nL pc L (st) :=
  fun ls H locs hl hP hz hf => lv_sipush G.1 G.2.1 d hv (K ls H locs hl hP hz hf)
theorem hr_lconst (G : hw_G X B fr cc nL own) {n : Fin 2} {v : Int64} (d : decode cc pc = .ok (.lconst n, 1)) (hv : Int64.ofNat (n : Nat) = v) (K : hw_V X B fr nb S z c sl Q nL (pc + 1) L (.long v :: st)) : hw_V X B fr nb S z c sl Q nL pc L (st) :=
  fun ls H locs hl hP hz hf => lv_lconst G.1 G.2.1 d hv (K ls H locs hl hP hz hf)
theorem hr_null (G : hw_G X B fr cc nL own)  (d : decode cc pc = .ok (.aconst_null, 1)) (K : hw_V X B fr nb S z c sl Q nL (pc + 1) L (.null :: st)) : hw_V X B fr nb S z c sl Q nL pc L (st) :=
  fun ls H locs hl hP hz hf => lv_null G.1 G.2.1 d (K ls H locs hl hP hz hf)
theorem hr_iload_n (G : hw_G X B fr cc nL own) {k : Fin 4} {i : Nat} {x : Int32} (d : decode cc pc = .ok (.iload_n k, 1)) (hi : (k : Nat) = i) (h : hw_lk L i = some (.int x)) (K : hw_V X B fr nb S z c sl Q nL (pc + 1) L (.int x :: st)) : hw_V X B fr nb S z c sl Q nL pc L (st) :=
  fun ls H locs hl hP hz hf => lv_iload_n G.1 G.2.1 d hi (hw_lk_at hl h) (K ls H locs hl hP hz hf)
theorem hr_iload (G : hw_G X B fr cc nL own) {k : Nat} {x : Int32} (d : decode cc pc = .ok (.iload k, 2)) (h : hw_lk L k = some (.int x)) (K : hw_V X B fr nb S z c sl Q nL (pc + 2) L (.int x :: st)) : hw_V X B fr nb S z c sl Q nL pc L (st) :=
  fun ls H locs hl hP hz hf => lv_iload G.1 G.2.1 d (hw_lk_at hl h) (K ls H locs hl hP hz hf)
theorem hr_lload_n (G : hw_G X B fr cc nL own) {k : Fin 4} {i : Nat} {x : Int64} (d : decode cc pc = .ok (.lload_n k, 1)) (hi : (k : Nat) = i) (h : hw_lk L i = some (.long x)) (K : hw_V X B fr nb S z c sl Q nL (pc + 1) L (.long x :: st)) : hw_V X B fr nb S z c sl Q nL pc L (st) :=
  fun ls H locs hl hP hz hf => lv_lload_n G.1 G.2.1 d hi (hw_lk_at hl h) (K ls H locs hl hP hz hf)
theorem hr_lload (G : hw_G X B fr cc nL own) {k : Nat} {x : Int64} (d : decode cc pc = .ok (.lload k, 2)) (h : hw_lk L k = some (.long x)) (K : hw_V X B fr nb S z c sl Q nL (pc + 2) L (.long x :: st)) : hw_V X B fr nb S z c sl Q nL pc L (st) :=
  fun ls H locs hl hP hz hf => lv_lload G.1 G.2.1 d (hw_lk_at hl h) (K ls H locs hl hP hz hf)
theorem hr_aload_n (G : hw_G X B fr cc nL own) {k : Fin 4} {i : Nat} {x : Nat} (d : decode cc pc = .ok (.aload_n k, 1)) (hi : (k : Nat) = i) (h : hw_lk L i = some (.ref x)) (K : hw_V X B fr nb S z c sl Q nL (pc + 1) L (.ref x :: st)) : hw_V X B fr nb S z c sl Q nL pc L (st) :=
  fun ls H locs hl hP hz hf => lv_aload_n G.1 G.2.1 d hi (hw_lk_at hl h) (K ls H locs hl hP hz hf)
theorem hr_aload (G : hw_G X B fr cc nL own) {k : Nat} {x : Nat} (d : decode cc pc = .ok (.aload k, 2)) (h : hw_lk L k = some (.ref x)) (K : hw_V X B fr nb S z c sl Q nL (pc + 2) L (.ref x :: st)) : hw_V X B fr nb S z c sl Q nL pc L (st) :=
  fun ls H locs hl hP hz hf => lv_aload G.1 G.2.1 d (hw_lk_at hl h) (K ls H locs hl hP hz hf)
theorem hr_aload_nN (G : hw_G X B fr cc nL own) {k : Fin 4} {i : Nat} (d : decode cc pc = .ok (.aload_n k, 1)) (hi : (k : Nat) = i) (h : hw_lk L i = some .null) (K : hw_V X B fr nb S z c sl Q nL (pc + 1) L (.null :: st)) : hw_V X B fr nb S z c sl Q nL pc L (st) :=
  fun ls H locs hl hP hz hf => lv_aload_nN G.1 G.2.1 d hi (hw_lk_at hl h) (K ls H locs hl hP hz hf)
theorem hr_aloadN (G : hw_G X B fr cc nL own) {k : Nat} (d : decode cc pc = .ok (.aload k, 2)) (h : hw_lk L k = some .null) (K : hw_V X B fr nb S z c sl Q nL (pc + 2) L (.null :: st)) : hw_V X B fr nb S z c sl Q nL pc L (st) :=
  fun ls H locs hl hP hz hf => lv_aloadN G.1 G.2.1 d (hw_lk_at hl h) (K ls H locs hl hP hz hf)
theorem hr_istore_n (G : hw_G X B fr cc nL own) {k : Fin 4} {i : Nat} {x : Int32} (d : decode cc pc = .ok (.istore_n k, 1)) (hi : (k : Nat) = i) (hn : i < nL) (K : hw_V X B fr nb S z c sl Q nL (pc + 1) (hw_st L i (.int x)) st) : hw_V X B fr nb S z c sl Q nL pc L (.int x :: st) :=
  fun ls H locs hl hP hz hf => lv_istore_n G.1 G.2.1 d hi hl hn rfl (fun ls' hl' => K ls' H locs hl' hP hz hf)
theorem hr_istore (G : hw_G X B fr cc nL own) {i : Nat} {x : Int32} (d : decode cc pc = .ok (.istore i, 2)) (hn : i < nL) (K : hw_V X B fr nb S z c sl Q nL (pc + 2) (hw_st L i (.int x)) st) : hw_V X B fr nb S z c sl Q nL pc L (.int x :: st) :=
  fun ls H locs hl hP hz hf => lv_istore G.1 G.2.1 d hl hn rfl (fun ls' hl' => K ls' H locs hl' hP hz hf)
theorem hr_astore_n (G : hw_G X B fr cc nL own) {k : Fin 4} {i : Nat} {x : Nat} (d : decode cc pc = .ok (.astore_n k, 1)) (hi : (k : Nat) = i) (hn : i < nL) (K : hw_V X B fr nb S z c sl Q nL (pc + 1) (hw_st L i (.ref x)) st) : hw_V X B fr nb S z c sl Q nL pc L (.ref x :: st) :=
  fun ls H locs hl hP hz hf => lv_astore_n G.1 G.2.1 d hi hl hn rfl (fun ls' hl' => K ls' H locs hl' hP hz hf)
theorem hr_astore (G : hw_G X B fr cc nL own) {i : Nat} {x : Nat} (d : decode cc pc = .ok (.astore i, 2)) (hn : i < nL) (K : hw_V X B fr nb S z c sl Q nL (pc + 2) (hw_st L i (.ref x)) st) : hw_V X B fr nb S z c sl Q nL pc L (.ref x :: st) :=
  fun ls H locs hl hP hz hf => lv_astore G.1 G.2.1 d hl hn rfl (fun ls' hl' => K ls' H locs hl' hP hz hf)
theorem hr_astore_nN (G : hw_G X B fr cc nL own) {k : Fin 4} {i : Nat}  (d : decode cc pc = .ok (.astore_n k, 1)) (hi : (k : Nat) = i) (hn : i < nL) (K : hw_V X B fr nb S z c sl Q nL (pc + 1) (hw_st L i (.null)) st) : hw_V X B fr nb S z c sl Q nL pc L (.null :: st) :=
  fun ls H locs hl hP hz hf => lv_astore_nN G.1 G.2.1 d hi hl hn rfl (fun ls' hl' => K ls' H locs hl' hP hz hf)
theorem hr_astoreN (G : hw_G X B fr cc nL own) {i : Nat}  (d : decode cc pc = .ok (.astore i, 2)) (hn : i < nL) (K : hw_V X B fr nb S z c sl Q nL (pc + 2) (hw_st L i (.null)) st) : hw_V X B fr nb S z c sl Q nL pc L (.null :: st) :=
  fun ls H locs hl hP hz hf => lv_astoreN G.1 G.2.1 d hl hn rfl (fun ls' hl' => K ls' H locs hl' hP hz hf)
theorem hr_lstore_n (G : hw_G X B fr cc nL own) {k : Fin 4} {i : Nat} {x : Int64} (d : decode cc pc = .ok (.lstore_n k, 1)) (hi : (k : Nat) = i) (hn : i + 1 < nL) (K : hw_V X B fr nb S z c sl Q nL (pc + 1) (hw_st2 L i (.long x)) st) : hw_V X B fr nb S z c sl Q nL pc L (.long x :: st) :=
  fun ls H locs hl hP hz hf => lv_lstore_n G.1 G.2.1 d hi hl hn rfl (fun ls' hl' => K ls' H locs hl' hP hz hf)
theorem hr_lstore (G : hw_G X B fr cc nL own) {i : Nat} {x : Int64} (d : decode cc pc = .ok (.lstore i, 2)) (hn : i + 1 < nL) (K : hw_V X B fr nb S z c sl Q nL (pc + 2) (hw_st2 L i (.long x)) st) : hw_V X B fr nb S z c sl Q nL pc L (.long x :: st) :=
  fun ls H locs hl hP hz hf => lv_lstore G.1 G.2.1 d hl hn rfl (fun ls' hl' => K ls' H locs hl' hP hz hf)
theorem hr_iinc (G : hw_G X B fr cc nL own) {i : Nat} {n : Int} {x v : Int32} (d : decode cc pc = .ok (.iinc i n, 3)) (h : hw_lk L i = some (.int x)) (hv : x + Int32.ofInt n = v) (hn : i < nL) (K : hw_V X B fr nb S z c sl Q nL (pc + 3) (hw_st L i (.int v)) st) : hw_V X B fr nb S z c sl Q nL pc L st :=
  fun ls H locs hl hP hz hf => by
    obtain ⟨k, hk⟩ := hw_lk_get h
    exact lv_iinc (k := k) G.1 G.2.1 d hl hk hv hn rfl (fun ls' hl' => K ls' H locs hl' hP hz hf)
theorem hr_iadd (G : hw_G X B fr cc nL own) {x y : Int32} (d : decode cc pc = .ok (.iadd, 1)) (K : hw_V X B fr nb S z c sl Q nL (pc + 1) L (.int (x + y) :: st)) : hw_V X B fr nb S z c sl Q nL pc L (.int y :: .int x :: st) :=
  fun ls H locs hl hP hz hf => lv_iadd G.1 G.2.1 d (K ls H locs hl hP hz hf)
theorem hr_isub (G : hw_G X B fr cc nL own) {x y : Int32} (d : decode cc pc = .ok (.isub, 1)) (K : hw_V X B fr nb S z c sl Q nL (pc + 1) L (.int (x - y) :: st)) : hw_V X B fr nb S z c sl Q nL pc L (.int y :: .int x :: st) :=
  fun ls H locs hl hP hz hf => lv_isub G.1 G.2.1 d (K ls H locs hl hP hz hf)
theorem hr_imul (G : hw_G X B fr cc nL own) {x y : Int32} (d : decode cc pc = .ok (.imul, 1)) (K : hw_V X B fr nb S z c sl Q nL (pc + 1) L (.int (x * y) :: st)) : hw_V X B fr nb S z c sl Q nL pc L (.int y :: .int x :: st) :=
  fun ls H locs hl hP hz hf => lv_imul G.1 G.2.1 d (K ls H locs hl hP hz hf)
theorem hr_iand (G : hw_G X B fr cc nL own) {x y : Int32} (d : decode cc pc = .ok (.iand, 1)) (K : hw_V X B fr nb S z c sl Q nL (pc + 1) L (.int (x &&& y) :: st)) : hw_V X B fr nb S z c sl Q nL pc L (.int y :: .int x :: st) :=
  fun ls H locs hl hP hz hf => lv_iand G.1 G.2.1 d (K ls H locs hl hP hz hf)
theorem hr_ior (G : hw_G X B fr cc nL own) {x y : Int32} (d : decode cc pc = .ok (.ior, 1)) (K : hw_V X B fr nb S z c sl Q nL (pc + 1) L (.int (x ||| y) :: st)) : hw_V X B fr nb S z c sl Q nL pc L (.int y :: .int x :: st) :=
  fun ls H locs hl hP hz hf => lv_ior G.1 G.2.1 d (K ls H locs hl hP hz hf)
theorem hr_ixor (G : hw_G X B fr cc nL own) {x y : Int32} (d : decode cc pc = .ok (.ixor, 1)) (K : hw_V X B fr nb S z c sl Q nL (pc + 1) L (.int (x ^^^ y) :: st)) : hw_V X B fr nb S z c sl Q nL pc L (.int y :: .int x :: st) :=
  fun ls H locs hl hP hz hf => lv_ixor G.1 G.2.1 d (K ls H locs hl hP hz hf)
theorem hr_ishl (G : hw_G X B fr cc nL own) {x y : Int32} (d : decode cc pc = .ok (.ishl, 1)) (K : hw_V X B fr nb S z c sl Q nL (pc + 1) L (.int (x <<< (y &&& 31)) :: st)) : hw_V X B fr nb S z c sl Q nL pc L (.int y :: .int x :: st) :=
  fun ls H locs hl hP hz hf => lv_ishl G.1 G.2.1 d (K ls H locs hl hP hz hf)
theorem hr_ishr (G : hw_G X B fr cc nL own) {x y : Int32} (d : decode cc pc = .ok (.ishr, 1)) (K : hw_V X B fr nb S z c sl Q nL (pc + 1) L (.int (x >>> (y &&& 31)) :: st)) : hw_V X B fr nb S z c sl Q nL pc L (.int y :: .int x :: st) :=
  fun ls H locs hl hP hz hf => lv_ishr G.1 G.2.1 d (K ls H locs hl hP hz hf)
theorem hr_idiv (G : hw_G X B fr cc nL own) {x y : Int32} (d : decode cc pc = .ok (.idiv, 1)) (hne : ¬ y = 0) (K : hw_V X B fr nb S z c sl Q nL (pc + 1) L (.int (x / y) :: st)) : hw_V X B fr nb S z c sl Q nL pc L (.int y :: .int x :: st) :=
  fun ls H locs hl hP hz hf => lv_idiv G.1 G.2.1 d hne (K ls H locs hl hP hz hf)
theorem hr_irem (G : hw_G X B fr cc nL own) {x y : Int32} (d : decode cc pc = .ok (.irem, 1)) (hne : ¬ y = 0) (K : hw_V X B fr nb S z c sl Q nL (pc + 1) L (.int (x - x / y * y) :: st)) : hw_V X B fr nb S z c sl Q nL pc L (.int y :: .int x :: st) :=
  fun ls H locs hl hP hz hf => lv_irem G.1 G.2.1 d hne (K ls H locs hl hP hz hf)
theorem hr_ineg (G : hw_G X B fr cc nL own) {x : Int32} (d : decode cc pc = .ok (.ineg, 1)) (K : hw_V X B fr nb S z c sl Q nL (pc + 1) L (.int (-x) :: st)) : hw_V X B fr nb S z c sl Q nL pc L (.int x :: st) :=
  fun ls H locs hl hP hz hf => lv_ineg G.1 G.2.1 d (K ls H locs hl hP hz hf)
theorem hr_ladd (G : hw_G X B fr cc nL own) {x y : Int64} (d : decode cc pc = .ok (.ladd, 1)) (K : hw_V X B fr nb S z c sl Q nL (pc + 1) L (.long (x + y) :: st)) : hw_V X B fr nb S z c sl Q nL pc L (.long y :: .long x :: st) :=
  fun ls H locs hl hP hz hf => lv_ladd G.1 G.2.1 d (K ls H locs hl hP hz hf)
theorem hr_lsub (G : hw_G X B fr cc nL own) {x y : Int64} (d : decode cc pc = .ok (.lsub, 1)) (K : hw_V X B fr nb S z c sl Q nL (pc + 1) L (.long (x - y) :: st)) : hw_V X B fr nb S z c sl Q nL pc L (.long y :: .long x :: st) :=
  fun ls H locs hl hP hz hf => lv_lsub G.1 G.2.1 d (K ls H locs hl hP hz hf)
theorem hr_lmul (G : hw_G X B fr cc nL own) {x y : Int64} (d : decode cc pc = .ok (.lmul, 1)) (K : hw_V X B fr nb S z c sl Q nL (pc + 1) L (.long (x * y) :: st)) : hw_V X B fr nb S z c sl Q nL pc L (.long y :: .long x :: st) :=
  fun ls H locs hl hP hz hf => lv_lmul G.1 G.2.1 d (K ls H locs hl hP hz hf)
theorem hr_ldiv (G : hw_G X B fr cc nL own) {x y : Int64} (d : decode cc pc = .ok (.ldiv, 1)) (hne : ¬ y = 0) (K : hw_V X B fr nb S z c sl Q nL (pc + 1) L (.long (x / y) :: st)) : hw_V X B fr nb S z c sl Q nL pc L (.long y :: .long x :: st) :=
  fun ls H locs hl hP hz hf => lv_ldiv G.1 G.2.1 d hne (K ls H locs hl hP hz hf)
theorem hr_lrem (G : hw_G X B fr cc nL own) {x y : Int64} (d : decode cc pc = .ok (.lrem, 1)) (hne : ¬ y = 0) (K : hw_V X B fr nb S z c sl Q nL (pc + 1) L (.long (x - x / y * y) :: st)) : hw_V X B fr nb S z c sl Q nL pc L (.long y :: .long x :: st) :=
  fun ls H locs hl hP hz hf => lv_lrem G.1 G.2.1 d hne (K ls H locs hl hP hz hf)
theorem hr_lneg (G : hw_G X B fr cc nL own) {x : Int64} (d : decode cc pc = .ok (.lneg, 1)) (K : hw_V X B fr nb S z c sl Q nL (pc + 1) L (.long (-x) :: st)) : hw_V X B fr nb S z c sl Q nL pc L (.long x :: st) :=
  fun ls H locs hl hP hz hf => lv_lneg G.1 G.2.1 d (K ls H locs hl hP hz hf)
theorem hr_lcmp (G : hw_G X B fr cc nL own) {x y : Int64} (d : decode cc pc = .ok (.lcmp, 1)) (K : hw_V X B fr nb S z c sl Q nL (pc + 1) L (.int (lg_cmp x y) :: st)) : hw_V X B fr nb S z c sl Q nL pc L (.long y :: .long x :: st) :=
  fun ls H locs hl hP hz hf => W.lcmp G.1 G.2.1 d (K ls H locs hl hP hz hf)
theorem hr_i2l (G : hw_G X B fr cc nL own) {x : Int32} (d : decode cc pc = .ok (.i2l, 1)) (K : hw_V X B fr nb S z c sl Q nL (pc + 1) L (.long x.toInt64 :: st)) : hw_V X B fr nb S z c sl Q nL pc L (.int x :: st) :=
  fun ls H locs hl hP hz hf => lv_i2l G.1 G.2.1 d rfl (K ls H locs hl hP hz hf)
theorem hr_l2i (G : hw_G X B fr cc nL own) {x : Int64} (d : decode cc pc = .ok (.l2i, 1)) (K : hw_V X B fr nb S z c sl Q nL (pc + 1) L (.int x.toInt32 :: st)) : hw_V X B fr nb S z c sl Q nL pc L (.long x :: st) :=
  fun ls H locs hl hP hz hf => lv_l2i G.1 G.2.1 d rfl (K ls H locs hl hP hz hf)
theorem hr_i2c (G : hw_G X B fr cc nL own) {x : Int32} (d : decode cc pc = .ok (.i2c, 1)) (K : hw_V X B fr nb S z c sl Q nL (pc + 1) L (.int (x.toUInt32 % 65536).toInt32 :: st)) : hw_V X B fr nb S z c sl Q nL pc L (.int x :: st) :=
  fun ls H locs hl hP hz hf => lv_i2c G.1 G.2.1 d rfl (K ls H locs hl hP hz hf)
theorem hr_dup (G : hw_G X B fr cc nL own) {a : Value} (d : decode cc pc = .ok (.dup, 1)) (h : a.category = 1) (K : hw_V X B fr nb S z c sl Q nL (pc + 1) L (a :: a :: st)) : hw_V X B fr nb S z c sl Q nL pc L (a :: st) :=
  fun ls H locs hl hP hz hf => lv_dup G.1 G.2.1 d h (K ls H locs hl hP hz hf)
theorem hr_pop (G : hw_G X B fr cc nL own) {a : Value} (d : decode cc pc = .ok (.pop, 1)) (h : a.category = 1) (K : hw_V X B fr nb S z c sl Q nL (pc + 1) L (st)) : hw_V X B fr nb S z c sl Q nL pc L (a :: st) :=
  fun ls H locs hl hP hz hf => lv_pop G.1 G.2.1 d h (K ls H locs hl hP hz hf)
theorem hr_dup_x1 (G : hw_G X B fr cc nL own) {a b : Value} (d : decode cc pc = .ok (.dup_x1, 1)) (h : a.category = 1) (h2 : b.category = 1) (K : hw_V X B fr nb S z c sl Q nL (pc + 1) L (a :: b :: a :: st)) : hw_V X B fr nb S z c sl Q nL pc L (a :: b :: st) :=
  fun ls H locs hl hP hz hf => lv_dup_x1 G.1 G.2.1 d h h2 (K ls H locs hl hP hz hf)
theorem hr_dup_x2 (G : hw_G X B fr cc nL own) {a b e : Value} (d : decode cc pc = .ok (.dup_x2, 1)) (h : a.category = 1) (h2 : b.category = 1) (h3 : e.category = 1) (K : hw_V X B fr nb S z c sl Q nL (pc + 1) L (a :: b :: e :: a :: st)) : hw_V X B fr nb S z c sl Q nL pc L (a :: b :: e :: st) :=
  fun ls H locs hl hP hz hf => lv_dup_x2 G.1 G.2.1 d h h2 h3 (K ls H locs hl hP hz hf)
theorem hr_dup2 (G : hw_G X B fr cc nL own) {a b : Value} (d : decode cc pc = .ok (.dup2, 1)) (h : a.category = 1) (h2 : b.category = 1) (K : hw_V X B fr nb S z c sl Q nL (pc + 1) L (a :: b :: a :: b :: st)) : hw_V X B fr nb S z c sl Q nL pc L (a :: b :: st) :=
  fun ls H locs hl hP hz hf => lv_dup2_11 G.1 G.2.1 d h h2 (K ls H locs hl hP hz hf)
theorem hr_if_eq (G : hw_G X B fr cc nL own) {x : Int32} {off : Int} {tgt : Nat} (d : decode cc pc = .ok (.ifCond .eq off, 3)) (ht : (pc : Int) + off = (tgt : Int)) (kt : x = 0 → hw_V X B fr nb S z c sl Q nL tgt L st) (kf : ¬ x = 0 → hw_V X B fr nb S z c sl Q nL (pc + 3) L st) : hw_V X B fr nb S z c sl Q nL pc L (.int x :: st) :=
  fun ls H locs hl hP hz hf => lv_if_eq G.1 G.2.1 d ht (fun h => kt h ls H locs hl hP hz hf) (fun h => kf h ls H locs hl hP hz hf)
theorem hr_icmp_eq (G : hw_G X B fr cc nL own) {x y : Int32} {off : Int} {tgt : Nat} (d : decode cc pc = .ok (.if_icmp .eq off, 3)) (ht : (pc : Int) + off = (tgt : Int)) (kt : x = y → hw_V X B fr nb S z c sl Q nL tgt L st) (kf : ¬ x = y → hw_V X B fr nb S z c sl Q nL (pc + 3) L st) : hw_V X B fr nb S z c sl Q nL pc L (.int y :: .int x :: st) :=
  fun ls H locs hl hP hz hf => lv_icmp_eq G.1 G.2.1 d ht (fun h => kt h ls H locs hl hP hz hf) (fun h => kf h ls H locs hl hP hz hf)
theorem hr_if_ne (G : hw_G X B fr cc nL own) {x : Int32} {off : Int} {tgt : Nat} (d : decode cc pc = .ok (.ifCond .ne off, 3)) (ht : (pc : Int) + off = (tgt : Int)) (kt : ¬ x = 0 → hw_V X B fr nb S z c sl Q nL tgt L st) (kf : x = 0 → hw_V X B fr nb S z c sl Q nL (pc + 3) L st) : hw_V X B fr nb S z c sl Q nL pc L (.int x :: st) :=
  fun ls H locs hl hP hz hf => lv_if_ne G.1 G.2.1 d ht (fun h => kt h ls H locs hl hP hz hf) (fun h => kf h ls H locs hl hP hz hf)
theorem hr_icmp_ne (G : hw_G X B fr cc nL own) {x y : Int32} {off : Int} {tgt : Nat} (d : decode cc pc = .ok (.if_icmp .ne off, 3)) (ht : (pc : Int) + off = (tgt : Int)) (kt : ¬ x = y → hw_V X B fr nb S z c sl Q nL tgt L st) (kf : x = y → hw_V X B fr nb S z c sl Q nL (pc + 3) L st) : hw_V X B fr nb S z c sl Q nL pc L (.int y :: .int x :: st) :=
  fun ls H locs hl hP hz hf => lv_icmp_ne G.1 G.2.1 d ht (fun h => kt h ls H locs hl hP hz hf) (fun h => kf h ls H locs hl hP hz hf)
theorem hr_if_lt (G : hw_G X B fr cc nL own) {x : Int32} {off : Int} {tgt : Nat} (d : decode cc pc = .ok (.ifCond .lt off, 3)) (ht : (pc : Int) + off = (tgt : Int)) (kt : x < 0 → hw_V X B fr nb S z c sl Q nL tgt L st) (kf : ¬ x < 0 → hw_V X B fr nb S z c sl Q nL (pc + 3) L st) : hw_V X B fr nb S z c sl Q nL pc L (.int x :: st) :=
  fun ls H locs hl hP hz hf => lv_if_lt G.1 G.2.1 d ht (fun h => kt h ls H locs hl hP hz hf) (fun h => kf h ls H locs hl hP hz hf)
theorem hr_icmp_lt (G : hw_G X B fr cc nL own) {x y : Int32} {off : Int} {tgt : Nat} (d : decode cc pc = .ok (.if_icmp .lt off, 3)) (ht : (pc : Int) + off = (tgt : Int)) (kt : x < y → hw_V X B fr nb S z c sl Q nL tgt L st) (kf : ¬ x < y → hw_V X B fr nb S z c sl Q nL (pc + 3) L st) : hw_V X B fr nb S z c sl Q nL pc L (.int y :: .int x :: st) :=
  fun ls H locs hl hP hz hf => lv_icmp_lt G.1 G.2.1 d ht (fun h => kt h ls H locs hl hP hz hf) (fun h => kf h ls H locs hl hP hz hf)
theorem hr_if_ge (G : hw_G X B fr cc nL own) {x : Int32} {off : Int} {tgt : Nat} (d : decode cc pc = .ok (.ifCond .ge off, 3)) (ht : (pc : Int) + off = (tgt : Int)) (kt : 0 ≤ x → hw_V X B fr nb S z c sl Q nL tgt L st) (kf : ¬ 0 ≤ x → hw_V X B fr nb S z c sl Q nL (pc + 3) L st) : hw_V X B fr nb S z c sl Q nL pc L (.int x :: st) :=
  fun ls H locs hl hP hz hf => lv_if_ge G.1 G.2.1 d ht (fun h => kt h ls H locs hl hP hz hf) (fun h => kf h ls H locs hl hP hz hf)
theorem hr_icmp_ge (G : hw_G X B fr cc nL own) {x y : Int32} {off : Int} {tgt : Nat} (d : decode cc pc = .ok (.if_icmp .ge off, 3)) (ht : (pc : Int) + off = (tgt : Int)) (kt : y ≤ x → hw_V X B fr nb S z c sl Q nL tgt L st) (kf : ¬ y ≤ x → hw_V X B fr nb S z c sl Q nL (pc + 3) L st) : hw_V X B fr nb S z c sl Q nL pc L (.int y :: .int x :: st) :=
  fun ls H locs hl hP hz hf => lv_icmp_ge G.1 G.2.1 d ht (fun h => kt h ls H locs hl hP hz hf) (fun h => kf h ls H locs hl hP hz hf)
theorem hr_if_gt (G : hw_G X B fr cc nL own) {x : Int32} {off : Int} {tgt : Nat} (d : decode cc pc = .ok (.ifCond .gt off, 3)) (ht : (pc : Int) + off = (tgt : Int)) (kt : 0 < x → hw_V X B fr nb S z c sl Q nL tgt L st) (kf : ¬ 0 < x → hw_V X B fr nb S z c sl Q nL (pc + 3) L st) : hw_V X B fr nb S z c sl Q nL pc L (.int x :: st) :=
  fun ls H locs hl hP hz hf => lv_if_gt G.1 G.2.1 d ht (fun h => kt h ls H locs hl hP hz hf) (fun h => kf h ls H locs hl hP hz hf)
theorem hr_icmp_gt (G : hw_G X B fr cc nL own) {x y : Int32} {off : Int} {tgt : Nat} (d : decode cc pc = .ok (.if_icmp .gt off, 3)) (ht : (pc : Int) + off = (tgt : Int)) (kt : y < x → hw_V X B fr nb S z c sl Q nL tgt L st) (kf : ¬ y < x → hw_V X B fr nb S z c sl Q nL (pc + 3) L st) : hw_V X B fr nb S z c sl Q nL pc L (.int y :: .int x :: st) :=
  fun ls H locs hl hP hz hf => lv_icmp_gt G.1 G.2.1 d ht (fun h => kt h ls H locs hl hP hz hf) (fun h => kf h ls H locs hl hP hz hf)
theorem hr_if_le (G : hw_G X B fr cc nL own) {x : Int32} {off : Int} {tgt : Nat} (d : decode cc pc = .ok (.ifCond .le off, 3)) (ht : (pc : Int) + off = (tgt : Int)) (kt : x ≤ 0 → hw_V X B fr nb S z c sl Q nL tgt L st) (kf : ¬ x ≤ 0 → hw_V X B fr nb S z c sl Q nL (pc + 3) L st) : hw_V X B fr nb S z c sl Q nL pc L (.int x :: st) :=
  fun ls H locs hl hP hz hf => lv_if_le G.1 G.2.1 d ht (fun h => kt h ls H locs hl hP hz hf) (fun h => kf h ls H locs hl hP hz hf)
theorem hr_icmp_le (G : hw_G X B fr cc nL own) {x y : Int32} {off : Int} {tgt : Nat} (d : decode cc pc = .ok (.if_icmp .le off, 3)) (ht : (pc : Int) + off = (tgt : Int)) (kt : x ≤ y → hw_V X B fr nb S z c sl Q nL tgt L st) (kf : ¬ x ≤ y → hw_V X B fr nb S z c sl Q nL (pc + 3) L st) : hw_V X B fr nb S z c sl Q nL pc L (.int y :: .int x :: st) :=
  fun ls H locs hl hP hz hf => lv_icmp_le G.1 G.2.1 d ht (fun h => kt h ls H locs hl hP hz hf) (fun h => kf h ls H locs hl hP hz hf)
theorem hr_goto (G : hw_G X B fr cc nL own) {off : Int} {tgt : Nat} (d : decode cc pc = .ok (.goto off, 3)) (ht : (pc : Int) + off = (tgt : Int)) (K : hw_V X B fr nb S z c sl Q nL tgt L st) : hw_V X B fr nb S z c sl Q nL pc L st :=
  fun ls H locs hl hP hz hf => lv_goto G.1 G.2.1 d ht (K ls H locs hl hP hz hf)
theorem hr_ifnonnull (G : hw_G X B fr cc nL own) {x : Nat} {off : Int} {tgt : Nat} (d : decode cc pc = .ok (.ifnonnull off, 3)) (ht : (pc : Int) + off = (tgt : Int)) (K : hw_V X B fr nb S z c sl Q nL tgt L st) : hw_V X B fr nb S z c sl Q nL pc L (.ref x :: st) :=
  fun ls H locs hl hP hz hf => lv_ifnonnull G.1 G.2.1 d ht (K ls H locs hl hP hz hf)
theorem hr_ifnull (G : hw_G X B fr cc nL own) {x : Nat} {off : Int} (d : decode cc pc = .ok (.ifnull off, 3)) (K : hw_V X B fr nb S z c sl Q nL (pc + 3) L st) : hw_V X B fr nb S z c sl Q nL pc L (.ref x :: st) :=
  fun ls H locs hl hP hz hf => lv_ifnull G.1 G.2.1 d (K ls H locs hl hP hz hf)
theorem hr_ifnullN (G : hw_G X B fr cc nL own) {off : Int} {tgt : Nat} (d : decode cc pc = .ok (.ifnull off, 3)) (ht : (pc : Int) + off = (tgt : Int)) (K : hw_V X B fr nb S z c sl Q nL tgt L st) : hw_V X B fr nb S z c sl Q nL pc L (.null :: st) :=
  fun ls H locs hl hP hz hf => lv_ifnullN G.1 G.2.1 d ht (K ls H locs hl hP hz hf)
theorem hr_ifnonnullN (G : hw_G X B fr cc nL own) {off : Int} (d : decode cc pc = .ok (.ifnonnull off, 3)) (K : hw_V X B fr nb S z c sl Q nL (pc + 3) L st) : hw_V X B fr nb S z c sl Q nL pc L (.null :: st) :=
  fun ls H locs hl hP hz hf => lv_ifnonnullN G.1 G.2.1 d (K ls H locs hl hP hz hf)
theorem hr_acmp_ne (G : hw_G X B fr cc nL own) {x y : Nat} {off : Int} {tgt : Nat} (d : decode cc pc = .ok (.if_acmp .ne off, 3)) (ht : (pc : Int) + off = (tgt : Int)) (kt : ¬ x = y → hw_V X B fr nb S z c sl Q nL tgt L st) (kf : x = y → hw_V X B fr nb S z c sl Q nL (pc + 3) L st) : hw_V X B fr nb S z c sl Q nL pc L (.ref y :: .ref x :: st) :=
  fun ls H locs hl hP hz hf => lv_acmp_ne (rx := some x) (ry := some y) G.1 G.2.1 d ht (fun h => kt (fun e => h (congrArg some e)) ls H locs hl hP hz hf) (fun h => kf (Option.some.inj h) ls H locs hl hP hz hf)
theorem hr_tblOut (G : hw_G X B fr cc nL own) {dflt lo hi : Int} {offs : Array Int} {len : Nat} {x : Int32} {tgt : Nat} (d : decode cc pc = .ok (.tableswitch dflt lo hi offs, len)) (h : x.toInt < lo ∨ hi < x.toInt) (ht : (pc : Int) + dflt = (tgt : Int)) (K : hw_V X B fr nb S z c sl Q nL tgt L st) : hw_V X B fr nb S z c sl Q nL pc L (.int x :: st) :=
  fun ls H locs hl hP hz hf => lv_tableOut G.1 G.2.1 d h ht (K ls H locs hl hP hz hf)
theorem hr_tblIn (G : hw_G X B fr cc nL own) {dflt lo hi : Int} {offs : Array Int} {len : Nat} {x : Int32} {off : Int} {tgt : Nat} (d : decode cc pc = .ok (.tableswitch dflt lo hi offs, len)) (h1 : ¬ x.toInt < lo) (h2 : ¬ hi < x.toInt) (ho : offs[(x.toInt - lo).toNat]? = some off) (ht : (pc : Int) + off = (tgt : Int)) (K : hw_V X B fr nb S z c sl Q nL tgt L st) : hw_V X B fr nb S z c sl Q nL pc L (.int x :: st) :=
  fun ls H locs hl hP hz hf => lv_tableIn G.1 G.2.1 d h1 h2 ho ht (K ls H locs hl hP hz hf)
theorem hr_lookup (G : hw_G X B fr cc nL own) {dflt : Int} {ps : Array (Int × Int)} {len : Nat} {x : Int32} {off : Int} {tgt : Nat} (d : decode cc pc = .ok (.lookupswitch dflt ps, len)) (hp : (ps.toList.zip (ps.toList.drop 1)).all (fun (a, next) => a.1 < next.1) = true) (ho : Op.lookupswitch.offset ps.toList dflt x.toInt = off) (ht : (pc : Int) + off = (tgt : Int)) (K : hw_V X B fr nb S z c sl Q nL tgt L st) : hw_V X B fr nb S z c sl Q nL pc L (.int x :: st) :=
  fun ls H locs hl hP hz hf => lv_lookup G.1 G.2.1 d hp ho ht (K ls H locs hl hP hz hf)
end HR
end
section
/-! Rows that read, write and make cells. -/
def hw_F (own : String) (index k j : Nat) (ft : FieldType) (fin : Bool) : Prop :=
  ∃ (ci : Nat) (C : String) (T : u_T) (N : Nat) (ty0 : Nat → FieldType), hw_kd k = .inl ci ∧ vwCl[ci]? = some (C, T, N) ∧ j < N ∧ (∀ w ∈ u_ws C T N, w ∈ hw_TS) ∧ (T j).1 = C ∧ (T j).2.2.2 = fin ∧ (∀ k, k < N → parseFieldDescriptor (T k).2.2.1 = some (ty0 k)) ∧ ty0 j = ft ∧
    (∀ a, a < N → ∀ b, b < N → a ≠ b → (T a).2.1 ≠ (T b).2.1) ∧ (Cond.fieldLink own index C (T j).2.1 (T j).2.2.1 ∈ hw_TS ∨ ∃ host : String, Cond.fieldLinkNest own index C (T j).2.1 (T j).2.2.1 host ∈ hw_TS)
def hw_d0 (t : Nat) : Int32 := match t with
  | 0 => 0
  | 1 => 0
  | _ => -1
def hw_nb (nb : Nat → Nat) (k : Nat) : Nat → Nat := fun k' => if k' = k then nb k + 1 else nb k'
def hw_nw (S : hw_St) (k i : Nat) : hw_St := fun k' i' => if k' = k ∧ i' = i then (fun j => hw_d0 (hw_ty k j)) else S k' i'
def hw_N (own : String) (index k N : Nat) : Prop :=
  ∃ (ci : Nat) (C : String) (T : u_T) (ty0 : Nat → FieldType), hw_kd k = .inl ci ∧ vwCl[ci]? = some (C, T, N) ∧ (∀ w ∈ u_ws C T N, w ∈ hw_TS) ∧ (∀ k, k < N → parseFieldDescriptor (T k).2.2.1 = some (ty0 k)) ∧
    Cond.classLink own index C ∈ hw_TS ∧ Cond.instantiable C N ∈ hw_TS ∧ Cond.initialized C ∈ hw_TS ∧ ∀ (B : hw_B) (j : Nat), j < N → defaultValue (ty0 j) = hw_rd B (hw_ty k j) (hw_d0 (hw_ty k j))
theorem hw_P.push {B : hw_B} {nb : Nat → Nat} {S : hw_St} {H H1 : Heap} {k : Nat} (h : hw_P B nb S H) (hA : hw_a B k (nb k) = H.size) (hs : H1.size = H.size + 1) (ho : ∀ q : Nat, q < H.size → H1[q]? = H[q]?) (hc : hw_cel B k (nb k) (fun j => hw_d0 (hw_ty k j)) H1) : hw_P B (hw_nb nb k) (hw_nw S k (nb k)) H1 := by
  have hb := h.1.1
  refine ⟨⟨by omega, fun q hq => (ho q (by omega)).trans (h.1.2 q hq)⟩, fun k' i' hi' => ?_, fun k1 i1 k2 i2 h1 h2 he => ?_⟩
  · by_cases e : k' = k ∧ i' = nb k
    · obtain ⟨rfl, rfl⟩ := e
      refine ⟨by rw [hA]; exact hb, ?_⟩
      have e1 : hw_nw S k' (nb k') k' (nb k') = fun j => hw_d0 (hw_ty k' j) := by simp [hw_nw]
      rw [e1]; exact hc
    · have hi2 : i' < nb k' := by
        unfold hw_nb at hi'
        by_cases ek : k' = k
        · subst ek
          rw [if_pos rfl] at hi'
          have : i' ≠ nb k' := fun q => e ⟨rfl, q⟩
          omega
        · rw [if_neg ek] at hi'; exact hi'
      have e1 : hw_nw S k (nb k) k' i' = S k' i' := by unfold hw_nw; rw [if_neg e]
      rw [e1]
      exact ⟨(h.2.1 k' i' hi2).1, (h.2.1 k' i' hi2).2.kept (ho _ (h.2.1 k' i' hi2).2.lt)⟩
  · have key : ∀ k' i' : Nat, i' < hw_nb nb k k' → (k' = k ∧ i' = nb k) ∨ (i' < nb k' ∧ hw_a B k' i' < H.size) := fun k' i' hi' => by
      by_cases e : k' = k ∧ i' = nb k
      · exact Or.inl e
      · refine Or.inr ?_
        have hi2 : i' < nb k' := by
          unfold hw_nb at hi'
          by_cases ek : k' = k
          · subst ek
            rw [if_pos rfl] at hi'
            have : i' ≠ nb k' := fun q => e ⟨rfl, q⟩
            omega
          · rw [if_neg ek] at hi'; exact hi'
        exact ⟨hi2, (h.2.1 k' i' hi2).2.lt⟩
    rcases key k1 i1 h1 with ⟨a1, b1⟩ | ⟨a1, b1⟩ <;> rcases key k2 i2 h2 with ⟨a2, b2⟩ | ⟨a2, b2⟩
    · exact ⟨a1.trans a2.symm, b1.trans b2.symm⟩
    · exfalso; rw [a1, b1, hA] at he; omega
    · exfalso; rw [a2, b2, hA] at he; omega
    · exact h.2.2 _ _ _ _ a1 a2 he
section HH
variable {X : hw_X} {B : hw_B} {fr : Nat → Prop} {nb : Nat → Nat} {S : hw_St} {z c sl : Nat} {Q : State → Prop} {cc : ByteArray} {nL pc : Nat} {own : String} {L : List (Nat × Value)} {st : List Value}
theorem hr_get (G : hw_G X B fr cc nL own) {k i j index : Nat} {ft : FieldType} {fin : Bool} {v : Value} (F : hw_F own index k j ft fin) (hi : i < nb k) (hv : hw_rd B (hw_ty k j) (S k i j) = v) (d : decode cc pc = .ok (.getfield index, 3)) (K : hw_V X B fr nb S z c sl Q nL (pc + 3) L (v :: st)) : hw_V X B fr nb S z c sl Q nL pc L (.ref (hw_a B k i) :: st) := by
  intro ls H locs hl hP hz hf
  obtain ⟨ci, C, T, N, ty0, hk, hc, hj, hin, hT1, -, -, -, -, hlk⟩ := F
  obtain ⟨r, h1, cell, q1, q2, q3, q4⟩ := (hw_cel_o hk).mp (hP.2.1 k i hi).2
  have hr : r = (C, T, N) := Option.some.inj (h1.symm.trans hc)
  subst hr
  obtain ⟨hS, hfc, kC, hkC, hkind⟩ := G.2.2.2.2.1.1 ci _ hc
  obtain ⟨cf, kf, fi, f, hif, hsl⟩ := hS j hj
  have hN : ∀ w ∈ hw_TS, w.before #[] (xs X) = true := G.2.2.2.2.1.2.2.1
  have hst := (u_facts (args := #[]) hfc hkC (u_lays hN hin hj) hif).1
  have hval : cell.slots[f.slot]? = some v := by rw [hsl]; exact (q4 j hj).trans (congrArg some hv)
  have hif2 : (xs X).fieldFound? (T j).1 (T j).2.1 (T j).2.2.1 = some (cf, kf, fi, f) := hif
  rw [hT1] at hif2
  rcases hlk with hlk | ⟨host, hlk⟩
  · exact W.getf G.1 G.2.1 G.2.2.2.1 (va_any rfl (hN _ hlk)) hif2 hst q1 (by rw [q3]; exact fun h => by cases h) hval rfl rfl d (K ls H locs hl hP hz hf)
  · exact va_Wgetf G.1 G.2.1 G.2.2.2.1 (va_any rfl (hN _ hlk)) hif2 hst q1 (by rw [q3]; exact fun h => by cases h) hval rfl rfl d (K ls H locs hl hP hz hf)
theorem hw_locs {locs : List Loc} {k i j : Nat} (hf : hw_L B fr nb z locs) (hi : i < nb k) : hw_L B fr nb z (locs ++ [(⟨hw_a B k i, j⟩ : Loc)]) := ⟨fun q hq => by
  rcases List.mem_append.mp hq with h | h
  · exact hf.1 q h
  · rw [List.mem_singleton.mp h]; exact hf.2.1 k i hi, hf.2⟩
theorem hw_Lnew {locs : List Loc} {k : Nat} (hf : hw_L B fr nb z locs) (hA : hw_a B k (nb k) = z) : hw_L B fr (hw_nb nb k) (z + 1) locs := by
  refine ⟨hf.1, fun k' i' hi' => ?_, fun q hq => hf.2.2 q (by omega)⟩
  by_cases e : k' = k ∧ i' = nb k
  · obtain ⟨rfl, rfl⟩ := e
    rw [hA]; exact hf.2.2 z (Nat.le_refl z)
  · refine hf.2.1 k' i' ?_
    unfold hw_nb at hi'
    by_cases ek : k' = k
    · subst ek
      rw [if_pos rfl] at hi'
      have : i' ≠ nb k' := fun q => e ⟨rfl, q⟩
      omega
    · rw [if_neg ek] at hi'; exact hi'
theorem hw_upd {B : hw_B} {k i j : Nat} {x : Int32} {v : Value} (hv : hw_rd B (hw_ty k j) x = v) (S : hw_St) (j' : Nat) : updV (fun j => hw_rd B (hw_ty k j) (S k i j)) j v j' = hw_rd B (hw_ty k j') (hw_sv S k i j x k i j') := by
  rw [hw_sv_row]
  unfold updV
  by_cases h : j' = j
  · subst h; rw [if_pos rfl, if_pos rfl, hv]
  · rw [if_neg h, if_neg h]
theorem hr_put (G : hw_G X B fr cc nL own) {k i j index : Nat} {ft : FieldType} {x : Int32} {v : Value} (F : hw_F own index k j ft false) (hi : i < nb k) (hv : hw_rd B (hw_ty k j) x = v) (hn : narrow ft v = v) (hft : fits ft v = true) (d : decode cc pc = .ok (.putfield index, 3)) (K : hw_V X B fr nb (hw_sv S k i j x) z c sl Q nL (pc + 3) L st) : hw_V X B fr nb S z c sl Q nL pc L (v :: .ref (hw_a B k i) :: st) := by
  intro ls H locs hl hP hz hf
  obtain ⟨ci, C, T, N, ty0, hk, hc, hj, hin, hT1, hfin, hty, hf0, hnm, hlk⟩ := F
  obtain ⟨r, h1, cell, q1, q2, q3, q4⟩ := (hw_cel_o hk).mp (hP.2.1 k i hi).2
  have hr : r = (C, T, N) := Option.some.inj (h1.symm.trans hc)
  subst hr
  obtain ⟨hS, hfc, kC, hkC, hkind⟩ := G.2.2.2.2.1.1 ci _ hc
  have hN : ∀ w ∈ hw_TS, w.before #[] (xs X) = true := G.2.2.2.2.1.2.2.1
  have hap : ∀ x y, x < N → y < N → x ≠ y → B.2.2.1.1.2 ci x ≠ B.2.2.1.1.2 ci y := by
    intro x y hx hy hne
    obtain ⟨_, _, _, fa, hia, ea⟩ := hS x hx
    obtain ⟨_, _, _, fb, hib, eb⟩ := hS y hy
    rw [← ea, ← eb]
    refine u_apart (u_lays hN hin hx) (u_lays hN hin hy) hia hib ?_
    rw [(State.fieldFound?_type hia (hty x hx)).1, (State.fieldFound?_type hib (hty y hy)).1]
    exact hnm x hx y hy hne
  obtain ⟨cf, kf, fi, f, hif, hsl⟩ := hS j hj
  have hlay := hN _ (hin _ (u_in_lay hj))
  unfold u_lay at hlay
  rw [if_neg (by rw [hfin]; decide)] at hlay
  have hst := (u_facts (args := #[]) hfc hkC (u_lays hN hin hj) hif).1
  have hd : parseFieldDescriptor (T j).2.2.1 = some ft := by rw [hty j hj, hf0]
  have h6 := u_store hfc hkC hkind hlay hif hd hn hft
  have hif2 : (xs X).fieldFound? (T j).1 (T j).2.1 (T j).2.2.1 = some (cf, kf, fi, f) := hif
  rw [hT1] at hif2
  have hlt : f.slot < cell.slots.size := by rw [hsl]; exact k2_hasslot (q4 j hj)
  have fin : ∀ H' : Heap, H'[hw_a B k i]? = some (cell.setSlot f.slot v) → H'.size = H.size → (∀ q, q ≠ hw_a B k i → H'[q]? = H[q]?) → hw_W X H' (locs ++ [⟨hw_a B k i, f.slot⟩]) c sl Q (F0 (xm X) (pc + 3) ls st) := by
    intro H' e1 e2 e3
    rw [hsl] at e1
    refine K ls H' _ hl (hP.set hi e2 e3 ((hw_cel_o hk).mpr ⟨_, hc, t_OB.to (V := updV (fun j => hw_rd B (hw_ty k j) (S k i j)) j v) ⟨_, e1, q2, q3, t_set q4 hap hj v⟩ (fun j' _ => hw_upd hv S j')⟩) (fun k' i' h => hw_sv_off h)) (e2.trans hz) (hw_locs hf hi)
  rcases hlk with hlk | ⟨host, hlk⟩
  · exact W.putK G.1 G.2.1 (f := f) ⟨G.2.2.2.1, va_any rfl (hN _ hlk), ⟨_, _, _, hif2⟩, hst⟩ (by rw [q2]; exact h6) q1 q3 hlt rfl rfl d fin
  · exact va_WputK G.1 G.2.1 (f := f) G.2.2.2.1 (va_any rfl (hN _ hlk)) hif2 hst (by rw [q2]; exact h6) q1 q3 hlt rfl rfl d fin
theorem hr_putF (G : hw_G X B fr cc nL own) {k i j index : Nat} {ft : FieldType} {x : Int32} {v : Value} (F : hw_F own index k j ft true) (hco : ∀ (ci : Nat) (C : String) (T : u_T) (N : Nat), hw_kd k = .inl ci → vwCl[ci]? = some (C, T, N) → C = own) (hinit : (xt X).name = "<init>") (hi : i < nb k) (hv : hw_rd B (hw_ty k j) x = v) (hn : narrow ft v = v) (hft : fits ft v = true) (d : decode cc pc = .ok (.putfield index, 3)) (K : hw_V X B fr nb (hw_sv S k i j x) z c sl Q nL (pc + 3) L st) : hw_V X B fr nb S z c sl Q nL pc L (v :: .ref (hw_a B k i) :: st) := by
  intro ls H locs hl hP hz hf
  obtain ⟨ci, C, T, N, ty0, hk, hc, hj, hin, hT1, hfin, hty, hf0, hnm, hlk⟩ := F
  obtain ⟨r, h1, cell, q1, q2, q3, q4⟩ := (hw_cel_o hk).mp (hP.2.1 k i hi).2
  have hr : r = (C, T, N) := Option.some.inj (h1.symm.trans hc)
  subst hr
  obtain ⟨hS, hfc, kC, hkC, hkind⟩ := G.2.2.2.2.1.1 ci _ hc
  have hN : ∀ w ∈ hw_TS, w.before #[] (xs X) = true := G.2.2.2.2.1.2.2.1
  have hap : ∀ x y, x < N → y < N → x ≠ y → B.2.2.1.1.2 ci x ≠ B.2.2.1.1.2 ci y := by
    intro x y hx hy hne
    obtain ⟨_, _, _, fa, hia, ea⟩ := hS x hx
    obtain ⟨_, _, _, fb, hib, eb⟩ := hS y hy
    rw [← ea, ← eb]
    refine u_apart (u_lays hN hin hx) (u_lays hN hin hy) hia hib ?_
    rw [(State.fieldFound?_type hia (hty x hx)).1, (State.fieldFound?_type hib (hty y hy)).1]
    exact hnm x hx y hy hne
  obtain ⟨cf, kf, fi, f, hif, hsl⟩ := hS j hj
  have hlay := hN _ (hin _ (u_in_lay hj))
  unfold u_lay at hlay
  rw [if_pos hfin] at hlay
  have hst := (u_facts (args := #[]) hfc hkC (u_lays hN hin hj) hif).1
  have hd : parseFieldDescriptor (T j).2.2.1 = some ft := by rw [hty j hj, hf0]
  have hif2 : (xs X).fieldFound? (T j).1 (T j).2.1 (T j).2.2.1 = some (cf, kf, fi, f) := hif
  have hcf : (xm X).cls = cf := by
    obtain ⟨_, _, c', _, _, _, -, -, hf', -, -, -, hown2, -⟩ := Cond.laysFinal_spec hlay
    have e1 : c' = cf := by have := hif.symm.trans hf'; simp at this; exact this.1.symm
    rw [hT1, hco ci C T N hk hc] at hown2
    rw [← e1]; exact Option.some.inj (G.2.2.2.1.symm.trans hown2)
  have h6 := u_fits hfc hkC hkind (Or.inr hlay) hif hd hn hft
  rw [hT1] at hif2
  have hlt : f.slot < cell.slots.size := by rw [hsl]; exact k2_hasslot (q4 j hj)
  have fin : ∀ H' : Heap, H'[hw_a B k i]? = some (cell.setSlot f.slot v) → H'.size = H.size → (∀ q, q ≠ hw_a B k i → H'[q]? = H[q]?) → hw_W X H' (locs ++ [⟨hw_a B k i, f.slot⟩]) c sl Q (F0 (xm X) (pc + 3) ls st) := by
    intro H' e1 e2 e3
    rw [hsl] at e1
    refine K ls H' _ hl (hP.set hi e2 e3 ((hw_cel_o hk).mpr ⟨_, hc, t_OB.to (V := updV (fun j => hw_rd B (hw_ty k j) (S k i j)) j v) ⟨_, e1, q2, q3, t_set q4 hap hj v⟩ (fun j' _ => hw_upd hv S j')⟩) (fun k' i' h => hw_sv_off h)) (e2.trans hz) (hw_locs hf hi)
  rcases hlk with hlk | ⟨host, hlk⟩
  · exact W.putFinK G.1 G.2.1 G.2.2.2.1 (va_any rfl (hN _ hlk)) hif2 hst hcf hinit (by rw [q2]; exact h6) q1 q3 hlt rfl rfl d fin
  · have ha : hw_a B k i < H.size := (hP.2.1 k i hi).2.lt
    refine va_Wputf G.1 G.2.1 G.2.2.2.1 (va_any rfl (hN _ hlk)) hif2 hst (Or.inr ⟨hcf, hinit⟩) q1 (by rw [q3]; exact fun h => by cases h) hlt h6.1 (by rw [q2, q3]; exact h6.2) rfl rfl d ?_
    refine fin _ ?_ ?_ ?_
    · simp [Array.getElem?_setIfInBounds, ha]
    · simp
    · intro q hq
      simp [Array.getElem?_setIfInBounds, Ne.symm hq]
theorem hr_new (G : hw_G X B fr cc nL own) {k N index : Nat} (F : hw_N own index k N) (hA : hw_a B k (nb k) = z) (hcs : c + 1 ≤ (xR X).cells) (hss : sl + N ≤ (xR X).slots) (d : decode cc pc = .ok (.new index, 3)) (K : hw_V X B fr (hw_nb nb k) (hw_nw S k (nb k)) (z + 1) (c + 1) (sl + N) Q nL (pc + 3) L (.ref (hw_a B k (nb k)) :: st)) : hw_V X B fr nb S z c sl Q nL pc L st := by
  intro ls H locs hl hP hz hf
  obtain ⟨ci, C, T, ty0, hk, hc, hin, hty, w1, w2, w3, hdf⟩ := F
  have hKn := G.2.2.2.2.1.1 ci _ hc
  have hN : ∀ w ∈ hw_TS, w.before #[] (xs X) = true := G.2.2.2.2.1.2.2.1
  refine W.newcK G.1 G.2.1 G.2.2.2.1 (va_any rfl (hN _ w1)) (va_any rfl (hN _ w2)) (va_any rfl (hN _ w3)) rfl d hcs hss hKn.2.1 hz fun H1 kC hkC e1 z1 o1 => ?_
  rw [← hA] at e1 ⊢
  refine K ls H1 locs hl (hP.push (hA.trans hz.symm) (by rw [z1, hz]) (fun q hq => o1 q (by rw [← hz]; exact hq)) ((hw_cel_o hk).mpr ⟨_, hc, (u_born ty0 hN hin hKn hkC e1 hty).to (fun j hj => hdf B j hj)⟩)) (by rw [z1]) (hw_Lnew hf hA)
end HH
end
section
/-! Rows on arrays. -/
section HA
variable {X : hw_X} {B : hw_B} {fr : Nat → Prop} {nb : Nat → Nat} {S : hw_St} {z c sl : Nat} {Q : State → Prop} {cc : ByteArray} {nL pc : Nat} {own : String} {L : List (Nat × Value)} {st : List Value}
theorem hw_idx {N n : Nat} {cA : ClassId} {f : Nat → Value} (hn : n < N) (hN : N < 2 ^ 31) : ¬ (nI n < 0 ∨ (arrV cA N f).slots.size ≤ (nI n).toNatClampNeg) := by
  rw [arrV_size]; exact nI_in hn hN
theorem hw_rdv {N n : Nat} {cA : ClassId} {f : Nat → Value} (hn : n < N) (hN : N < 2 ^ 31) : (arrV cA N f).slots[(nI n).toNatClampNeg]? = some (f n) := by
  rw [nI_clamp (by omega)]; exact arrV_read _ _ hn
theorem hw_rdr {B : hw_B} {t n : Nat} (hn : n < 2 ^ 31) : hw_rd B (t + 2) (nI n) = .ref (hw_a B t n) := by
  show (if nI n < 0 then Value.null else .ref (hw_a B t (nI n).toNatClampNeg)) = _
  rw [if_neg (nI_pos hn), nI_clamp hn]
theorem hw_rdn {B : hw_B} {t : Nat} {v : Int32} (h : v < 0) : hw_rd B (t + 2) v = .null := by
  show (if v < 0 then Value.null else _) = _
  rw [if_pos h]
theorem hr_alen (G : hw_G X B fr cc nL own) {k i et : Nat} {v : Int32} (hk : hw_kd k = .inr et) (het : et < hw_nt) (hi : i < nb k) (hv : nI (hw_ln k i) = v) (d : decode cc pc = .ok (.arraylength, 1)) (K : hw_V X B fr nb S z c sl Q nL (pc + 1) L (.int v :: st)) : hw_V X B fr nb S z c sl Q nL pc L (.ref (hw_a B k i) :: st) := by
  intro ls H locs hl hP hz hf
  exact W.alen (n := v) G.1 G.2.1 ((hw_cel_a hk).mp (hP.2.1 k i hi).2) ((G.2.2.2.2.1.2.1 et het).1 _ _) (by rw [arrV_size]; exact hv) rfl rfl d (K ls H locs hl hP hz hf)

theorem hr_iald (G : hw_G X B fr cc nL own) {k i n et : Nat} {x : Int32} {v : Value} (hk : hw_kd k = .inr et) (het : et < hw_nt) (he : hw_ft et = .int) (hi : i < nb k) (hx : x = nI n) (hn : n < hw_ln k i) (hv : hw_rd B (hw_ty k n) (S k i n) = v) (d : decode cc pc = .ok (.iaload, 1)) (K : hw_V X B fr nb S z c sl Q nL (pc + 1) L (v :: st)) : hw_V X B fr nb S z c sl Q nL pc L (.int x :: .ref (hw_a B k i) :: st) := by
  intro ls H locs hl hP hz hf
  have hA := (G.2.2.2.2.1.2.1 et het).1
  rw [he] at hA
  subst hx
  exact W.iald G.1 G.2.1 ((hw_cel_a hk).mp (hP.2.1 k i hi).2) (hA _ _) (fun q => by cases q) (hw_idx hn (hw_ln_lt k i)) ((hw_rdv hn (hw_ln_lt k i)).trans (congrArg some hv)) rfl rfl d (K ls H locs hl hP hz hf)
theorem hr_zald (G : hw_G X B fr cc nL own) {k i n et : Nat} {x : Int32} {v : Value} (hk : hw_kd k = .inr et) (het : et < hw_nt) (he : hw_ft et = .boolean) (hi : i < nb k) (hx : x = nI n) (hn : n < hw_ln k i) (hv : hw_rd B (hw_ty k n) (S k i n) = v) (d : decode cc pc = .ok (.baload, 1)) (K : hw_V X B fr nb S z c sl Q nL (pc + 1) L (v :: st)) : hw_V X B fr nb S z c sl Q nL pc L (.int x :: .ref (hw_a B k i) :: st) := by
  intro ls H locs hl hP hz hf
  have hA := (G.2.2.2.2.1.2.1 et het).1
  rw [he] at hA
  subst hx
  exact W.zald G.1 G.2.1 ((hw_cel_a hk).mp (hP.2.1 k i hi).2) (hA _ _) (fun q => by cases q) (hw_idx hn (hw_ln_lt k i)) ((hw_rdv hn (hw_ln_lt k i)).trans (congrArg some hv)) rfl rfl d (K ls H locs hl hP hz hf)
theorem hr_cald (G : hw_G X B fr cc nL own) {k i n et : Nat} {x : Int32} {v : Value} (hk : hw_kd k = .inr et) (het : et < hw_nt) (he : hw_ft et = .char) (hi : i < nb k) (hx : x = nI n) (hn : n < hw_ln k i) (hv : hw_rd B (hw_ty k n) (S k i n) = v) (d : decode cc pc = .ok (.caload, 1)) (K : hw_V X B fr nb S z c sl Q nL (pc + 1) L (v :: st)) : hw_V X B fr nb S z c sl Q nL pc L (.int x :: .ref (hw_a B k i) :: st) := by
  intro ls H locs hl hP hz hf
  have hA := (G.2.2.2.2.1.2.1 et het).1
  rw [he] at hA
  subst hx
  exact W.cald G.1 G.2.1 ((hw_cel_a hk).mp (hP.2.1 k i hi).2) (hA _ _) (fun q => by cases q) (hw_idx hn (hw_ln_lt k i)) ((hw_rdv hn (hw_ln_lt k i)).trans (congrArg some hv)) rfl rfl d (K ls H locs hl hP hz hf)
theorem hr_lald (G : hw_G X B fr cc nL own) {k i n et : Nat} {x : Int32} {v : Value} (hk : hw_kd k = .inr et) (het : et < hw_nt) (he : hw_ft et = .long) (hi : i < nb k) (hx : x = nI n) (hn : n < hw_ln k i) (hv : hw_rd B (hw_ty k n) (S k i n) = v) (d : decode cc pc = .ok (.laload, 1)) (K : hw_V X B fr nb S z c sl Q nL (pc + 1) L (v :: st)) : hw_V X B fr nb S z c sl Q nL pc L (.int x :: .ref (hw_a B k i) :: st) := by
  intro ls H locs hl hP hz hf
  have hA := (G.2.2.2.2.1.2.1 et het).1
  rw [he] at hA
  subst hx
  exact W.lald G.1 G.2.1 ((hw_cel_a hk).mp (hP.2.1 k i hi).2) (hA _ _) (fun q => by cases q) (hw_idx hn (hw_ln_lt k i)) ((hw_rdv hn (hw_ln_lt k i)).trans (congrArg some hv)) rfl rfl d (K ls H locs hl hP hz hf)
theorem hr_aald (G : hw_G X B fr cc nL own) {k i n et : Nat} {C : String} {x : Int32} {v : Value} (hk : hw_kd k = .inr et) (het : et < hw_nt) (he : hw_ft et = .object C) (hi : i < nb k) (hx : x = nI n) (hn : n < hw_ln k i) (hv : hw_rd B (hw_ty k n) (S k i n) = v) (d : decode cc pc = .ok (.aaload, 1)) (K : hw_V X B fr nb S z c sl Q nL (pc + 1) L (v :: st)) : hw_V X B fr nb S z c sl Q nL pc L (.int x :: .ref (hw_a B k i) :: st) := by
  intro ls H locs hl hP hz hf
  have hA := (G.2.2.2.2.1.2.1 et het).1
  rw [he] at hA
  subst hx
  exact W.aald (ty := .object C) G.1 G.2.1 ((hw_cel_a hk).mp (hP.2.1 k i hi).2) (hA _ _) rfl (fun q => by cases q) (hw_idx hn (hw_ln_lt k i)) ((hw_rdv hn (hw_ln_lt k i)).trans (congrArg some hv)) rfl rfl d (K ls H locs hl hP hz hf)
theorem hw_aset {H H1 : Heap} {k i n et : Nat} {y : Int32} {v : Value} (hk : hw_kd k = .inr et) (hP : hw_P B nb S H) (hi : i < nb k) (hn : n < hw_ln k i) (hv : hw_rd B (hw_ty k n) y = v) (e1 : H1[hw_a B k i]? = some ((arrV (B.2.2.1.2 et) (hw_ln k i) (fun j => hw_rd B (hw_ty k j) (S k i j))).setSlot (nI n).toNatClampNeg v)) (e2 : H1.size = H.size) (e3 : ∀ q, q ≠ hw_a B k i → H1[q]? = H[q]?) : hw_P B nb (hw_sv S k i n y) H1 := by
  refine hP.set hi e2 e3 ((hw_cel_a hk).mpr ?_) (fun k' i' h => hw_sv_off h)
  rw [e1, arrV_store, nI_clamp (Nat.lt_trans hn (hw_ln_lt k i))]
  congr 2
  funext j'
  exact hw_upd hv S j'

theorem hr_iast (G : hw_G X B fr cc nL own) {k i n et : Nat} {x y : Int32} (hk : hw_kd k = .inr et) (het : et < hw_nt) (he : hw_ft et = .int) (hi : i < nb k) (hx : x = nI n) (hn : n < hw_ln k i) (ht : hw_ty k n = 0) (d : decode cc pc = .ok (.iastore, 1)) (K : hw_V X B fr nb (hw_sv S k i n y) z c sl Q nL (pc + 1) L st) : hw_V X B fr nb S z c sl Q nL pc L (.int y :: .int x :: .ref (hw_a B k i) :: st) := by
  intro ls H locs hl hP hz hf
  have hA := (G.2.2.2.2.1.2.1 et het).1
  rw [he] at hA
  subst hx
  refine W.iast G.1 G.2.1 ((hw_cel_a hk).mp (hP.2.1 k i hi).2) (hA _ _) (fun q => by cases q) (hw_idx hn (hw_ln_lt k i)) rfl rfl d fun H1 e1 e2 e3 => ?_
  exact K ls H1 _ hl (hw_aset hk hP hi hn (by rw [ht]; first | done | rfl) e1 e2 e3) (e2.trans hz) (hw_locs hf hi)
theorem hr_zast (G : hw_G X B fr cc nL own) {k i n et : Nat} {x y : Int32} (hk : hw_kd k = .inr et) (het : et < hw_nt) (he : hw_ft et = .boolean) (hi : i < nb k) (hx : x = nI n) (hn : n < hw_ln k i) (ht : hw_ty k n = 0) (hnr : narrow .boolean (.int y) = .int y) (d : decode cc pc = .ok (.bastore, 1)) (K : hw_V X B fr nb (hw_sv S k i n y) z c sl Q nL (pc + 1) L st) : hw_V X B fr nb S z c sl Q nL pc L (.int y :: .int x :: .ref (hw_a B k i) :: st) := by
  intro ls H locs hl hP hz hf
  have hA := (G.2.2.2.2.1.2.1 et het).1
  rw [he] at hA
  subst hx
  refine W.zast G.1 G.2.1 ((hw_cel_a hk).mp (hP.2.1 k i hi).2) (hA _ _) (fun q => by cases q) (hw_idx hn (hw_ln_lt k i)) rfl rfl d fun H1 e1 e2 e3 => ?_
  exact K ls H1 _ hl (hw_aset hk hP hi hn (by rw [ht]; first | done | rfl) (by rw [hnr] at e1; exact e1) e2 e3) (e2.trans hz) (hw_locs hf hi)
theorem hr_cast (G : hw_G X B fr cc nL own) {k i n et : Nat} {x y : Int32} (hk : hw_kd k = .inr et) (het : et < hw_nt) (he : hw_ft et = .char) (hi : i < nb k) (hx : x = nI n) (hn : n < hw_ln k i) (ht : hw_ty k n = 0) (hnr : narrow .char (.int y) = .int y) (d : decode cc pc = .ok (.castore, 1)) (K : hw_V X B fr nb (hw_sv S k i n y) z c sl Q nL (pc + 1) L st) : hw_V X B fr nb S z c sl Q nL pc L (.int y :: .int x :: .ref (hw_a B k i) :: st) := by
  intro ls H locs hl hP hz hf
  have hA := (G.2.2.2.2.1.2.1 et het).1
  rw [he] at hA
  subst hx
  refine W.cast G.1 G.2.1 ((hw_cel_a hk).mp (hP.2.1 k i hi).2) (hA _ _) (fun q => by cases q) (hw_idx hn (hw_ln_lt k i)) rfl rfl d fun H1 e1 e2 e3 => ?_
  exact K ls H1 _ hl (hw_aset hk hP hi hn (by rw [ht]; first | done | rfl) (by rw [hnr] at e1; exact e1) e2 e3) (e2.trans hz) (hw_locs hf hi)
theorem hr_last (G : hw_G X B fr cc nL own) {k i n et : Nat} {x y : Int32} (hk : hw_kd k = .inr et) (het : et < hw_nt) (he : hw_ft et = .long) (hi : i < nb k) (hx : x = nI n) (hn : n < hw_ln k i) (ht : hw_ty k n = 1) (d : decode cc pc = .ok (.lastore, 1)) (K : hw_V X B fr nb (hw_sv S k i n y) z c sl Q nL (pc + 1) L st) : hw_V X B fr nb S z c sl Q nL pc L (.long y.toInt64 :: .int x :: .ref (hw_a B k i) :: st) := by
  intro ls H locs hl hP hz hf
  have hA := (G.2.2.2.2.1.2.1 et het).1
  rw [he] at hA
  subst hx
  refine W.last G.1 G.2.1 ((hw_cel_a hk).mp (hP.2.1 k i hi).2) (hA _ _) (fun q => by cases q) (hw_idx hn (hw_ln_lt k i)) rfl rfl d fun H1 e1 e2 e3 => ?_
  exact K ls H1 _ hl (hw_aset hk hP hi hn (by rw [ht]; first | done | rfl) e1 e2 e3) (e2.trans hz) (hw_locs hf hi)
theorem hr_aast (G : hw_G X B fr cc nL own) {k i n et t v ci : Nat} {C : String} {T : u_T} {N : Nat} {x : Int32} (hk : hw_kd k = .inr et) (het : et < hw_nt) (he : hw_ft et = .object C) (hkt : hw_kd t = .inl ci) (hct : vwCl[ci]? = some (C, T, N)) (hi : i < nb k) (hvi : v < nb t) (hv31 : v < 2 ^ 31) (hx : x = nI n) (hn : n < hw_ln k i) (ht : hw_ty k n = t + 2) (d : decode cc pc = .ok (.aastore, 1)) (K : hw_V X B fr nb (hw_sv S k i n (nI v)) z c sl Q nL (pc + 1) L st) : hw_V X B fr nb S z c sl Q nL pc L (.ref (hw_a B t v) :: .int x :: .ref (hw_a B k i) :: st) := by
  intro ls H locs hl hP hz hf
  have hA := (G.2.2.2.2.1.2.1 et het).2
  rw [he] at hA
  obtain ⟨kA, comp, k1, k2, k3, -⟩ := hA
  subst hx
  obtain ⟨r', hr', cellV, g1, g2, g3, -⟩ := (hw_cel_o hkt).mp (hP.2.1 t v hvi).2
  have hcls := (G.2.2.2.2.1.1 ci _ hct).2
  have hcomp : comp = B.2.2.1.1.1 ci := Option.some.inj (k3.symm.trans hcls.1)
  subst hcomp
  have hcls2 := hcls.2
  obtain ⟨kC, hkC, -⟩ := hcls2
  have hlt := hw_ln_lt k i
  refine W.aast G.1 G.2.1 ((hw_cel_a hk).mp (hP.2.1 k i hi).2) (fun q h => by cases h) (fun h => by cases h) k1 k2 rfl hkC ⟨nI_pos (by omega), by rw [arrV_size, nI_clamp (by omega)]; exact hn⟩ g1 (fun q h => by rw [g3] at h; cases h) (by rw [g2]; exact hkC) (by rw [g2]; exact va_assign hcls) rfl rfl d fun H1 e1 e2 e3 => ?_
  exact K ls H1 _ hl (hw_aset hk hP hi hn (by rw [ht]; exact hw_rdr hv31) e1 e2 e3) (e2.trans hz) (hw_locs hf hi)
theorem hr_newa (G : hw_G X B fr cc nL own) {k n et : Nat} {atype : ArrayType} {x : Int32} (hk : hw_kd k = .inr et) (het : et < hw_nt) (he : hw_ft et = newarray.typeOf atype) (hw : Cond.arrayClass (newarray.typeOf atype) ∈ hw_TS) (hon : (Cond.arrayClass (newarray.typeOf atype)).before #[] (xs X) = true → (Cond.arrayClass (newarray.typeOf atype)).before (xa X) (xs X) = true) (hp : ∀ U cA, va_RA U cA (newarray.typeOf atype) → U.vm.findClass ("[" ++ (newarray.typeOf atype).toString) = some cA) (hd : ∀ B j, defaultValue (newarray.typeOf atype) = hw_rd B (hw_ty k j) (hw_d0 (hw_ty k j))) (hx : x = nI n) (hn : n = hw_ln k (nb k)) (hby : n * componentBytes (newarray.typeOf atype) ≤ 536870912) (hA : hw_a B k (nb k) = z) (hcs : c + 1 ≤ (xR X).cells) (hss : sl + n ≤ (xR X).slots) (d : decode cc pc = .ok (.newarray atype, 2))
    (K : hw_V X B fr (hw_nb nb k) (hw_nw S k (nb k)) (z + 1) (c + 1) (sl + n) Q nL (pc + 2) L (.ref (hw_a B k (nb k)) :: st)) : hw_V X B fr nb S z c sl Q nL pc L (.int x :: st) := by
  intro ls H locs hl hP hz hf
  have hlt := hw_ln_lt k (nb k)
  have hR := hp _ _ (by rw [← he]; exact (G.2.2.2.2.1.2.1 et het).2)
  subst hx
  refine va_newaK G.1 G.2.1 (hon (G.2.2.2.2.1.2.2.1 _ hw)) rfl d rfl (nI_pos (by omega)) (nI_clamp (by omega)) hby hcs hss hz fun H1 cA e1 z1 o1 _ hfc => ?_
  have hcA : cA = B.2.2.1.2 et := Option.some.inj (hfc.symm.trans hR)
  rw [← hA] at e1 ⊢
  refine K ls H1 locs hl (hP.push (hA.trans hz.symm) (by rw [z1, hz]) (fun q hq => o1 q (by rw [← hz]; exact hq)) ((hw_cel_a hk).mpr ?_)) (by rw [z1]) (hw_Lnew hf hA)
  rw [e1, hcA, hn]
  congr 2
  funext j
  exact hd B j
theorem hr_anew (G : hw_G X B fr cc nL own) {k n et index t : Nat} {C : String} {x : Int32} (hk : hw_kd k = .inr et) (het : et < hw_nt) (he : hw_ft et = .object C) (hw : Cond.classLink own index C ∈ hw_TS) (hw2 : Cond.arrayOver (.object C) ∈ hw_TS) (ht : ∀ j, hw_ty k j = t + 2) (hx : x = nI n) (hn : n = hw_ln k (nb k)) (hby : n * 4 ≤ 536870912) (hA : hw_a B k (nb k) = z) (hcs : c + 1 ≤ (xR X).cells) (hss : sl + n ≤ (xR X).slots) (d : decode cc pc = .ok (.anewarray index, 3))
    (K : hw_V X B fr (hw_nb nb k) (hw_nw S k (nb k)) (z + 1) (c + 1) (sl + n) Q nL (pc + 3) L (.ref (hw_a B k (nb k)) :: st)) : hw_V X B fr nb S z c sl Q nL pc L (.int x :: st) := by
  intro ls H locs hl hP hz hf
  have hlt := hw_ln_lt k (nb k)
  have hR := (G.2.2.2.2.1.2.1 et het).2
  rw [he] at hR
  obtain ⟨kA', comp', -, -, -, hR4⟩ := hR
  subst hx
  have hcl : (nI n).toNatClampNeg = n := nI_clamp (by omega)
  refine W.anew G.1 G.2.1 G.2.2.2.1 (va_any rfl (G.2.2.2.2.1.2.2.1 _ hw)) (va_AO.use (G.2.2.2.2.1.2.2.1 _ hw2)) rfl d rfl (nI_pos (by omega)) (by rw [hcl]; exact hby) hcs (by rw [hcl]; exact hss) fun cA kA comp f1 f2 f3 f4 => ?_
  have hcA : cA = B.2.2.1.2 et := Option.some.inj (f1.symm.trans hR4)
  rw [hcl]
  generalize hH1 : H.push ({ cls := cA, slots := Array.replicate n .null, vm := .none } : Cell) = H1
  have z1 : H1.size = H.size + 1 := by rw [← hH1, Array.size_push]
  have e1 : H1[H.size]? = some (arrV cA n (fun _ => .null)) := by rw [← hH1, Array.getElem?_push_size, ← arrV_new]
  have o1 : ∀ q : Nat, q < H.size → H1[q]? = H[q]? := fun q hq => by rw [← hH1, Array.getElem?_push, if_neg (Nat.ne_of_lt hq)]
  have hA' : hw_a B k (nb k) = H.size := hA.trans hz.symm
  rw [← hA'] at e1 ⊢
  refine K ls H1 locs hl (hP.push hA' z1 o1 ((hw_cel_a hk).mpr ?_)) (by rw [z1, hz]) (hw_Lnew hf hA)
  rw [e1, hcA, hn]
  congr 2
  funext j
  rw [ht j]
  exact (hw_rdn (show (-1 : Int32) < 0 by decide)).symm
end HA
end
section
/-! Contracts, returns, calls that return. -/
abbrev hw_O : Type := Option Value ⊕ String
abbrev hw_T : Type := hw_O → (Nat → Nat) → hw_St → Nat → Prop
def hw_oc (o : Outcome) (oc : hw_O) (t : State) : Prop := match oc with
  | .inl v => o = .returned v
  | .inr E => ∃ (x : Addr) (cell : Cell), o = .threw x ∧ t.heap[x]? = some cell ∧ cell.vm = .none ∧ t.vm.findClass E = some cell.cls
def hw_fr (B : hw_B) (nb : Nat → Nat) (z : Nat) : Nat → Prop := fun q => (∃ k i : Nat, i < nb k ∧ q = hw_a B k i) ∨ z ≤ q
def hw_Qc (B : hw_B) (fr : Nat → Prop) (Post : hw_T) : Array Value → State → Outcome → State → Prop := fun _ _ o t => ∃ (oc : hw_O) (nb : Nat → Nat) (S : hw_St), Post oc nb S t.heap.size ∧ hw_P B nb S t.heap ∧ hw_oc o oc t ∧ hw_L B fr nb t.heap.size []
def hw_Pc (B : hw_B) (av : List Value) (nb : Nat → Nat) (S : hw_St) (z : Nat) : Array Value → State → Prop := fun v U => v = av.toArray ∧ hw_K B U ∧ hw_P B nb S U.heap ∧ U.heap.size = z
def hw_M (l : Launch) (y : MethodName) (cc : ByteArray) (nL : Nat) (ret : Option FieldType) (rm : Room) (B : hw_B) (av : List Value) (nb : Nat → Nat) (S : hw_St) (z : Nat) (Post : hw_T) : Prop :=
  Met l y [.code y cc nL ret] rm (hw_Pc B av nb S z) (hw_Qc B (hw_fr B nb z) Post) rm.cells rm.slots (hw_fr B nb z)
abbrev hw_MQ (X : hw_X) (B : hw_B) (fr : Nat → Prop) (Post : hw_T) (mc ms : Nat) : State → Prop := MQ (xb X) (hw_Qc B fr Post) (xa X) (xs X) mc ms fr
theorem hw_nost {B : hw_B} {nb : Nat → Nat} {S : hw_St} {z : Nat} {H : Heap} (hP : hw_P B nb S H) (hz : H.size = z) : ∀ (q : Nat) (cell : Cell), hw_fr B nb z q → H[q]? = some cell → cell.vm.isStatics = false := fun q cell hq hc => by
  rcases hq with ⟨k, i, hi, rfl⟩ | hq
  · have h := (hP.2.1 k i hi).2
    cases hk : hw_kd k with
    | inl ci =>
      obtain ⟨r, h1, cell', h2, -, h3, -⟩ := (hw_cel_o hk).mp h
      have e : cell' = cell := Option.some.inj (h2.symm.trans hc)
      rw [← e, h3]; rfl
    | inr et =>
      have h2 := (hw_cel_a hk).mp h
      have e := Option.some.inj (h2.symm.trans hc)
      rw [← e]; rfl
  · exfalso
    have := (Array.getElem?_eq_some_iff.mp hc).1
    omega
theorem hw_frb {B : hw_B} {nb : Nat → Nat} {S : hw_St} {z : Nat} {H : Heap} (hP : hw_P B nb S H) (hz : H.size = z) : ∀ q : Nat, hw_fr B nb z q → B.1 ≤ q := fun q hq => by
  rcases hq with ⟨k, i, hi, rfl⟩ | hq
  · exact (hP.2.1 k i hi).1
  · have := hP.1.1; omega
theorem hw_L0 {B : hw_B} {nb : Nat → Nat} {z : Nat} : hw_L B (hw_fr B nb z) nb z [] := ⟨(fun q h => nomatch h), fun k i hi => Or.inl ⟨k, i, hi, rfl⟩, fun q hq => Or.inr hq⟩
theorem hw_M.of {l : Launch} {y : MethodName} {cc : ByteArray} {nL : Nat} {ret : Option FieldType} {rm : Room} {B : hw_B} {av : List Value} {nb : Nat → Nat} {S : hw_St} {z : Nat} {Post : hw_T} (hy : plainName y.cls = true) (hA : (lg_sl av).length ≤ nL)
    (body : ∀ (X : hw_X) (fr : Nat → Prop), X.2.1 = l → xR X = rm → hw_G X B fr cc nL y.cls → (xt X).sig.returnType = ret → (xt X).name = y.name → hw_V X B fr nb S z 0 0 (hw_MQ X B fr Post rm.cells rm.slots) nL 0 (lv_args 0 av) []) : hw_M l y cc nL ret rm B av nb S z Post := by
  refine Met.ofW (cc := cc) (maxL := nL) (ret := ret) hy rfl ?_
  intro p e s m args below meth c s₁ Bd hml hv
  obtain ⟨rfl, hK, hP, hz⟩ := hv
  have hown : s.vm.findClass y.cls = some m.cls := findClass_of_methodNamed Bd.named
  have h := body (p, l, e, rm, s, m, av.toArray, below, meth, c) (hw_fr B nb z) rfl rfl ⟨Bd.exec, Bd.bytes, hml, hown, hK, Bd.notSynchronized, hw_nost hP hz, hw_frb hP hz, hP.1.2⟩ Bd.returns (name_of_methodNamed Bd.named Bd.method).1
  rw [lg_entry_eq]
  exact h _ _ [] (lv_entry av hA) hP hz hw_L0
theorem hw_K.same {B : hw_B} {u U : State} (h : U.vm = u.vm) (hK : hw_K B u) : hw_K B U := hw_K.moved (by rw [h]; exact State.WarmedH.refl u) hK
theorem hw_blind {B : hw_B} {av : List Value} {nb : Nat → Nat} {S : hw_St} {z : Nat} : FrameBlind (hw_Pc B av nb S z) := fun a U g mk h => ⟨h.1, hw_K.same (u := U) (U := U.calling g mk a) rfl h.2.1, h.2.2.1, h.2.2.2⟩
section HC
variable {X : hw_X} {B : hw_B} {fr : Nat → Prop} {nb : Nat → Nat} {S : hw_St} {z c sl : Nat} {Q : State → Prop} {cc : ByteArray} {nL pc : Nat} {own : String} {L : List (Nat × Value)} {st : List Value} {Post : hw_T}
theorem hr_iret (G : hw_G X B fr cc nL own) {v : Int32} (hr : (xt X).sig.returnType = some .int) (hQ : ∀ t, hw_MQ X B fr Post c sl t → Q t) (d : decode cc pc = .ok (.ireturn, 1)) (h : Post (.inl (some (.int v))) nb S z) : hw_V X B fr nb S z c sl Q nL pc L [.int v] := by
  intro ls H locs hl hP hz hf T hT XX
  obtain ⟨t, h1, h2⟩ := W.iret (Qc := hw_Qc B fr Post) (free := fr) (v := v) (locs := locs) (cells := c) (slots := sl) (H := H) G.1 G.2.1 hr (fun t ht hW => ⟨.inl (some (.int v)), nb, S, by rw [ht, hz]; exact h, by rw [ht]; exact hP, rfl, by rw [ht, hz]; exact ⟨(fun q h => nomatch h), hf.2⟩⟩) hf.1 d G.2.2.2.2.2.1 T hT XX
  exact ⟨t, h1, hQ t h2⟩
theorem hr_zret (G : hw_G X B fr cc nL own) {v : Int32} {ty : FieldType} (hr : (xt X).sig.returnType = some ty) (hn : narrow ty (.int v) = .int v) (hQ : ∀ t, hw_MQ X B fr Post c sl t → Q t) (d : decode cc pc = .ok (.ireturn, 1)) (h : Post (.inl (some (.int v))) nb S z) : hw_V X B fr nb S z c sl Q nL pc L [.int v] := by
  intro ls H locs hl hP hz hf T hT XX
  obtain ⟨t, h1, h2⟩ := W.zret (Qc := hw_Qc B fr Post) (free := fr) (v := v) (locs := locs) (cells := c) (slots := sl) (H := H) G.1 G.2.1 hr hn (fun t ht hW => ⟨.inl (some (.int v)), nb, S, by rw [ht, hz]; exact h, by rw [ht]; exact hP, rfl, by rw [ht, hz]; exact ⟨(fun q h => nomatch h), hf.2⟩⟩) hf.1 d G.2.2.2.2.2.1 T hT XX
  exact ⟨t, h1, hQ t h2⟩
theorem hr_vret (G : hw_G X B fr cc nL own) (hr : (xt X).sig.returnType = none) (hQ : ∀ t, hw_MQ X B fr Post c sl t → Q t) (d : decode cc pc = .ok (.return_, 1)) (h : Post (.inl none) nb S z) : hw_V X B fr nb S z c sl Q nL pc L [] := by
  intro ls H locs hl hP hz hf T hT XX
  obtain ⟨t, h1, h2⟩ := W.vret (Qc := hw_Qc B fr Post) (free := fr) (locs := locs) (cells := c) (slots := sl) (H := H) G.1 G.2.1 hr (fun t ht hW => ⟨.inl none, nb, S, by rw [ht, hz]; exact h, by rw [ht]; exact hP, rfl, by rw [ht, hz]; exact ⟨(fun q h => nomatch h), hf.2⟩⟩) hf.1 d G.2.2.2.2.2.1 T hT XX
  exact ⟨t, h1, hQ t h2⟩
theorem hr_aret (G : hw_G X B fr cc nL own) {v : Value} {C : String} (hr : (xt X).sig.returnType = some (.object C)) (hv : v = .null ∨ ∃ a, v = .ref a) (hQ : ∀ t, hw_MQ X B fr Post c sl t → Q t) (d : decode cc pc = .ok (.areturn, 1)) (h : Post (.inl (some v)) nb S z) : hw_V X B fr nb S z c sl Q nL pc L [v] := by
  intro ls H locs hl hP hz hf T hT XX
  obtain ⟨t, h1, h2⟩ := W.aret (Qc := hw_Qc B fr Post) (free := fr) (v := v) (locs := locs) (cells := c) (slots := sl) (H := H) G.1 G.2.1 hr (Or.inl ⟨C, rfl⟩) hv (fun t ht hW => ⟨.inl (some v), nb, S, by rw [ht, hz]; exact h, by rw [ht]; exact hP, rfl, by rw [ht, hz]; exact ⟨(fun q h => nomatch h), hf.2⟩⟩) hf.1 d G.2.2.2.2.2.1 T hT XX
  exact ⟨t, h1, hQ t h2⟩
theorem hr_objInit (G : hw_G X B fr cc nL own) {a index : Nat} (w1 : Cond.methodLink own index Lib.objectInit ∈ hw_TS) (w2 : Cond.instanceMethod Lib.objectInit ∈ hw_TS) (w3 : Cond.code Lib.objectInit ⟨#[0xb1]⟩ 1 none ∈ hw_TS) (d : decode cc pc = .ok (.invokespecial index, 3)) (hfr : 1 ≤ (xR X).frames) (hlo : (st.map fun v => v.category).sum + 12 ≤ (xR X).locals) (K : hw_V X B fr nb S z c sl Q nL (pc + 3) L st) : hw_V X B fr nb S z c sl Q nL pc L (.ref a :: st) := by
  intro ls H locs hl hP hz hf
  have hN := G.2.2.2.2.1.2.2.1
  exact W.objInit G.1 G.2.1 G.2.2.2.1 (va_any rfl (hN _ w1)) (va_any rfl (hN _ w2)) (va_any rfl (hN _ w3)) rfl (hl.1.trans G.2.2.1.symm) rfl d hfr (by show 2 * 0 + _ + 12 ≤ _; omega) (K ls H locs hl hP hz hf)
/-- what a call of y from own's pool wants of the tables; nest: the link is a nest mate's -/
def hw_C (own : String) (index : Nat) (y : MethodName) (bytes : ByteArray) (maxL : Nat) (ret : Option FieldType) (n : Nat) : Prop :=
  Cond.code y bytes maxL ret ∈ hw_TS ∧ Cond.initialized y.cls ∈ hw_TS ∧ (y.cls ≠ "java/lang/invoke/MethodHandle" ∧ y.cls ≠ "java/lang/invoke/VarHandle" ∧ (parseMethodDescriptor y.desc).map (fun d => d.parameters.length) = some n) ∧ (Cond.methodLink own index y ∈ hw_TS ∨ ∃ host : String, Cond.methodLinkNest own index y host ∈ hw_TS)
theorem hw_len {y : MethodName} {n : Nat} (h : (parseMethodDescriptor y.desc).map (fun d => d.parameters.length) = some n) : ∀ sig, parseMethodDescriptor y.desc = some sig → n = sig.parameters.length := fun sig h1 => by
  rw [h1] at h
  exact (Option.some.inj h).symm
theorem hw_codeW {s : State} {y : MethodName} {bytes : ByteArray} {maxL : Nat} {ret : Option FieldType} (h : va_Nw (Cond.code y bytes maxL ret) s) : ∀ w ∈ [Cond.code y bytes maxL ret], ∀ (a' : Array Value) (U : State), s.WarmedH U.vm → w.before a' U = true := fun w hw a' U hW => by
  rw [List.mem_singleton.mp hw]
  exact word_at (args := #[]) hW (Or.inl rfl) h
theorem hw_fr_up {locs : List Loc} (hf : hw_L B fr nb z locs) {q : Nat} (h : hw_fr B nb z q) : fr q := by
  rcases h with ⟨k, i, hi, rfl⟩ | h
  · exact hf.2.1 k i hi
  · exact hf.2.2 q h
theorem hw_Lcall {locs L' : List Loc} {nb' : Nat → Nat} {z' : Nat} (hf : hw_L B fr nb z locs) (hL : ∀ q ∈ L', hw_fr B nb z q.base) (h : hw_L B (hw_fr B nb z) nb' z' []) : hw_L B fr nb' z' (locs ++ L') :=
  ⟨fun q hq => by
    rcases List.mem_append.mp hq with h1 | h1
    · exact hf.1 q h1
    · exact hw_fr_up hf (hL q h1), fun k i hi => hw_fr_up hf (h.2.1 k i hi), fun q hq => hw_fr_up hf (h.2.2 q hq)⟩
/-- behind a call -/
theorem hw_after {mc ms : Nat} {H : Heap} {locs : List Loc} {ls : Array Slot} {st0 : List Value} {a : Array Value} (hr : va_Run X.1 X.2.1 X.2.2.1 (xR X) (xs X) (xm X) (xa X) (xb X) (xt X) (xc X) H locs c sl mc ms (F0 (xm X) pc ls st0) st (hw_Qc B (hw_fr B nb z) Post a) (hw_fr B nb z)) (hl : lv_has ls nL L) (hf : hw_L B fr nb z locs)
    (K : ∀ (r : Option Value) (nb' : Nat → Nat) (S' : hw_St) (z' : Nat), Post (.inl r) nb' S' z' → hw_V X B fr nb' S' z' (c + mc) (sl + ms) Q nL (pc + 3) L (r.toList ++ st)) : hw_W X H locs c sl Q (F0 (xm X) pc ls st0) := by
  intro T hT XX
  obtain ⟨v, st₀, t, T', L', h0, X', hL, e1, e2, ⟨oc, nb', S', hp, hP', ho, hL'⟩, hgo⟩ := hr T hT XX
  cases oc with
  | inr E =>
    obtain ⟨x, cell, hx, -⟩ := ho
    cases hx
  | inl r =>
    have hv : v = r := by
      have h9 : Outcome.returned v = Outcome.returned r := ho
      injection h9
    subst hv
    obtain ⟨t2, a1, b1⟩ := K v nb' S' _ hp ls T'.heap (locs ++ L') hl (by rw [e1]; exact hP') (by rw [e1]) (hw_Lcall hf hL hL') T' rfl X'
    exact ⟨t2, hgo t2 a1, b1⟩
theorem hr_callV (G : hw_G X B fr cc nL own) {k i index maxL n ci N : Nat} {T : u_T} {y : MethodName} {bytes : ByteArray} {ret : Option FieldType} {rm : Room} {As st0 : List Value} (hk : hw_kd k = .inl ci) (hct : vwCl[ci]? = some (y.cls, T, N)) (hi : i < nb k) (cw : hw_C own index y bytes maxL ret n) (w1 : Cond.instanceMethod y ∈ hw_TS) (w2 : Cond.selects y.cls y y ∈ hw_TS) (hM : hw_M X.2.1 y bytes maxL ret rm B (.ref (hw_a B k i) :: As) nb S z Post) (hn : As.length = n) (hst : st0 = As.reverse ++ .ref (hw_a B k i) :: st) (hW : (st.map fun v => v.category).sum ≤ 8) (hR : rm.frames + 1 ≤ (xR X).frames ∧ 8 + (maxL + 11) + rm.locals ≤ (xR X).locals) (hcs : c + rm.cells ≤ (xR X).cells ∧ sl + rm.slots ≤ (xR X).slots) (d : decode cc pc = .ok (.invokevirtual index, 3))
    (K : ∀ (r : Option Value) (nb' : Nat → Nat) (S' : hw_St) (z' : Nat), Post (.inl r) nb' S' z' → hw_V X B fr nb' S' z' (c + rm.cells) (sl + rm.slots) Q nL (pc + 3) L (r.toList ++ st)) : hw_V X B fr nb S z c sl Q nL pc L st0 := by
  intro ls H locs hl hP hz hf
  obtain ⟨c1, c2, c3, c4⟩ := cw
  have hN := G.2.2.2.2.1.2.2.1
  obtain ⟨r', hr', cellV, g1, g2, g3, -⟩ := (hw_cel_o hk).mp (hP.2.1 k i hi).2
  have hp : PreV (xs X) H y.cls (hw_a B k i) (hw_Pc B (.ref (hw_a B k i) :: As) nb S z) As := ⟨hw_blind, ⟨cellV, g1, by rw [g3]; rfl, by rw [g2]; exact (G.2.2.2.2.1.1 ci _ hct).2.1⟩, fun U hU hWU => ⟨rfl, hw_K.moved hWU G.2.2.2.2.1, by rw [hU]; exact hP, by rw [hU]; exact hz⟩⟩
  have hS : CallFix X.1 (xm X) (xc X) cc nL (xs X) (xa X) [] own := ⟨G.1, G.2.1, G.2.2.1, G.2.2.2.1, fun w hw => by cases hw⟩
  rcases c4 with c4 | ⟨host, c4⟩
  · exact hw_after (va_runV hS hM ⟨⟨rfl, rfl, hR.1, hR.2, hw_codeW (hN _ c1), List.mem_singleton.mpr rfl, va_any rfl (hN _ c1), va_any rfl (hN _ c2), ⟨c3.1, c3.2.1⟩, hw_len c3.2.2, va_any rfl (hN _ c4)⟩, va_any rfl (hN _ w1), va_any rfl (hN _ w2)⟩ hp rfl hn hl.1 hst (by show 2 * 0 + _ ≤ 8; omega) d hcs) hl hf K
  · exact hw_after (va_runVN hS hM ⟨⟨⟨rfl, rfl, hR.1, hR.2, hw_codeW (hN _ c1), List.mem_singleton.mpr rfl⟩, va_any rfl (hN _ c1), va_any rfl (hN _ c2), ⟨c3.1, c3.2.1⟩, hw_len c3.2.2, va_any rfl (hN _ c4)⟩, va_any rfl (hN _ w1), va_any rfl (hN _ w2)⟩ hp rfl hn hl.1 hst (by show 2 * 0 + _ ≤ 8; omega) d hcs) hl hf K
theorem hr_callS (G : hw_G X B fr cc nL own) {index maxL n : Nat} {y : MethodName} {bytes : ByteArray} {ret : Option FieldType} {rm : Room} {As st0 : List Value} (cw : hw_C own index y bytes maxL ret n) (w1 : Cond.static y ∈ hw_TS) (hM : hw_M X.2.1 y bytes maxL ret rm B As nb S z Post) (hn : As.length = n) (hst : st0 = As.reverse ++ st) (hW : (st.map fun v => v.category).sum ≤ 8) (hR : rm.frames + 1 ≤ (xR X).frames ∧ 8 + (maxL + 11) + rm.locals ≤ (xR X).locals) (hcs : c + rm.cells ≤ (xR X).cells ∧ sl + rm.slots ≤ (xR X).slots) (d : decode cc pc = .ok (.invokestatic index, 3))
    (K : ∀ (r : Option Value) (nb' : Nat → Nat) (S' : hw_St) (z' : Nat), Post (.inl r) nb' S' z' → hw_V X B fr nb' S' z' (c + rm.cells) (sl + rm.slots) Q nL (pc + 3) L (r.toList ++ st)) : hw_V X B fr nb S z c sl Q nL pc L st0 := by
  intro ls H locs hl hP hz hf
  obtain ⟨c1, c2, c3, c4⟩ := cw
  have hN := G.2.2.2.2.1.2.2.1
  have hp : PreS (xs X) H (hw_Pc B As nb S z) As := ⟨hw_blind, fun U hU hWU => ⟨rfl, hw_K.moved hWU G.2.2.2.2.1, by rw [hU]; exact hP, by rw [hU]; exact hz⟩⟩
  have hS : CallFix X.1 (xm X) (xc X) cc nL (xs X) (xa X) [] own := ⟨G.1, G.2.1, G.2.2.1, G.2.2.2.1, fun w hw => by cases hw⟩
  rcases c4 with c4 | ⟨host, c4⟩
  · exact hw_after (va_runS hS hM ⟨⟨rfl, rfl, hR.1, hR.2, hw_codeW (hN _ c1), List.mem_singleton.mpr rfl, va_any rfl (hN _ c1), va_any rfl (hN _ c2), ⟨c3.1, c3.2.1⟩, hw_len c3.2.2, va_any rfl (hN _ c4)⟩, va_any rfl (hN _ w1)⟩ hp rfl hn hl.1 hst (by show 2 * 0 + _ ≤ 8; omega) d hcs) hl hf K
  · exact hw_after (va_runSN hS hM ⟨⟨⟨rfl, rfl, hR.1, hR.2, hw_codeW (hN _ c1), List.mem_singleton.mpr rfl⟩, va_any rfl (hN _ c1), va_any rfl (hN _ c2), ⟨c3.1, c3.2.1⟩, hw_len c3.2.2, va_any rfl (hN _ c4)⟩, va_any rfl (hN _ w1), trivial⟩ hp rfl hn hl.1 hst (by show 2 * 0 + _ ≤ 8; omega) d hcs) hl hf K
theorem hr_callI (G : hw_G X B fr cc nL own) {k i index maxL n : Nat} {y : MethodName} {bytes : ByteArray} {rm : Room} {As st0 : List Value} (cw : hw_C own index y bytes maxL none n) (w1 : Cond.instanceMethod y ∈ hw_TS) (hy : y.name = "<init>") (hM : hw_M X.2.1 y bytes maxL none rm B (.ref (hw_a B k i) :: As) nb S z Post) (hn : As.length = n) (hst : st0 = As.reverse ++ .ref (hw_a B k i) :: st) (hW : (st.map fun v => v.category).sum ≤ 8) (hR : rm.frames + 1 ≤ (xR X).frames ∧ 8 + (maxL + 11) + rm.locals ≤ (xR X).locals) (hcs : c + rm.cells ≤ (xR X).cells ∧ sl + rm.slots ≤ (xR X).slots) (d : decode cc pc = .ok (.invokespecial index, 3))
    (K : ∀ (r : Option Value) (nb' : Nat → Nat) (S' : hw_St) (z' : Nat), Post (.inl r) nb' S' z' → hw_V X B fr nb' S' z' (c + rm.cells) (sl + rm.slots) Q nL (pc + 3) L (r.toList ++ st)) : hw_V X B fr nb S z c sl Q nL pc L st0 := by
  intro ls H locs hl hP hz hf
  obtain ⟨c1, c2, c3, c4⟩ := cw
  have hN := G.2.2.2.2.1.2.2.1
  have hp : PreS (xs X) H (hw_Pc B (.ref (hw_a B k i) :: As) nb S z) (.ref (hw_a B k i) :: As) := ⟨hw_blind, fun U hU hWU => ⟨rfl, hw_K.moved hWU G.2.2.2.2.1, by rw [hU]; exact hP, by rw [hU]; exact hz⟩⟩
  have hS : CallFix X.1 (xm X) (xc X) cc nL (xs X) (xa X) [] own := ⟨G.1, G.2.1, G.2.2.1, G.2.2.2.1, fun w hw => by cases hw⟩
  rcases c4 with c4 | ⟨host, c4⟩
  · exact hw_after (va_runI hS hM ⟨⟨rfl, rfl, hR.1, hR.2, hw_codeW (hN _ c1), List.mem_singleton.mpr rfl, va_any rfl (hN _ c1), va_any rfl (hN _ c2), ⟨c3.1, c3.2.1⟩, hw_len c3.2.2, va_any rfl (hN _ c4)⟩, hy, va_any rfl (hN _ w1)⟩ hp rfl hn hl.1 hst (by show 2 * 0 + _ ≤ 8; omega) d hcs) hl hf K
  · exact hw_after (va_runIN hS hM ⟨⟨⟨rfl, rfl, hR.1, hR.2, hw_codeW (hN _ c1), List.mem_singleton.mpr rfl⟩, va_any rfl (hN _ c1), va_any rfl (hN _ c2), ⟨c3.1, c3.2.1⟩, hw_len c3.2.2, va_any rfl (hN _ c4)⟩, hy, va_any rfl (hN _ w1)⟩ hp rfl hn hl.1 hst (by show 2 * 0 + _ ≤ 8; omega) d hcs) hl hf K
end HC
end
section
/-! Methods that may throw, over the task's own rows on exceptions (00.vx): contract, throw, call, catch. -/
def hw_XC (B : hw_B) (fr : Nat → Prop) (Post : hw_T) : String → State → State → Prop := fun E _ t => ∃ (nb : Nat → Nat) (S : hw_St), Post (.inr E) nb S t.heap.size ∧ hw_P B nb S t.heap ∧ hw_L B fr nb t.heap.size []
def hw_MX (l : Launch) (y : MethodName) (cc : ByteArray) (nL : Nat) (ret : Option FieldType) (rm : Room) (B : hw_B) (av : List Value) (nb : Nat → Nat) (S : hw_St) (z : Nat) (Post : hw_T) : Prop :=
  vx_Met l y [.code y cc nL ret] rm (hw_Pc B av nb S z) (hw_Qc B (hw_fr B nb z) Post) (hw_XC B (hw_fr B nb z) Post) rm.cells rm.slots (hw_fr B nb z)
abbrev hw_QX (X : hw_X) (B : hw_B) (fr : Nat → Prop) (Post : hw_T) (mc ms : Nat) : State → Prop := vx_MQ (xb X) (hw_Qc B fr Post) (hw_XC B fr Post) (xa X) (xs X) mc ms fr
theorem hw_QX.of {X : hw_X} {B : hw_B} {fr : Nat → Prop} {Post : hw_T} {mc ms : Nat} (t : State) (h : hw_MQ X B fr Post mc ms t) : hw_QX X B fr Post mc ms t := by
  obtain ⟨o, h1, h2, h3, h4⟩ := h
  exact ⟨o, h1, h2, Or.inl ⟨h3, h4⟩⟩
theorem hw_MX.of {l : Launch} {y : MethodName} {cc : ByteArray} {nL : Nat} {ret : Option FieldType} {rm : Room} {B : hw_B} {av : List Value} {nb : Nat → Nat} {S : hw_St} {z : Nat} {Post : hw_T} (hy : plainName y.cls = true) (hA : (lg_sl av).length ≤ nL)
    (body : ∀ (X : hw_X) (fr : Nat → Prop), X.2.1 = l → xR X = rm → hw_G X B fr cc nL y.cls → (xt X).sig.returnType = ret → (∀ x ∈ (xc X).exceptionTable.toList, False) → hw_V X B fr nb S z 0 0 (hw_QX X B fr Post rm.cells rm.slots) nL 0 (lv_args 0 av) []) : hw_MX l y cc nL ret rm B av nb S z Post := by
  refine vx_ofW (cc := cc) (maxL := nL) (ret := ret) hy rfl ?_
  intro p e s m args below meth c s₁ Bd hml ht hv
  obtain ⟨rfl, hK, hP, hz⟩ := hv
  have hown : s.vm.findClass y.cls = some m.cls := findClass_of_methodNamed Bd.named
  have h := body (p, l, e, rm, s, m, av.toArray, below, meth, c) (hw_fr B nb z) rfl rfl ⟨Bd.exec, Bd.bytes, hml, hown, hK, Bd.notSynchronized, hw_nost hP hz, hw_frb hP hz, hP.1.2⟩ Bd.returns ht
  rw [lg_entry_eq]
  exact h _ _ [] (lv_entry av hA) hP hz hw_L0
theorem hw_P.old {B : hw_B} {nb : Nat → Nat} {S : hw_St} {H H1 : Heap} (h : hw_P B nb S H) (hle : H.size ≤ H1.size) (ho : ∀ q : Nat, q < H.size → H1[q]? = H[q]?) : hw_P B nb S H1 :=
  ⟨⟨Nat.le_trans h.1.1 hle, fun q hq => (ho q (Nat.lt_of_lt_of_le hq h.1.1)).trans (h.1.2 q hq)⟩, fun k i hi => ⟨(h.2.1 k i hi).1, (h.2.1 k i hi).2.kept (ho _ (h.2.1 k i hi).2.lt)⟩, h.2.2⟩
/-- a method with a table of its own -/
def hw_MW (l : Launch) (y : MethodName) (cc : ByteArray) (nL : Nat) (ret : Option FieldType) (hh : List (Nat × Nat × Nat × Nat)) (rm : Room) (B : hw_B) (av : List Value) (nb : Nat → Nat) (S : hw_St) (z : Nat) (Post : hw_T) : Prop :=
  Met l y [.codeWith y cc nL ret hh] rm (hw_Pc B av nb S z) (hw_Qc B (hw_fr B nb z) Post) rm.cells rm.slots (hw_fr B nb z)
theorem hw_MW.of {l : Launch} {y : MethodName} {cc : ByteArray} {nL : Nat} {ret : Option FieldType} {hh : List (Nat × Nat × Nat × Nat)} {rm : Room} {B : hw_B} {av : List Value} {nb : Nat → Nat} {S : hw_St} {z : Nat} {Post : hw_T} (hy : plainName y.cls = true) (hA : (lg_sl av).length ≤ nL)
    (body : ∀ (X : hw_X) (fr : Nat → Prop), X.2.1 = l → xR X = rm → hw_G X B fr cc nL y.cls → (xt X).sig.returnType = ret → (xc X).exceptionTable.toList = tableOf hh → hw_V X B fr nb S z 0 0 (hw_MQ X B fr Post rm.cells rm.slots) nL 0 (lv_args 0 av) []) : hw_MW l y cc nL ret hh rm B av nb S z Post := by
  refine va_MetW (cc := cc) (maxL := nL) (ret := ret) (hh := hh) hy rfl ?_
  intro p e s m args below meth c s₁ Bd hml hv
  obtain ⟨rfl, hK, hP, hz⟩ := hv
  have hown : s.vm.findClass y.cls = some m.cls := findClass_of_methodNamed Bd.named
  have htab := vx_table (x := y) Bd (atoms_spec (ws := [.codeWith y cc nL ret hh]) Bd.pre _ (List.mem_singleton.mpr rfl))
  have h := body (p, l, e, rm, s, m, av.toArray, below, meth, c) (hw_fr B nb z) rfl rfl ⟨Bd.exec, Bd.bytes, hml, hown, hK, Bd.notSynchronized, hw_nost hP hz, hw_frb hP hz, hP.1.2⟩ Bd.returns htab
  rw [lg_entry_eq]
  exact h _ _ [] (lv_entry av hA) hP hz hw_L0
section EY
variable {X : hw_X} {B : hw_B} {fr : Nat → Prop} {nb : Nat → Nat} {S : hw_St} {z c sl : Nat} {Q : State → Prop} {cc : ByteArray} {nL pc : Nat} {own : String} {L : List (Nat × Value)} {st : List Value} {Post : hw_T}
theorem hw_any {s : State} {w : Cond} {a' : Array Value} (hg : vx_ot w = true) (h : va_Nw w s) : w.before a' s = true := vx_ot_at (args := #[]) (State.WarmedH.refl s) rfl hg h
/-- throw new E("text") -/
theorem hr_throw (G : hw_G X B fr cc nL own) {E tx : String} {names : List String} {ik is ic mc ms : Nat} (hl0 : X.2.1.stackTraces = false) (htab : ∀ x ∈ (xc X).exceptionTable.toList, False) (hcls : Bundle.fit E = true) (hnames : ∀ n ∈ names, Bundle.fit n = true) (w1 : Cond.classLink own ik E ∈ hw_TS) (w3 : Cond.initialized E ∈ hw_TS) {si : Nat} (hstr : hw_strs[si]? = some (own, is, tx)) (hat : ∀ w ∈ vx_atS own ic E names, w ∈ hw_TS)
    (hgood : ∀ w ∈ Cond.classLink own ik E :: Cond.initialized E :: vx_atS own ic E names, vx_ot w = true)
    (d0 : decode cc pc = .ok (.new ik, 3)) (d3 : decode cc (pc + 3) = .ok (.dup, 1)) (d4 : decode cc (pc + 4) = .ok (.ldc is, 2)) (d6 : decode cc (pc + 6) = .ok (.invokespecial ic, 3)) (d9 : decode cc (pc + 9) = .ok (.athrow, 1))
    (hRf : names.length + 3 < (xR X).frames) (hRl : (st.map fun v => v.category).sum + (13 * (names.length + 1) + 43) ≤ (xR X).locals) (hRc : c + 1 ≤ (xR X).cells) (hRs : sl + 6 ≤ (xR X).slots) (hc : c + 1 ≤ mc) (hs : sl + 6 ≤ ms)
    (h : ∀ z', z ≤ z' → Post (.inr E) nb S z') : hw_V X B fr nb S z c sl (hw_QX X B fr Post mc ms) nL pc L st := by
  intro ls H locs hl hP hz hf T hT XX
  have hN := G.2.2.2.2.1.2.2.1
  have hZ := G.2.2.2.2.1.2.2.2
  obtain ⟨hR, -⟩ := hZ.2.2.1 _ _ hstr
  have hS : va_S (fun x => B.1 ≤ x) (xs X).heap H locs := ⟨by rw [← hT]; exact XX.same.2.1, fun q _ hq => by
    have hq' : q < B.1 := Nat.not_le.mp hq
    rw [hP.1.2 q hq', G.2.2.2.2.2.2.2.2 q hq'], fun l hl => G.2.2.2.2.2.2.2.1 _ (hf.1 l hl)⟩
  have kq : ∀ a : Nat, a < B.2.1.size → ¬ B.1 ≤ a → (xs X).heap[a]? = B.2.1[a]? := fun a _ ha => G.2.2.2.2.2.2.2.2 a (Nat.not_le.mp ha)
  exact vx_throwS (Qc := hw_Qc B fr Post) (XC := hw_XC B fr Post) (free := fr) (sa := hw_a B 60 si) (text := tx) G.1 G.2.1 hl0 G.2.2.2.1 hcls hnames (hw_any (hgood _ List.mem_cons_self) (hN _ w1)) (hw_any (hgood _ (List.mem_cons_of_mem _ List.mem_cons_self)) (hN _ w3)) hR (fun w hw => hw_any (hgood _ (List.mem_cons_of_mem _ (List.mem_cons_of_mem _ hw))) (hN _ (hat w hw))) hgood (hZ.1.1.kept kq) (hZ.1.2.kept kq) hS (hl.1.trans G.2.2.1.symm) d0 d3 d4 d6 d9 (fun x hx => (htab x hx).elim) hRf hRl hRc hRs G.2.2.2.2.2.1
    (fun t _ h1 h2 => ⟨nb, S, h _ (by rw [← hz]; exact h1), hP.old h1 h2, (fun q h => nomatch h), hf.2.1, fun q hq => hf.2.2 q (by rw [← hz]; exact Nat.le_trans h1 hq)⟩) hf.1 hc hs T hT XX
def hw_ctch (X : hw_X) (own E : String) (pc hpc : Nat) : Prop :=
  ∃ (pre : List ExceptionTableEntry) (x : ExceptionTableEntry) (suf : List ExceptionTableEntry) (nm : String), (xc X).exceptionTable.toList = pre ++ x :: suf ∧ (∀ y ∈ pre, y.catchType ≠ 0 ∧ E = "java/lang/IllegalStateException" ∧ Cond.classLink own y.catchType "java/lang/IllegalArgumentException" ∈ hw_TS) ∧ covers x pc = true ∧ x.catchType ≠ 0 ∧ x.handlerPc = hpc ∧ Cond.classLink own x.catchType nm ∈ hw_TS ∧ Cond.castable E nm ∈ hw_TS
/-- a call of a method that may throw, where this method's table takes what it throws -/
theorem hr_callX (G : hw_G X B fr cc nL own) {k i index maxL n ci N : Nat} {T0 : u_T} {y : MethodName} {bytes : ByteArray} {ret : Option FieldType} {rm : Room} {As st0 : List Value} (hk : hw_kd k = .inl ci) (hct : vwCl[ci]? = some (y.cls, T0, N)) (hi : i < nb k) (c1 : Cond.code y bytes maxL ret ∈ hw_TS) (c2 : Cond.initialized y.cls ∈ hw_TS) (c3 : y.cls ≠ "java/lang/invoke/MethodHandle" ∧ y.cls ≠ "java/lang/invoke/VarHandle" ∧ (parseMethodDescriptor y.desc).map (fun d => d.parameters.length) = some n) (c4 : Cond.methodLink own index y ∈ hw_TS) (w1 : Cond.instanceMethod y ∈ hw_TS) (w2 : Cond.selects y.cls y y ∈ hw_TS)
    (hM : hw_MX X.2.1 y bytes maxL ret rm B (.ref (hw_a B k i) :: As) nb S z Post) (hn : As.length = n) (hst : st0 = As.reverse ++ .ref (hw_a B k i) :: st) (hW : (st.map fun v => v.category).sum ≤ 8) (hR : rm.frames + 1 ≤ (xR X).frames ∧ 8 + (maxL + 11) + rm.locals ≤ (xR X).locals) (hcs : c + rm.cells ≤ (xR X).cells ∧ sl + rm.slots ≤ (xR X).slots) (d : decode cc pc = .ok (.invokevirtual index, 3))
    (K : ∀ (r : Option Value) (nb' : Nat → Nat) (S' : hw_St) (z' : Nat), Post (.inl r) nb' S' z' → hw_V X B fr nb' S' z' (c + rm.cells) (sl + rm.slots) Q nL (pc + 3) L (r.toList ++ st))
    (KX : ∀ (E : String) (x : Nat) (nb' : Nat → Nat) (S' : hw_St) (z' : Nat), Post (.inr E) nb' S' z' → ∃ hpc, hw_ctch X own E pc hpc ∧ hw_V X B fr nb' S' z' (c + rm.cells) (sl + rm.slots) Q nL hpc L [.ref x]) : hw_V X B fr nb S z c sl Q nL pc L st0 := by
  intro ls H locs hl hP hz hf
  have hN := G.2.2.2.2.1.2.2.1
  obtain ⟨r', hr', cellV, g1, g2, g3, -⟩ := (hw_cel_o hk).mp (hP.2.1 k i hi).2
  have hp : PreV (xs X) H y.cls (hw_a B k i) (hw_Pc B (.ref (hw_a B k i) :: As) nb S z) As := ⟨hw_blind, ⟨cellV, g1, by rw [g3]; rfl, by rw [g2]; exact (G.2.2.2.2.1.1 ci _ hct).2.1⟩, fun U hU hWU => ⟨rfl, hw_K.moved hWU G.2.2.2.2.1, by rw [hU]; exact hP, by rw [hU]; exact hz⟩⟩
  have hS : CallFix X.1 (xm X) (xc X) cc nL (xs X) (xa X) [] own := ⟨G.1, G.2.1, G.2.2.1, G.2.2.2.1, fun w hw => nomatch hw⟩
  have hr := vx_runV (p := X.1) (e := X.2.2.1) (below := xb X) (meth := xt X) (locs := locs) (cells := c) (slots := sl) (g := F0 (xm X) pc ls st0) (rest := st) hS hM ⟨⟨rfl, rfl, hR.1, hR.2, hw_codeW (hN _ c1), List.mem_singleton.mpr rfl, va_any rfl (hN _ c1), va_any rfl (hN _ c2), ⟨c3.1, c3.2.1⟩, hw_len c3.2.2, va_any rfl (hN _ c4)⟩, va_any rfl (hN _ w1), va_any rfl (hN _ w2)⟩ hp rfl hn hl.1 hst (by show 2 * 0 + _ ≤ 8; omega) d hcs
  intro T hT XX
  rcases hr T hT XX with ⟨v, st₀, t, T', L', h0, X', hL, e1, e2, ⟨oc, nb', S', hpp, hP', ho, hL'⟩, hgo⟩ | ⟨q, st₀, t, T', L', E, ce, h0, X', hL, e1, e2, ⟨nb', S', hpp, hP', hL'⟩, hce, hcv, hcl, hgo⟩
  · cases oc with
    | inr E =>
      obtain ⟨x, cell, hx, -⟩ := ho
      cases hx
    | inl r =>
      have hv : v = r := by
        have h9 : Outcome.returned v = Outcome.returned r := ho
        injection h9
      subst hv
      obtain ⟨t2, a1, b1⟩ := K v nb' S' _ hpp ls T'.heap (locs ++ L') hl (by rw [e1]; exact hP') (by rw [e1]) (hw_Lcall hf hL hL') T' rfl X'
      exact ⟨t2, hgo t2 a1, b1⟩
  · obtain ⟨hpc, ⟨pre, x, suf, nm, t1, t2, t3, t4, t5, t6, t7⟩, hV⟩ := KX E q nb' S' _ hpp
    subst t5
    have w := vx_catch (p := X.1) (l := X.2.1) (e := X.2.2.1) (R := xR X) (s := xs X) (m := xm X) (args := xa X) (below := xb X) (meth := xt X) (c := xc X) (H := T'.heap) (locs := locs ++ L') (cells := c + rm.cells) (slots := sl + rm.slots) (Q := Q) (pc := pc) (ls := ls) (rest := st) (own := own) (name := nm) (E := E) (ce := ce) (q := q) G.2.2.2.1 pre x suf t1 (fun y hy => by
      obtain ⟨u1, u2, u3⟩ := t2 y hy
      subst u2
      exact Or.inr ⟨u1, _, va_any rfl (hN _ u3), G.2.2.2.2.1.2.2.2.2.1⟩) t3 t4 (va_any rfl (hN _ t6)) (va_any rfl (hN _ t7)) (by rw [e1]; exact hce) hcv hcl (hV ls T'.heap (locs ++ L') hl (by rw [e1]; exact hP') (by rw [e1]) (hw_Lcall hf hL hL'))
    obtain ⟨t2, a1, b1⟩ := w T' rfl X'
    exact ⟨t2, hgo.trans a1, b1⟩
theorem hr_callW (G : hw_G X B fr cc nL own) {index maxL n : Nat} {y : MethodName} {bytes : ByteArray} {ret : Option FieldType} {hh : List (Nat × Nat × Nat × Nat)} {rm : Room} {As st0 : List Value} (c1 : Cond.codeWith y bytes maxL ret hh ∈ hw_TS) (c2 : Cond.initialized y.cls ∈ hw_TS) (c3 : y.cls ≠ "java/lang/invoke/MethodHandle" ∧ y.cls ≠ "java/lang/invoke/VarHandle" ∧ (parseMethodDescriptor y.desc).map (fun d => d.parameters.length) = some n) (c4 : Cond.methodLink own index y ∈ hw_TS) (w1 : Cond.static y ∈ hw_TS) (hM : hw_MW X.2.1 y bytes maxL ret hh rm B As nb S z Post) (hn : As.length = n) (hst : st0 = As.reverse ++ st) (hW : (st.map fun v => v.category).sum ≤ 8) (hR : rm.frames + 1 ≤ (xR X).frames ∧ 8 + (maxL + 11) + rm.locals ≤ (xR X).locals) (hcs : c + rm.cells ≤ (xR X).cells ∧ sl + rm.slots ≤ (xR X).slots) (d : decode cc pc = .ok (.invokestatic index, 3))
    (K : ∀ (r : Option Value) (nb' : Nat → Nat) (S' : hw_St) (z' : Nat), Post (.inl r) nb' S' z' → hw_V X B fr nb' S' z' (c + rm.cells) (sl + rm.slots) Q nL (pc + 3) L (r.toList ++ st)) : hw_V X B fr nb S z c sl Q nL pc L st0 := by
  intro ls H locs hl hP hz hf
  have hN := G.2.2.2.2.1.2.2.1
  have hp : PreS (xs X) H (hw_Pc B As nb S z) As := ⟨hw_blind, fun U hU hWU => ⟨rfl, hw_K.moved hWU G.2.2.2.2.1, by rw [hU]; exact hP, by rw [hU]; exact hz⟩⟩
  have hS : CallFix X.1 (xm X) (xc X) cc nL (xs X) (xa X) [] own := ⟨G.1, G.2.1, G.2.2.1, G.2.2.2.1, fun w hw => nomatch hw⟩
  exact hw_after (vx_runSW hS hM ⟨⟨rfl, rfl, hR.1, hR.2, fun w hw a' U hWU => by rw [List.mem_singleton.mp hw]; exact word_at (args := #[]) hWU (Or.inl rfl) (hN _ c1), List.mem_singleton.mpr rfl⟩, va_any rfl (hN _ c1), va_any rfl (hN _ c2), ⟨c3.1, c3.2.1⟩, hw_len c3.2.2, va_any rfl (hN _ c4), va_any rfl (hN _ w1)⟩ hp rfl hn hl.1 hst (by show 2 * 0 + _ ≤ 8; omega) d hcs) hl hf K
end EY
end
section
/-! Facts on fields, calls and new, laid by wip/gen/words.py. -/
theorem in_H : ∀ w ∈ u_ws RH FH 12, w ∈ hw_TS := hw_inl _ [89, 91, 93, 95, 97, 99, 101, 103, 105, 107, 109, 111] (by decide +kernel) (by decide +kernel)
theorem in_U : ∀ w ∈ u_ws RU FU 6, w ∈ hw_TS := hw_inl _ [64, 66, 68, 70, 72, 74] (by decide +kernel) (by decide +kernel)
theorem in_T : ∀ w ∈ u_ws RT FT 2, w ∈ hw_TS := hw_inl _ [39, 41] (by decide +kernel) (by decide +kernel)
theorem in_S : ∀ w ∈ u_ws RS FS 6, w ∈ hw_TS := hw_inl _ [340, 342, 344, 346, 348, 350] (by decide +kernel) (by decide +kernel)
theorem in_K : ∀ w ∈ u_ws RK FK 9, w ∈ hw_TS := hw_inl _ [397, 399, 401, 403, 405, 407, 409, 411, 413] (by decide +kernel) (by decide +kernel)
theorem in_M : ∀ w ∈ u_ws RM FM 31, w ∈ hw_TS := hw_inl _ [623, 625, 627, 629, 631, 633, 635, 637, 639, 641, 643, 645, 647, 649, 651, 653, 655, 657, 659, 661, 663, 665, 667, 669, 671, 673, 675, 677, 679, 681, 683] (by decide +kernel) (by decide +kernel)
theorem fT_9 : hw_F "TicketHouse$Text" 9 4 0 (.array .char) true := ⟨2, RT, FT, 2, tT, rfl, rfl, by decide, in_T, rfl, rfl, tT_ok, rfl, nT_ok, Or.inl (hw_in 36 (by decide +kernel) rfl)⟩
theorem fT_15 : hw_F "TicketHouse$Text" 15 4 1 .int false := ⟨2, RT, FT, 2, tT, rfl, rfl, by decide, in_T, rfl, rfl, tT_ok, rfl, nT_ok, Or.inl (hw_in 37 (by decide +kernel) rfl)⟩
theorem fH_58 : hw_F "TicketHouse" 58 4 1 .int false := ⟨2, RT, FT, 2, tT, rfl, rfl, by decide, in_T, rfl, rfl, tT_ok, rfl, nT_ok, Or.inr ⟨"TicketHouse", hw_in 38 (by decide +kernel) rfl⟩⟩
theorem fU_17 : hw_F "TicketHouse$User" 17 2 0 .int true := ⟨1, RU, FU, 6, tU, rfl, rfl, by decide, in_U, rfl, rfl, tU_ok, rfl, nU_ok, Or.inl (hw_in 55 (by decide +kernel) rfl)⟩
theorem fH_215 : hw_F "TicketHouse" 215 2 0 .int true := ⟨1, RU, FU, 6, tU, rfl, rfl, by decide, in_U, rfl, rfl, tU_ok, rfl, nU_ok, Or.inr ⟨"TicketHouse", hw_in 56 (by decide +kernel) rfl⟩⟩
theorem fU_11 : hw_F "TicketHouse$User" 11 2 1 (.array (.object "TicketHouse$Text")) true := ⟨1, RU, FU, 6, tU, rfl, rfl, by decide, in_U, rfl, rfl, tU_ok, rfl, nU_ok, Or.inl (hw_in 57 (by decide +kernel) rfl)⟩
theorem fH_77 : hw_F "TicketHouse" 77 2 1 (.array (.object "TicketHouse$Text")) true := ⟨1, RU, FU, 6, tU, rfl, rfl, by decide, in_U, rfl, rfl, tU_ok, rfl, nU_ok, Or.inr ⟨"TicketHouse", hw_in 58 (by decide +kernel) rfl⟩⟩
theorem fU_27 : hw_F "TicketHouse$User" 27 2 2 .boolean false := ⟨1, RU, FU, 6, tU, rfl, rfl, by decide, in_U, rfl, rfl, tU_ok, rfl, nU_ok, Or.inl (hw_in 59 (by decide +kernel) rfl)⟩
theorem fU_24 : hw_F "TicketHouse$User" 24 2 3 .int false := ⟨1, RU, FU, 6, tU, rfl, rfl, by decide, in_U, rfl, rfl, tU_ok, rfl, nU_ok, Or.inl (hw_in 60 (by decide +kernel) rfl)⟩
theorem fU_31 : hw_F "TicketHouse$User" 31 2 4 .int false := ⟨1, RU, FU, 6, tU, rfl, rfl, by decide, in_U, rfl, rfl, tU_ok, rfl, nU_ok, Or.inl (hw_in 61 (by decide +kernel) rfl)⟩
theorem fH_245 : hw_F "TicketHouse" 245 2 4 .int false := ⟨1, RU, FU, 6, tU, rfl, rfl, by decide, in_U, rfl, rfl, tU_ok, rfl, nU_ok, Or.inr ⟨"TicketHouse", hw_in 62 (by decide +kernel) rfl⟩⟩
theorem fU_34 : hw_F "TicketHouse$User" 34 2 5 .int false := ⟨1, RU, FU, 6, tU, rfl, rfl, by decide, in_U, rfl, rfl, tU_ok, rfl, nU_ok, Or.inl (hw_in 63 (by decide +kernel) rfl)⟩
theorem fH_11 : hw_F "TicketHouse" 11 0 0 (.array (.object "TicketHouse$User")) true := ⟨0, RH, FH, 12, tH, rfl, rfl, by decide, in_H, rfl, rfl, tH_ok, rfl, nH_ok, Or.inl (hw_in 77 (by decide +kernel) rfl)⟩
theorem fH_15 : hw_F "TicketHouse" 15 0 1 (.array .int) true := ⟨0, RH, FH, 12, tH, rfl, rfl, by decide, in_H, rfl, rfl, tH_ok, rfl, nH_ok, Or.inl (hw_in 78 (by decide +kernel) rfl)⟩
theorem fH_19 : hw_F "TicketHouse" 19 0 2 (.array .boolean) true := ⟨0, RH, FH, 12, tH, rfl, rfl, by decide, in_H, rfl, rfl, tH_ok, rfl, nH_ok, Or.inl (hw_in 79 (by decide +kernel) rfl)⟩
theorem fH_25 : hw_F "TicketHouse" 25 0 3 (.array (.object "TicketHouse$Session")) true := ⟨0, RH, FH, 12, tH, rfl, rfl, by decide, in_H, rfl, rfl, tH_ok, rfl, nH_ok, Or.inl (hw_in 80 (by decide +kernel) rfl)⟩
theorem fH_31 : hw_F "TicketHouse" 31 0 4 (.array (.object "TicketHouse$Ticket")) true := ⟨0, RH, FH, 12, tH, rfl, rfl, by decide, in_H, rfl, rfl, tH_ok, rfl, nH_ok, Or.inl (hw_in 81 (by decide +kernel) rfl)⟩
theorem fH_35 : hw_F "TicketHouse" 35 0 5 (.array .int) true := ⟨0, RH, FH, 12, tH, rfl, rfl, by decide, in_H, rfl, rfl, tH_ok, rfl, nH_ok, Or.inl (hw_in 82 (by decide +kernel) rfl)⟩
theorem fH_43 : hw_F "TicketHouse" 43 0 6 (.object "TicketHouse$Text") true := ⟨0, RH, FH, 12, tH, rfl, rfl, by decide, in_H, rfl, rfl, tH_ok, rfl, nH_ok, Or.inl (hw_in 83 (by decide +kernel) rfl)⟩
theorem fH_47 : hw_F "TicketHouse" 47 0 7 (.object "TicketHouse$Text") true := ⟨0, RH, FH, 12, tH, rfl, rfl, by decide, in_H, rfl, rfl, tH_ok, rfl, nH_ok, Or.inl (hw_in 84 (by decide +kernel) rfl)⟩
theorem fH_101 : hw_F "TicketHouse" 101 0 8 .int false := ⟨0, RH, FH, 12, tH, rfl, rfl, by decide, in_H, rfl, rfl, tH_ok, rfl, nH_ok, Or.inl (hw_in 85 (by decide +kernel) rfl)⟩
theorem fH_125 : hw_F "TicketHouse" 125 0 9 .int false := ⟨0, RH, FH, 12, tH, rfl, rfl, by decide, in_H, rfl, rfl, tH_ok, rfl, nH_ok, Or.inl (hw_in 86 (by decide +kernel) rfl)⟩
theorem fH_239 : hw_F "TicketHouse" 239 0 10 .int false := ⟨0, RH, FH, 12, tH, rfl, rfl, by decide, in_H, rfl, rfl, tH_ok, rfl, nH_ok, Or.inl (hw_in 87 (by decide +kernel) rfl)⟩
theorem fH_106 : hw_F "TicketHouse" 106 0 11 .int false := ⟨0, RH, FH, 12, tH, rfl, rfl, by decide, in_H, rfl, rfl, tH_ok, rfl, nH_ok, Or.inl (hw_in 88 (by decide +kernel) rfl)⟩
theorem fS_13 : hw_F "TicketHouse$Session" 13 9 0 .int true := ⟨3, RS, FS, 6, tS, rfl, rfl, by decide, in_S, rfl, rfl, tS_ok, rfl, nS_ok, Or.inl (hw_in 327 (by decide +kernel) rfl)⟩
theorem fH_117 : hw_F "TicketHouse" 117 9 0 .int true := ⟨3, RS, FS, 6, tS, rfl, rfl, by decide, in_S, rfl, rfl, tS_ok, rfl, nS_ok, Or.inr ⟨"TicketHouse", hw_in 328 (by decide +kernel) rfl⟩⟩
theorem fS_17 : hw_F "TicketHouse$Session" 17 9 1 (.object "TicketHouse$User") true := ⟨3, RS, FS, 6, tS, rfl, rfl, by decide, in_S, rfl, rfl, tS_ok, rfl, nS_ok, Or.inl (hw_in 329 (by decide +kernel) rfl)⟩
theorem fH_211 : hw_F "TicketHouse" 211 9 1 (.object "TicketHouse$User") true := ⟨3, RS, FS, 6, tS, rfl, rfl, by decide, in_S, rfl, rfl, tS_ok, rfl, nS_ok, Or.inr ⟨"TicketHouse", hw_in 330 (by decide +kernel) rfl⟩⟩
theorem fS_21 : hw_F "TicketHouse$Session" 21 9 2 .int true := ⟨3, RS, FS, 6, tS, rfl, rfl, by decide, in_S, rfl, rfl, tS_ok, rfl, nS_ok, Or.inl (hw_in 331 (by decide +kernel) rfl)⟩
theorem fH_220 : hw_F "TicketHouse" 220 9 2 .int true := ⟨3, RS, FS, 6, tS, rfl, rfl, by decide, in_S, rfl, rfl, tS_ok, rfl, nS_ok, Or.inr ⟨"TicketHouse", hw_in 332 (by decide +kernel) rfl⟩⟩
theorem fS_24 : hw_F "TicketHouse$Session" 24 9 3 .boolean true := ⟨3, RS, FS, 6, tS, rfl, rfl, by decide, in_S, rfl, rfl, tS_ok, rfl, nS_ok, Or.inl (hw_in 333 (by decide +kernel) rfl)⟩
theorem fH_223 : hw_F "TicketHouse" 223 9 3 .boolean true := ⟨3, RS, FS, 6, tS, rfl, rfl, by decide, in_S, rfl, rfl, tS_ok, rfl, nS_ok, Or.inr ⟨"TicketHouse", hw_in 334 (by decide +kernel) rfl⟩⟩
theorem fS_27 : hw_F "TicketHouse$Session" 27 9 4 .int false := ⟨3, RS, FS, 6, tS, rfl, rfl, by decide, in_S, rfl, rfl, tS_ok, rfl, nS_ok, Or.inl (hw_in 335 (by decide +kernel) rfl)⟩
theorem fH_150 : hw_F "TicketHouse" 150 9 4 .int false := ⟨3, RS, FS, 6, tS, rfl, rfl, by decide, in_S, rfl, rfl, tS_ok, rfl, nS_ok, Or.inr ⟨"TicketHouse", hw_in 336 (by decide +kernel) rfl⟩⟩
theorem fS_7 : hw_F "TicketHouse$Session" 7 9 5 .boolean false := ⟨3, RS, FS, 6, tS, rfl, rfl, by decide, in_S, rfl, rfl, tS_ok, rfl, nS_ok, Or.inl (hw_in 337 (by decide +kernel) rfl)⟩
theorem fK_39 : hw_F "TicketHouse$Ticket" 39 9 5 .boolean false := ⟨3, RS, FS, 6, tS, rfl, rfl, by decide, in_S, rfl, rfl, tS_ok, rfl, nS_ok, Or.inr ⟨"TicketHouse", hw_in 338 (by decide +kernel) rfl⟩⟩
theorem fH_145 : hw_F "TicketHouse" 145 9 5 .boolean false := ⟨3, RS, FS, 6, tS, rfl, rfl, by decide, in_S, rfl, rfl, tS_ok, rfl, nS_ok, Or.inr ⟨"TicketHouse", hw_in 339 (by decide +kernel) rfl⟩⟩
theorem fK_9 : hw_F "TicketHouse$Ticket" 9 11 0 .int true := ⟨4, RK, FK, 9, tK, rfl, rfl, by decide, in_K, rfl, rfl, tK_ok, rfl, nK_ok, Or.inl (hw_in 379 (by decide +kernel) rfl)⟩
theorem fH_138 : hw_F "TicketHouse" 138 11 0 .int true := ⟨4, RK, FK, 9, tK, rfl, rfl, by decide, in_K, rfl, rfl, tK_ok, rfl, nK_ok, Or.inr ⟨"TicketHouse", hw_in 380 (by decide +kernel) rfl⟩⟩
theorem fK_15 : hw_F "TicketHouse$Ticket" 15 11 1 .int true := ⟨4, RK, FK, 9, tK, rfl, rfl, by decide, in_K, rfl, rfl, tK_ok, rfl, nK_ok, Or.inl (hw_in 381 (by decide +kernel) rfl)⟩
theorem fH_157 : hw_F "TicketHouse" 157 11 1 .int true := ⟨4, RK, FK, 9, tK, rfl, rfl, by decide, in_K, rfl, rfl, tK_ok, rfl, nK_ok, Or.inr ⟨"TicketHouse", hw_in 382 (by decide +kernel) rfl⟩⟩
theorem fK_18 : hw_F "TicketHouse$Ticket" 18 11 2 (.object "TicketHouse$Session") true := ⟨4, RK, FK, 9, tK, rfl, rfl, by decide, in_K, rfl, rfl, tK_ok, rfl, nK_ok, Or.inl (hw_in 383 (by decide +kernel) rfl)⟩
theorem fH_167 : hw_F "TicketHouse" 167 11 2 (.object "TicketHouse$Session") true := ⟨4, RK, FK, 9, tK, rfl, rfl, by decide, in_K, rfl, rfl, tK_ok, rfl, nK_ok, Or.inr ⟨"TicketHouse", hw_in 384 (by decide +kernel) rfl⟩⟩
theorem fK_22 : hw_F "TicketHouse$Ticket" 22 11 3 .int true := ⟨4, RK, FK, 9, tK, rfl, rfl, by decide, in_K, rfl, rfl, tK_ok, rfl, nK_ok, Or.inl (hw_in 385 (by decide +kernel) rfl)⟩
theorem fH_226 : hw_F "TicketHouse" 226 11 3 .int true := ⟨4, RK, FK, 9, tK, rfl, rfl, by decide, in_K, rfl, rfl, tK_ok, rfl, nK_ok, Or.inr ⟨"TicketHouse", hw_in 386 (by decide +kernel) rfl⟩⟩
theorem fK_25 : hw_F "TicketHouse$Ticket" 25 11 4 .int true := ⟨4, RK, FK, 9, tK, rfl, rfl, by decide, in_K, rfl, rfl, tK_ok, rfl, nK_ok, Or.inl (hw_in 387 (by decide +kernel) rfl)⟩
theorem fH_229 : hw_F "TicketHouse" 229 11 4 .int true := ⟨4, RK, FK, 9, tK, rfl, rfl, by decide, in_K, rfl, rfl, tK_ok, rfl, nK_ok, Or.inr ⟨"TicketHouse", hw_in 388 (by decide +kernel) rfl⟩⟩
theorem fK_28 : hw_F "TicketHouse$Ticket" 28 11 5 (.object "TicketHouse$Ticket") true := ⟨4, RK, FK, 9, tK, rfl, rfl, by decide, in_K, rfl, rfl, tK_ok, rfl, nK_ok, Or.inl (hw_in 389 (by decide +kernel) rfl)⟩
theorem fH_232 : hw_F "TicketHouse" 232 11 5 (.object "TicketHouse$Ticket") true := ⟨4, RK, FK, 9, tK, rfl, rfl, by decide, in_K, rfl, rfl, tK_ok, rfl, nK_ok, Or.inr ⟨"TicketHouse", hw_in 390 (by decide +kernel) rfl⟩⟩
theorem fK_32 : hw_F "TicketHouse$Ticket" 32 11 6 .int true := ⟨4, RK, FK, 9, tK, rfl, rfl, by decide, in_K, rfl, rfl, tK_ok, rfl, nK_ok, Or.inl (hw_in 391 (by decide +kernel) rfl)⟩
theorem fH_236 : hw_F "TicketHouse" 236 11 6 .int true := ⟨4, RK, FK, 9, tK, rfl, rfl, by decide, in_K, rfl, rfl, tK_ok, rfl, nK_ok, Or.inr ⟨"TicketHouse", hw_in 392 (by decide +kernel) rfl⟩⟩
theorem fK_48 : hw_F "TicketHouse$Ticket" 48 11 7 .boolean false := ⟨4, RK, FK, 9, tK, rfl, rfl, by decide, in_K, rfl, rfl, tK_ok, rfl, nK_ok, Or.inl (hw_in 393 (by decide +kernel) rfl)⟩
theorem fH_134 : hw_F "TicketHouse" 134 11 7 .boolean false := ⟨4, RK, FK, 9, tK, rfl, rfl, by decide, in_K, rfl, rfl, tK_ok, rfl, nK_ok, Or.inr ⟨"TicketHouse", hw_in 394 (by decide +kernel) rfl⟩⟩
theorem fK_35 : hw_F "TicketHouse$Ticket" 35 11 8 .boolean false := ⟨4, RK, FK, 9, tK, rfl, rfl, by decide, in_K, rfl, rfl, tK_ok, rfl, nK_ok, Or.inl (hw_in 395 (by decide +kernel) rfl)⟩
theorem fH_180 : hw_F "TicketHouse" 180 11 8 .boolean false := ⟨4, RK, FK, 9, tK, rfl, rfl, by decide, in_K, rfl, rfl, tK_ok, rfl, nK_ok, Or.inr ⟨"TicketHouse", hw_in 396 (by decide +kernel) rfl⟩⟩
theorem fM_87 : hw_F "TicketHouseModel" 87 20 0 .int false := ⟨5, RM, FM, 31, tM, rfl, rfl, by decide, in_M, rfl, rfl, tM_ok, rfl, nM_ok, Or.inl (hw_in 592 (by decide +kernel) rfl)⟩
theorem fM_97 : hw_F "TicketHouseModel" 97 20 1 .int false := ⟨5, RM, FM, 31, tM, rfl, rfl, by decide, in_M, rfl, rfl, tM_ok, rfl, nM_ok, Or.inl (hw_in 593 (by decide +kernel) rfl)⟩
theorem fM_7 : hw_F "TicketHouseModel" 7 20 2 (.array .int) true := ⟨5, RM, FM, 31, tM, rfl, rfl, by decide, in_M, rfl, rfl, tM_ok, rfl, nM_ok, Or.inl (hw_in 594 (by decide +kernel) rfl)⟩
theorem fM_94 : hw_F "TicketHouseModel" 94 20 3 .int false := ⟨5, RM, FM, 31, tM, rfl, rfl, by decide, in_M, rfl, rfl, tM_ok, rfl, nM_ok, Or.inl (hw_in 595 (by decide +kernel) rfl)⟩
theorem fM_13 : hw_F "TicketHouseModel" 13 20 4 (.array .int) true := ⟨5, RM, FM, 31, tM, rfl, rfl, by decide, in_M, rfl, rfl, tM_ok, rfl, nM_ok, Or.inl (hw_in 596 (by decide +kernel) rfl)⟩
theorem fM_16 : hw_F "TicketHouseModel" 16 20 5 (.array .int) true := ⟨5, RM, FM, 31, tM, rfl, rfl, by decide, in_M, rfl, rfl, tM_ok, rfl, nM_ok, Or.inl (hw_in 597 (by decide +kernel) rfl)⟩
theorem fM_19 : hw_F "TicketHouseModel" 19 20 6 (.array .boolean) true := ⟨5, RM, FM, 31, tM, rfl, rfl, by decide, in_M, rfl, rfl, tM_ok, rfl, nM_ok, Or.inl (hw_in 598 (by decide +kernel) rfl)⟩
theorem fM_23 : hw_F "TicketHouseModel" 23 20 7 (.array .int) true := ⟨5, RM, FM, 31, tM, rfl, rfl, by decide, in_M, rfl, rfl, tM_ok, rfl, nM_ok, Or.inl (hw_in 599 (by decide +kernel) rfl)⟩
theorem fM_26 : hw_F "TicketHouseModel" 26 20 8 (.array .int) true := ⟨5, RM, FM, 31, tM, rfl, rfl, by decide, in_M, rfl, rfl, tM_ok, rfl, nM_ok, Or.inl (hw_in 600 (by decide +kernel) rfl)⟩
theorem fM_29 : hw_F "TicketHouseModel" 29 20 9 (.array .int) true := ⟨5, RM, FM, 31, tM, rfl, rfl, by decide, in_M, rfl, rfl, tM_ok, rfl, nM_ok, Or.inl (hw_in 601 (by decide +kernel) rfl)⟩
theorem fM_32 : hw_F "TicketHouseModel" 32 20 10 (.array .int) true := ⟨5, RM, FM, 31, tM, rfl, rfl, by decide, in_M, rfl, rfl, tM_ok, rfl, nM_ok, Or.inl (hw_in 602 (by decide +kernel) rfl)⟩
theorem fM_35 : hw_F "TicketHouseModel" 35 20 11 (.array .boolean) true := ⟨5, RM, FM, 31, tM, rfl, rfl, by decide, in_M, rfl, rfl, tM_ok, rfl, nM_ok, Or.inl (hw_in 603 (by decide +kernel) rfl)⟩
theorem fM_104 : hw_F "TicketHouseModel" 104 20 12 .int false := ⟨5, RM, FM, 31, tM, rfl, rfl, by decide, in_M, rfl, rfl, tM_ok, rfl, nM_ok, Or.inl (hw_in 604 (by decide +kernel) rfl)⟩
theorem fM_38 : hw_F "TicketHouseModel" 38 20 13 (.array .int) true := ⟨5, RM, FM, 31, tM, rfl, rfl, by decide, in_M, rfl, rfl, tM_ok, rfl, nM_ok, Or.inl (hw_in 605 (by decide +kernel) rfl)⟩
theorem fM_41 : hw_F "TicketHouseModel" 41 20 14 (.array .int) true := ⟨5, RM, FM, 31, tM, rfl, rfl, by decide, in_M, rfl, rfl, tM_ok, rfl, nM_ok, Or.inl (hw_in 606 (by decide +kernel) rfl)⟩
theorem fM_44 : hw_F "TicketHouseModel" 44 20 15 (.array .int) true := ⟨5, RM, FM, 31, tM, rfl, rfl, by decide, in_M, rfl, rfl, tM_ok, rfl, nM_ok, Or.inl (hw_in 607 (by decide +kernel) rfl)⟩
theorem fM_47 : hw_F "TicketHouseModel" 47 20 16 (.array .boolean) true := ⟨5, RM, FM, 31, tM, rfl, rfl, by decide, in_M, rfl, rfl, tM_ok, rfl, nM_ok, Or.inl (hw_in 608 (by decide +kernel) rfl)⟩
theorem fM_50 : hw_F "TicketHouseModel" 50 20 17 (.array .boolean) true := ⟨5, RM, FM, 31, tM, rfl, rfl, by decide, in_M, rfl, rfl, tM_ok, rfl, nM_ok, Or.inl (hw_in 609 (by decide +kernel) rfl)⟩
theorem fM_111 : hw_F "TicketHouseModel" 111 20 18 .int false := ⟨5, RM, FM, 31, tM, rfl, rfl, by decide, in_M, rfl, rfl, tM_ok, rfl, nM_ok, Or.inl (hw_in 610 (by decide +kernel) rfl)⟩
theorem fM_53 : hw_F "TicketHouseModel" 53 20 19 (.array .int) true := ⟨5, RM, FM, 31, tM, rfl, rfl, by decide, in_M, rfl, rfl, tM_ok, rfl, nM_ok, Or.inl (hw_in 611 (by decide +kernel) rfl)⟩
theorem fM_56 : hw_F "TicketHouseModel" 56 20 20 (.array .int) true := ⟨5, RM, FM, 31, tM, rfl, rfl, by decide, in_M, rfl, rfl, tM_ok, rfl, nM_ok, Or.inl (hw_in 612 (by decide +kernel) rfl)⟩
theorem fM_59 : hw_F "TicketHouseModel" 59 20 21 (.array .int) true := ⟨5, RM, FM, 31, tM, rfl, rfl, by decide, in_M, rfl, rfl, tM_ok, rfl, nM_ok, Or.inl (hw_in 613 (by decide +kernel) rfl)⟩
theorem fM_62 : hw_F "TicketHouseModel" 62 20 22 (.array .int) true := ⟨5, RM, FM, 31, tM, rfl, rfl, by decide, in_M, rfl, rfl, tM_ok, rfl, nM_ok, Or.inl (hw_in 614 (by decide +kernel) rfl)⟩
theorem fM_65 : hw_F "TicketHouseModel" 65 20 23 (.array .boolean) true := ⟨5, RM, FM, 31, tM, rfl, rfl, by decide, in_M, rfl, rfl, tM_ok, rfl, nM_ok, Or.inl (hw_in 615 (by decide +kernel) rfl)⟩
theorem fM_68 : hw_F "TicketHouseModel" 68 20 24 (.array .int) true := ⟨5, RM, FM, 31, tM, rfl, rfl, by decide, in_M, rfl, rfl, tM_ok, rfl, nM_ok, Or.inl (hw_in 616 (by decide +kernel) rfl)⟩
theorem fM_71 : hw_F "TicketHouseModel" 71 20 25 (.array .boolean) true := ⟨5, RM, FM, 31, tM, rfl, rfl, by decide, in_M, rfl, rfl, tM_ok, rfl, nM_ok, Or.inl (hw_in 617 (by decide +kernel) rfl)⟩
theorem fM_163 : hw_F "TicketHouseModel" 163 20 26 .int false := ⟨5, RM, FM, 31, tM, rfl, rfl, by decide, in_M, rfl, rfl, tM_ok, rfl, nM_ok, Or.inl (hw_in 618 (by decide +kernel) rfl)⟩
theorem fM_74 : hw_F "TicketHouseModel" 74 20 27 (.array .int) true := ⟨5, RM, FM, 31, tM, rfl, rfl, by decide, in_M, rfl, rfl, tM_ok, rfl, nM_ok, Or.inl (hw_in 619 (by decide +kernel) rfl)⟩
theorem fM_77 : hw_F "TicketHouseModel" 77 20 28 (.array .int) true := ⟨5, RM, FM, 31, tM, rfl, rfl, by decide, in_M, rfl, rfl, tM_ok, rfl, nM_ok, Or.inl (hw_in 620 (by decide +kernel) rfl)⟩
theorem fM_80 : hw_F "TicketHouseModel" 80 20 29 .int false := ⟨5, RM, FM, 31, tM, rfl, rfl, by decide, in_M, rfl, rfl, tM_ok, rfl, nM_ok, Or.inl (hw_in 621 (by decide +kernel) rfl)⟩
theorem fM_84 : hw_F "TicketHouseModel" 84 20 30 (.array .int) true := ⟨5, RM, FM, 31, tM, rfl, rfl, by decide, in_M, rfl, rfl, tM_ok, rfl, nM_ok, Or.inl (hw_in 622 (by decide +kernel) rfl)⟩
theorem iH_init : Cond.instanceMethod yH_init ∈ hw_TS := hw_in 19 (by decide +kernel) rfl
theorem iT_init : Cond.instanceMethod yT_init ∈ hw_TS := hw_in 33 (by decide +kernel) rfl
theorem iU_init : Cond.instanceMethod yU_init ∈ hw_TS := hw_in 49 (by decide +kernel) rfl
theorem iH_document : Cond.instanceMethod yH_document ∈ hw_TS := hw_in 115 (by decide +kernel) rfl
theorem vH_document : Cond.selects yH_document.cls yH_document yH_document ∈ hw_TS := hw_in 116 (by decide +kernel) rfl
theorem iT_at : Cond.instanceMethod yT_at ∈ hw_TS := hw_in 119 (by decide +kernel) rfl
theorem vT_at : Cond.selects yT_at.cls yT_at yT_at ∈ hw_TS := hw_in 120 (by decide +kernel) rfl
theorem iH_session : Cond.instanceMethod yH_session ∈ hw_TS := hw_in 123 (by decide +kernel) rfl
theorem vH_session : Cond.selects yH_session.cls yH_session yH_session ∈ hw_TS := hw_in 124 (by decide +kernel) rfl
theorem iH_findSession : Cond.instanceMethod yH_findSession ∈ hw_TS := hw_in 128 (by decide +kernel) rfl
theorem vH_findSession : Cond.selects yH_findSession.cls yH_findSession yH_findSession ∈ hw_TS := hw_sel (n := 12) 0 (by decide +kernel) rfl
theorem sH_oneIf : Cond.static yH_oneIf ∈ hw_TS := hw_in 131 (by decide +kernel) rfl
theorem iH_about : Cond.instanceMethod yH_about ∈ hw_TS := hw_in 134 (by decide +kernel) rfl
theorem vH_about : Cond.selects yH_about.cls yH_about yH_about ∈ hw_TS := hw_in 135 (by decide +kernel) rfl
theorem iH_findTicket : Cond.instanceMethod yH_findTicket ∈ hw_TS := hw_in 139 (by decide +kernel) rfl
theorem vH_findTicket : Cond.selects yH_findTicket.cls yH_findTicket yH_findTicket ∈ hw_TS := hw_sel (n := 12) 1 (by decide +kernel) rfl
theorem iK_isGood : Cond.instanceMethod yK_isGood ∈ hw_TS := hw_in 142 (by decide +kernel) rfl
theorem vK_isGood : Cond.selects yK_isGood.cls yK_isGood yK_isGood ∈ hw_TS := hw_in 143 (by decide +kernel) rfl
theorem iH_message : Cond.instanceMethod yH_message ∈ hw_TS := hw_in 146 (by decide +kernel) rfl
theorem vH_message : Cond.selects yH_message.cls yH_message yH_message ∈ hw_TS := hw_in 147 (by decide +kernel) rfl
theorem iH_house : Cond.instanceMethod yH_house ∈ hw_TS := hw_in 150 (by decide +kernel) rfl
theorem vH_house : Cond.selects yH_house.cls yH_house yH_house ∈ hw_TS := hw_in 151 (by decide +kernel) rfl
theorem iH_wrongTries : Cond.instanceMethod yH_wrongTries ∈ hw_TS := hw_in 155 (by decide +kernel) rfl
theorem vH_wrongTries : Cond.selects yH_wrongTries.cls yH_wrongTries yH_wrongTries ∈ hw_TS := hw_sel (n := 12) 2 (by decide +kernel) rfl
theorem iH_findUser : Cond.instanceMethod yH_findUser ∈ hw_TS := hw_in 159 (by decide +kernel) rfl
theorem vH_findUser : Cond.selects yH_findUser.cls yH_findUser yH_findUser ∈ hw_TS := hw_sel (n := 12) 3 (by decide +kernel) rfl
theorem sL_letter : Cond.static yL_letter ∈ hw_TS := hw_in 162 (by decide +kernel) rfl
theorem iH_letter : Cond.instanceMethod yH_letter ∈ hw_TS := hw_in 167 (by decide +kernel) rfl
theorem vH_letter : Cond.selects yH_letter.cls yH_letter yH_letter ∈ hw_TS := hw_in 168 (by decide +kernel) rfl
theorem iT_add : Cond.instanceMethod yT_add ∈ hw_TS := hw_in 254 (by decide +kernel) rfl
theorem vT_add : Cond.selects yT_add.cls yT_add yT_add ∈ hw_TS := hw_in 255 (by decide +kernel) rfl
theorem sL_text : Cond.static yL_text ∈ hw_TS := hw_in 258 (by decide +kernel) rfl
theorem iH_text : Cond.instanceMethod yH_text ∈ hw_TS := hw_in 261 (by decide +kernel) rfl
theorem vH_text : Cond.selects yH_text.cls yH_text yH_text ∈ hw_TS := hw_in 262 (by decide +kernel) rfl
theorem iT_become : Cond.instanceMethod yT_become ∈ hw_TS := hw_in 266 (by decide +kernel) rfl
theorem vT_become : Cond.selects yT_become.cls yT_become yT_become ∈ hw_TS := hw_in 267 (by decide +kernel) rfl
theorem iT_clear : Cond.instanceMethod yT_clear ∈ hw_TS := hw_in 270 (by decide +kernel) rfl
theorem vT_clear : Cond.selects yT_clear.cls yT_clear yT_clear ∈ hw_TS := hw_in 271 (by decide +kernel) rfl
theorem sL_password : Cond.static yL_password ∈ hw_TS := hw_in 276 (by decide +kernel) rfl
theorem iH_password : Cond.instanceMethod yH_password ∈ hw_TS := hw_in 279 (by decide +kernel) rfl
theorem vH_password : Cond.selects yH_password.cls yH_password yH_password ∈ hw_TS := hw_in 280 (by decide +kernel) rfl
theorem iU_setWord : Cond.instanceMethod yU_setWord ∈ hw_TS := hw_in 284 (by decide +kernel) rfl
theorem vU_setWord : Cond.selects yU_setWord.cls yU_setWord yU_setWord ∈ hw_TS := hw_in 285 (by decide +kernel) rfl
theorem sL_service : Cond.static yL_service ∈ hw_TS := hw_in 288 (by decide +kernel) rfl
theorem iH_service : Cond.instanceMethod yH_service ∈ hw_TS := hw_in 291 (by decide +kernel) rfl
theorem vH_service : Cond.selects yH_service.cls yH_service yH_service ∈ hw_TS := hw_in 292 (by decide +kernel) rfl
theorem sH_isService : Cond.static yH_isService ∈ hw_TS := hw_in 295 (by decide +kernel) rfl
theorem sL_callback : Cond.static yL_callback ∈ hw_TS := hw_in 299 (by decide +kernel) rfl
theorem iH_callback : Cond.instanceMethod yH_callback ∈ hw_TS := hw_in 302 (by decide +kernel) rfl
theorem vH_callback : Cond.selects yH_callback.cls yH_callback yH_callback ∈ hw_TS := hw_in 303 (by decide +kernel) rfl
theorem sL_login : Cond.static yL_login ∈ hw_TS := hw_in 307 (by decide +kernel) rfl
theorem iH_login : Cond.instanceMethod yH_login ∈ hw_TS := hw_in 310 (by decide +kernel) rfl
theorem vH_login : Cond.selects yH_login.cls yH_login yH_login ∈ hw_TS := hw_in 311 (by decide +kernel) rfl
theorem iU_attempt : Cond.instanceMethod yU_attempt ∈ hw_TS := hw_in 315 (by decide +kernel) rfl
theorem vU_attempt : Cond.selects yU_attempt.cls yU_attempt yU_attempt ∈ hw_TS := hw_in 316 (by decide +kernel) rfl
theorem iH_openSession : Cond.instanceMethod yH_openSession ∈ hw_TS := hw_in 320 (by decide +kernel) rfl
theorem vH_openSession : Cond.selects yH_openSession.cls yH_openSession yH_openSession ∈ hw_TS := hw_sel (n := 12) 5 (by decide +kernel) rfl
theorem iS_init : Cond.instanceMethod yS_init ∈ hw_TS := hw_in 324 (by decide +kernel) rfl
theorem sL_enter : Cond.static yL_enter ∈ hw_TS := hw_in 354 (by decide +kernel) rfl
theorem iH_enter : Cond.instanceMethod yH_enter ∈ hw_TS := hw_in 357 (by decide +kernel) rfl
theorem vH_enter : Cond.selects yH_enter.cls yH_enter yH_enter ∈ hw_TS := hw_in 358 (by decide +kernel) rfl
theorem iH_isEnabled : Cond.instanceMethod yH_isEnabled ∈ hw_TS := hw_in 362 (by decide +kernel) rfl
theorem vH_isEnabled : Cond.selects yH_isEnabled.cls yH_isEnabled yH_isEnabled ∈ hw_TS := hw_sel (n := 12) 6 (by decide +kernel) rfl
theorem iH_hasFlag : Cond.instanceMethod yH_hasFlag ∈ hw_TS := hw_in 366 (by decide +kernel) rfl
theorem vH_hasFlag : Cond.selects yH_hasFlag.cls yH_hasFlag yH_hasFlag ∈ hw_TS := hw_sel (n := 12) 7 (by decide +kernel) rfl
theorem iH_giveTicket : Cond.instanceMethod yH_giveTicket ∈ hw_TS := hw_in 372 (by decide +kernel) rfl
theorem vH_giveTicket : Cond.selects yH_giveTicket.cls yH_giveTicket yH_giveTicket ∈ hw_TS := hw_sel (n := 12) 8 (by decide +kernel) rfl
theorem iK_init : Cond.instanceMethod yK_init ∈ hw_TS := hw_in 376 (by decide +kernel) rfl
theorem sL_ticket : Cond.static yL_ticket ∈ hw_TS := hw_in 417 (by decide +kernel) rfl
theorem iH_ticket : Cond.instanceMethod yH_ticket ∈ hw_TS := hw_in 420 (by decide +kernel) rfl
theorem vH_ticket : Cond.selects yH_ticket.cls yH_ticket yH_ticket ∈ hw_TS := hw_in 421 (by decide +kernel) rfl
theorem sL_proxy : Cond.static yL_proxy ∈ hw_TS := hw_in 426 (by decide +kernel) rfl
theorem iH_proxy : Cond.instanceMethod yH_proxy ∈ hw_TS := hw_in 429 (by decide +kernel) rfl
theorem vH_proxy : Cond.selects yH_proxy.cls yH_proxy yH_proxy ∈ hw_TS := hw_in 430 (by decide +kernel) rfl
theorem sL_validate : Cond.static yL_validate ∈ hw_TS := hw_in 435 (by decide +kernel) rfl
theorem iH_validate : Cond.instanceMethod yH_validate ∈ hw_TS := hw_in 438 (by decide +kernel) rfl
theorem vH_validate : Cond.selects yH_validate.cls yH_validate yH_validate ∈ hw_TS := hw_in 439 (by decide +kernel) rfl
theorem iH_refuse : Cond.instanceMethod yH_refuse ∈ hw_TS := hw_in 444 (by decide +kernel) rfl
theorem vH_refuse : Cond.selects yH_refuse.cls yH_refuse yH_refuse ∈ hw_TS := hw_sel (n := 12) 9 (by decide +kernel) rfl
theorem iT_addAll : Cond.instanceMethod yT_addAll ∈ hw_TS := hw_in 448 (by decide +kernel) rfl
theorem vT_addAll : Cond.selects yT_addAll.cls yT_addAll yT_addAll ∈ hw_TS := hw_in 449 (by decide +kernel) rfl
theorem iT_addNumber : Cond.instanceMethod yT_addNumber ∈ hw_TS := hw_in 500 (by decide +kernel) rfl
theorem vT_addNumber : Cond.selects yT_addNumber.cls yT_addNumber yT_addNumber ∈ hw_TS := hw_in 501 (by decide +kernel) rfl
theorem iT_turnRound : Cond.instanceMethod yT_turnRound ∈ hw_TS := hw_in 505 (by decide +kernel) rfl
theorem vT_turnRound : Cond.selects yT_turnRound.cls yT_turnRound yT_turnRound ∈ hw_TS := hw_sel (n := 2) 10 (by decide +kernel) rfl
theorem iK_judge : Cond.instanceMethod yK_judge ∈ hw_TS := hw_in 510 (by decide +kernel) rfl
theorem vK_judge : Cond.selects yK_judge.cls yK_judge yK_judge ∈ hw_TS := hw_in 511 (by decide +kernel) rfl
theorem iH_grantFor : Cond.instanceMethod yH_grantFor ∈ hw_TS := hw_in 516 (by decide +kernel) rfl
theorem vH_grantFor : Cond.selects yH_grantFor.cls yH_grantFor yH_grantFor ∈ hw_TS := hw_sel (n := 12) 11 (by decide +kernel) rfl
theorem iH_writeAcceptance : Cond.instanceMethod yH_writeAcceptance ∈ hw_TS := hw_in 520 (by decide +kernel) rfl
theorem vH_writeAcceptance : Cond.selects yH_writeAcceptance.cls yH_writeAcceptance yH_writeAcceptance ∈ hw_TS := hw_sel (n := 12) 12 (by decide +kernel) rfl
theorem iT_addEscapedT : Cond.instanceMethod yT_addEscapedT ∈ hw_TS := hw_in 524 (by decide +kernel) rfl
theorem vT_addEscapedT : Cond.selects yT_addEscapedT.cls yT_addEscapedT yT_addEscapedT ∈ hw_TS := hw_in 525 (by decide +kernel) rfl
theorem iT_addEscapedC : Cond.instanceMethod yT_addEscapedC ∈ hw_TS := hw_in 529 (by decide +kernel) rfl
theorem vT_addEscapedC : Cond.selects yT_addEscapedC.cls yT_addEscapedC yT_addEscapedC ∈ hw_TS := hw_sel (n := 2) 13 (by decide +kernel) rfl
theorem iH_writeAttributes : Cond.instanceMethod yH_writeAttributes ∈ hw_TS := hw_in 538 (by decide +kernel) rfl
theorem vH_writeAttributes : Cond.selects yH_writeAttributes.cls yH_writeAttributes yH_writeAttributes ∈ hw_TS := hw_sel (n := 12) 14 (by decide +kernel) rfl
theorem iT_addElement : Cond.instanceMethod yT_addElement ∈ hw_TS := hw_in 543 (by decide +kernel) rfl
theorem vT_addElement : Cond.selects yT_addElement.cls yT_addElement yT_addElement ∈ hw_TS := hw_in 544 (by decide +kernel) rfl
theorem iH_writeChain : Cond.instanceMethod yH_writeChain ∈ hw_TS := hw_in 550 (by decide +kernel) rfl
theorem vH_writeChain : Cond.selects yH_writeChain.cls yH_writeChain yH_writeChain ∈ hw_TS := hw_sel (n := 12) 15 (by decide +kernel) rfl
theorem sL_logout : Cond.static yL_logout ∈ hw_TS := hw_in 554 (by decide +kernel) rfl
theorem iH_logout : Cond.instanceMethod yH_logout ∈ hw_TS := hw_in 557 (by decide +kernel) rfl
theorem vH_logout : Cond.selects yH_logout.cls yH_logout yH_logout ∈ hw_TS := hw_in 558 (by decide +kernel) rfl
theorem iH_end : Cond.instanceMethod yH_end ∈ hw_TS := hw_in 564 (by decide +kernel) rfl
theorem vH_end : Cond.selects yH_end.cls yH_end yH_end ∈ hw_TS := hw_sel (n := 12) 16 (by decide +kernel) rfl
theorem iH_tellOfEnd : Cond.instanceMethod yH_tellOfEnd ∈ hw_TS := hw_in 568 (by decide +kernel) rfl
theorem vH_tellOfEnd : Cond.selects yH_tellOfEnd.cls yH_tellOfEnd yH_tellOfEnd ∈ hw_TS := hw_sel (n := 12) 17 (by decide +kernel) rfl
theorem sL_tick : Cond.static yL_tick ∈ hw_TS := hw_in 571 (by decide +kernel) rfl
theorem iH_tick : Cond.instanceMethod yH_tick ∈ hw_TS := hw_in 574 (by decide +kernel) rfl
theorem vH_tick : Cond.selects yH_tick.cls yH_tick yH_tick ∈ hw_TS := hw_in 575 (by decide +kernel) rfl
theorem iU_unlockIfDue : Cond.instanceMethod yU_unlockIfDue ∈ hw_TS := hw_in 579 (by decide +kernel) rfl
theorem vU_unlockIfDue : Cond.selects yU_unlockIfDue.cls yU_unlockIfDue yU_unlockIfDue ∈ hw_TS := hw_in 580 (by decide +kernel) rfl
theorem iS_isOver : Cond.instanceMethod yS_isOver ∈ hw_TS := hw_in 583 (by decide +kernel) rfl
theorem vS_isOver : Cond.selects yS_isOver.cls yS_isOver yS_isOver ∈ hw_TS := hw_in 584 (by decide +kernel) rfl
theorem iM_init : Cond.instanceMethod yM_init ∈ hw_TS := hw_in 589 (by decide +kernel) rfl
theorem iM_thrown : Cond.instanceMethod yM_thrown ∈ hw_TS := hw_in 687 (by decide +kernel) rfl
theorem vM_thrown : Cond.selects yM_thrown.cls yM_thrown yM_thrown ∈ hw_TS := hw_in 688 (by decide +kernel) rfl
theorem iM_letter : Cond.instanceMethod yM_letter ∈ hw_TS := hw_in 691 (by decide +kernel) rfl
theorem vM_letter : Cond.selects yM_letter.cls yM_letter yM_letter ∈ hw_TS := hw_in 692 (by decide +kernel) rfl
theorem sM_within : Cond.static yM_within ∈ hw_TS := hw_in 695 (by decide +kernel) rfl
theorem iM_text : Cond.instanceMethod yM_text ∈ hw_TS := hw_in 698 (by decide +kernel) rfl
theorem vM_text : Cond.selects yM_text.cls yM_text yM_text ∈ hw_TS := hw_in 699 (by decide +kernel) rfl
theorem iM_password : Cond.instanceMethod yM_password ∈ hw_TS := hw_in 702 (by decide +kernel) rfl
theorem vM_password : Cond.selects yM_password.cls yM_password yM_password ∈ hw_TS := hw_in 703 (by decide +kernel) rfl
theorem iM_service : Cond.instanceMethod yM_service ∈ hw_TS := hw_in 706 (by decide +kernel) rfl
theorem vM_service : Cond.selects yM_service.cls yM_service yM_service ∈ hw_TS := hw_in 707 (by decide +kernel) rfl
theorem iM_callback : Cond.instanceMethod yM_callback ∈ hw_TS := hw_in 710 (by decide +kernel) rfl
theorem vM_callback : Cond.selects yM_callback.cls yM_callback yM_callback ∈ hw_TS := hw_in 711 (by decide +kernel) rfl
theorem iM_login : Cond.instanceMethod yM_login ∈ hw_TS := hw_in 714 (by decide +kernel) rfl
theorem vM_login : Cond.selects yM_login.cls yM_login yM_login ∈ hw_TS := hw_in 715 (by decide +kernel) rfl
theorem iM_tries : Cond.instanceMethod yM_tries ∈ hw_TS := hw_in 719 (by decide +kernel) rfl
theorem vM_tries : Cond.selects yM_tries.cls yM_tries yM_tries ∈ hw_TS := hw_sel (n := 31) 18 (by decide +kernel) rfl
theorem iM_counting : Cond.instanceMethod yM_counting ∈ hw_TS := hw_in 723 (by decide +kernel) rfl
theorem vM_counting : Cond.selects yM_counting.cls yM_counting yM_counting ∈ hw_TS := hw_sel (n := 31) 19 (by decide +kernel) rfl
theorem iM_enter : Cond.instanceMethod yM_enter ∈ hw_TS := hw_in 726 (by decide +kernel) rfl
theorem vM_enter : Cond.selects yM_enter.cls yM_enter yM_enter ∈ hw_TS := hw_in 727 (by decide +kernel) rfl
theorem iM_enabled : Cond.instanceMethod yM_enabled ∈ hw_TS := hw_in 731 (by decide +kernel) rfl
theorem vM_enabled : Cond.selects yM_enabled.cls yM_enabled yM_enabled ∈ hw_TS := hw_sel (n := 31) 20 (by decide +kernel) rfl
theorem iM_give : Cond.instanceMethod yM_give ∈ hw_TS := hw_in 735 (by decide +kernel) rfl
theorem vM_give : Cond.selects yM_give.cls yM_give yM_give ∈ hw_TS := hw_sel (n := 31) 21 (by decide +kernel) rfl
theorem iM_ticket : Cond.instanceMethod yM_ticket ∈ hw_TS := hw_in 738 (by decide +kernel) rfl
theorem vM_ticket : Cond.selects yM_ticket.cls yM_ticket yM_ticket ∈ hw_TS := hw_in 739 (by decide +kernel) rfl
theorem iM_proxy : Cond.instanceMethod yM_proxy ∈ hw_TS := hw_in 742 (by decide +kernel) rfl
theorem vM_proxy : Cond.selects yM_proxy.cls yM_proxy yM_proxy ∈ hw_TS := hw_in 743 (by decide +kernel) rfl
theorem iM_good : Cond.instanceMethod yM_good ∈ hw_TS := hw_in 747 (by decide +kernel) rfl
theorem vM_good : Cond.selects yM_good.cls yM_good yM_good ∈ hw_TS := hw_sel (n := 31) 22 (by decide +kernel) rfl
theorem iM_validate : Cond.instanceMethod yM_validate ∈ hw_TS := hw_in 750 (by decide +kernel) rfl
theorem vM_validate : Cond.selects yM_validate.cls yM_validate yM_validate ∈ hw_TS := hw_in 751 (by decide +kernel) rfl
theorem iM_judged : Cond.instanceMethod yM_judged ∈ hw_TS := hw_in 755 (by decide +kernel) rfl
theorem vM_judged : Cond.selects yM_judged.cls yM_judged yM_judged ∈ hw_TS := hw_sel (n := 31) 23 (by decide +kernel) rfl
theorem iM_no : Cond.instanceMethod yM_no ∈ hw_TS := hw_in 759 (by decide +kernel) rfl
theorem vM_no : Cond.selects yM_no.cls yM_no yM_no ∈ hw_TS := hw_sel (n := 31) 24 (by decide +kernel) rfl
theorem iM_put : Cond.instanceMethod yM_put ∈ hw_TS := hw_in 763 (by decide +kernel) rfl
theorem vM_put : Cond.selects yM_put.cls yM_put yM_put ∈ hw_TS := hw_sel (n := 31) 25 (by decide +kernel) rfl
theorem iM_number : Cond.instanceMethod yM_number ∈ hw_TS := hw_in 767 (by decide +kernel) rfl
theorem vM_number : Cond.selects yM_number.cls yM_number yM_number ∈ hw_TS := hw_sel (n := 31) 26 (by decide +kernel) rfl
theorem iM_tag : Cond.instanceMethod yM_tag ∈ hw_TS := hw_in 772 (by decide +kernel) rfl
theorem vM_tag : Cond.selects yM_tag.cls yM_tag yM_tag ∈ hw_TS := hw_sel (n := 31) 27 (by decide +kernel) rfl
theorem iM_ok : Cond.instanceMethod yM_ok ∈ hw_TS := hw_in 776 (by decide +kernel) rfl
theorem vM_ok : Cond.selects yM_ok.cls yM_ok yM_ok ∈ hw_TS := hw_sel (n := 31) 28 (by decide +kernel) rfl
theorem iM_letters : Cond.instanceMethod yM_letters ∈ hw_TS := hw_in 780 (by decide +kernel) rfl
theorem vM_letters : Cond.selects yM_letters.cls yM_letters yM_letters ∈ hw_TS := hw_sel (n := 31) 29 (by decide +kernel) rfl
theorem iM_entity : Cond.instanceMethod yM_entity ∈ hw_TS := hw_in 784 (by decide +kernel) rfl
theorem vM_entity : Cond.selects yM_entity.cls yM_entity yM_entity ∈ hw_TS := hw_sel (n := 31) 30 (by decide +kernel) rfl
theorem iM_element : Cond.instanceMethod yM_element ∈ hw_TS := hw_in 788 (by decide +kernel) rfl
theorem vM_element : Cond.selects yM_element.cls yM_element yM_element ∈ hw_TS := hw_sel (n := 31) 31 (by decide +kernel) rfl
theorem iM_grant : Cond.instanceMethod yM_grant ∈ hw_TS := hw_in 792 (by decide +kernel) rfl
theorem vM_grant : Cond.selects yM_grant.cls yM_grant yM_grant ∈ hw_TS := hw_sel (n := 31) 32 (by decide +kernel) rfl
theorem iM_logout : Cond.instanceMethod yM_logout ∈ hw_TS := hw_in 795 (by decide +kernel) rfl
theorem vM_logout : Cond.selects yM_logout.cls yM_logout yM_logout ∈ hw_TS := hw_in 796 (by decide +kernel) rfl
theorem iM_ends : Cond.instanceMethod yM_ends ∈ hw_TS := hw_in 800 (by decide +kernel) rfl
theorem vM_ends : Cond.selects yM_ends.cls yM_ends yM_ends ∈ hw_TS := hw_sel (n := 31) 33 (by decide +kernel) rfl
theorem iM_tick : Cond.instanceMethod yM_tick ∈ hw_TS := hw_in 803 (by decide +kernel) rfl
theorem vM_tick : Cond.selects yM_tick.cls yM_tick yM_tick ∈ hw_TS := hw_in 804 (by decide +kernel) rfl
theorem iM_document : Cond.instanceMethod yM_document ∈ hw_TS := hw_in 807 (by decide +kernel) rfl
theorem vM_document : Cond.selects yM_document.cls yM_document yM_document ∈ hw_TS := hw_in 808 (by decide +kernel) rfl
theorem iM_session : Cond.instanceMethod yM_session ∈ hw_TS := hw_in 811 (by decide +kernel) rfl
theorem vM_session : Cond.selects yM_session.cls yM_session yM_session ∈ hw_TS := hw_in 812 (by decide +kernel) rfl
theorem iM_about : Cond.instanceMethod yM_about ∈ hw_TS := hw_in 815 (by decide +kernel) rfl
theorem vM_about : Cond.selects yM_about.cls yM_about yM_about ∈ hw_TS := hw_in 816 (by decide +kernel) rfl
theorem iM_message : Cond.instanceMethod yM_message ∈ hw_TS := hw_in 819 (by decide +kernel) rfl
theorem vM_message : Cond.selects yM_message.cls yM_message yM_message ∈ hw_TS := hw_in 820 (by decide +kernel) rfl
theorem iM_house : Cond.instanceMethod yM_house ∈ hw_TS := hw_in 823 (by decide +kernel) rfl
theorem vM_house : Cond.selects yM_house.cls yM_house yM_house ∈ hw_TS := hw_in 824 (by decide +kernel) rfl
theorem kL_56 : hw_C "TicketHouseLaw" 56 yH_init cH_init 2 none 0 := ⟨hw_in 20 (by decide +kernel) rfl, hw_in 1 (by decide +kernel) rfl, ⟨by decide, by decide, by decide +kernel⟩, Or.inl (hw_in 18 (by decide +kernel) rfl)⟩
theorem kH_40 : hw_C "TicketHouse" 40 yT_init cT_init 2 none 1 := ⟨hw_in 34 (by decide +kernel) rfl, hw_in 2 (by decide +kernel) rfl, ⟨by decide, by decide, by decide +kernel⟩, Or.inl (hw_in 32 (by decide +kernel) rfl)⟩
theorem kH_50 : hw_C "TicketHouse" 50 yU_init cU_init 3 none 1 := ⟨hw_in 50 (by decide +kernel) rfl, hw_in 3 (by decide +kernel) rfl, ⟨by decide, by decide, by decide +kernel⟩, Or.inl (hw_in 48 (by decide +kernel) rfl)⟩
theorem kU_21 : hw_C "TicketHouse$User" 21 yT_init cT_init 2 none 1 := ⟨hw_in 34 (by decide +kernel) rfl, hw_in 2 (by decide +kernel) rfl, ⟨by decide, by decide, by decide +kernel⟩, Or.inl (hw_in 54 (by decide +kernel) rfl)⟩
theorem kL_108 : hw_C "TicketHouseLaw" 108 yH_document cH_document 2 (some .int) 1 := ⟨hw_in 117 (by decide +kernel) rfl, hw_in 1 (by decide +kernel) rfl, ⟨by decide, by decide, by decide +kernel⟩, Or.inl (hw_in 114 (by decide +kernel) rfl)⟩
theorem kH_207 : hw_C "TicketHouse" 207 yT_at cT_at 2 (some .int) 1 := ⟨hw_in 121 (by decide +kernel) rfl, hw_in 2 (by decide +kernel) rfl, ⟨by decide, by decide, by decide +kernel⟩, Or.inl (hw_in 118 (by decide +kernel) rfl)⟩
theorem kL_112 : hw_C "TicketHouseLaw" 112 yH_session cH_session 4 (some .int) 2 := ⟨hw_in 125 (by decide +kernel) rfl, hw_in 1 (by decide +kernel) rfl, ⟨by decide, by decide, by decide +kernel⟩, Or.inl (hw_in 122 (by decide +kernel) rfl)⟩
theorem kH_139 : hw_C "TicketHouse" 139 yH_findSession cH_findSession 2 (some (.object "TicketHouse$Session")) 1 := ⟨hw_in 129 (by decide +kernel) rfl, hw_in 1 (by decide +kernel) rfl, ⟨by decide, by decide, by decide +kernel⟩, Or.inl (hw_in 126 (by decide +kernel) rfl)⟩
theorem kH_216 : hw_C "TicketHouse" 216 yH_oneIf cH_oneIf 1 (some .int) 1 := ⟨hw_in 132 (by decide +kernel) rfl, hw_in 1 (by decide +kernel) rfl, ⟨by decide, by decide, by decide +kernel⟩, Or.inl (hw_in 130 (by decide +kernel) rfl)⟩
theorem kL_116 : hw_C "TicketHouseLaw" 116 yH_about cH_about 4 (some .int) 2 := ⟨hw_in 136 (by decide +kernel) rfl, hw_in 1 (by decide +kernel) rfl, ⟨by decide, by decide, by decide +kernel⟩, Or.inl (hw_in 133 (by decide +kernel) rfl)⟩
theorem kH_153 : hw_C "TicketHouse" 153 yH_findTicket cH_findTicket 2 (some (.object "TicketHouse$Ticket")) 1 := ⟨hw_in 140 (by decide +kernel) rfl, hw_in 1 (by decide +kernel) rfl, ⟨by decide, by decide, by decide +kernel⟩, Or.inl (hw_in 137 (by decide +kernel) rfl)⟩
theorem kH_162 : hw_C "TicketHouse" 162 yK_isGood cK_isGood 3 (some .boolean) 1 := ⟨hw_in 144 (by decide +kernel) rfl, hw_in 11 (by decide +kernel) rfl, ⟨by decide, by decide, by decide +kernel⟩, Or.inl (hw_in 141 (by decide +kernel) rfl)⟩
theorem kL_120 : hw_C "TicketHouseLaw" 120 yH_message cH_message 2 (some .int) 1 := ⟨hw_in 148 (by decide +kernel) rfl, hw_in 1 (by decide +kernel) rfl, ⟨by decide, by decide, by decide +kernel⟩, Or.inl (hw_in 145 (by decide +kernel) rfl)⟩
theorem kL_124 : hw_C "TicketHouseLaw" 124 yH_house cH_house 2 (some .int) 1 := ⟨hw_in 152 (by decide +kernel) rfl, hw_in 1 (by decide +kernel) rfl, ⟨by decide, by decide, by decide +kernel⟩, Or.inl (hw_in 149 (by decide +kernel) rfl)⟩
theorem kH_242 : hw_C "TicketHouse" 242 yH_wrongTries cH_wrongTries 3 (some .int) 1 := ⟨hw_in 156 (by decide +kernel) rfl, hw_in 1 (by decide +kernel) rfl, ⟨by decide, by decide, by decide +kernel⟩, Or.inl (hw_in 153 (by decide +kernel) rfl)⟩
theorem kH_71 : hw_C "TicketHouse" 71 yH_findUser cH_findUser 2 (some (.object "TicketHouse$User")) 1 := ⟨hw_in 160 (by decide +kernel) rfl, hw_in 1 (by decide +kernel) rfl, ⟨by decide, by decide, by decide +kernel⟩, Or.inl (hw_in 157 (by decide +kernel) rfl)⟩
theorem kL_60 : (Cond.codeWith yL_letter cL_letter 4 (some .int) [(0, 9, 12, 13), (0, 9, 15, 15)] ∈ hw_TS ∧ Cond.initialized yL_letter.cls ∈ hw_TS) ∧ (yL_letter.cls ≠ "java/lang/invoke/MethodHandle" ∧ yL_letter.cls ≠ "java/lang/invoke/VarHandle" ∧ (parseMethodDescriptor yL_letter.desc).map (fun d => d.parameters.length) = some 3) ∧ Cond.methodLink "TicketHouseLaw" 60 yL_letter ∈ hw_TS := ⟨⟨hw_in 163 (by decide +kernel) rfl, hw_in 0 (by decide +kernel) rfl⟩, ⟨by decide, by decide, by decide +kernel⟩, hw_in 161 (by decide +kernel) rfl⟩
theorem kL_7 : hw_C "TicketHouseLaw" 7 yH_letter cH_letter 2 (some .int) 1 := ⟨hw_in 169 (by decide +kernel) rfl, hw_in 1 (by decide +kernel) rfl, ⟨by decide, by decide, by decide +kernel⟩, Or.inl (hw_in 166 (by decide +kernel) rfl)⟩
theorem kH_67 : hw_C "TicketHouse" 67 yT_add cT_add 2 none 1 := ⟨hw_in 256 (by decide +kernel) rfl, hw_in 2 (by decide +kernel) rfl, ⟨by decide, by decide, by decide +kernel⟩, Or.inl (hw_in 253 (by decide +kernel) rfl)⟩
theorem kL_66 : (Cond.codeWith yL_text cL_text 5 (some .int) [(0, 10, 13, 13)] ∈ hw_TS ∧ Cond.initialized yL_text.cls ∈ hw_TS) ∧ (yL_text.cls ≠ "java/lang/invoke/MethodHandle" ∧ yL_text.cls ≠ "java/lang/invoke/VarHandle" ∧ (parseMethodDescriptor yL_text.desc).map (fun d => d.parameters.length) = some 4) ∧ Cond.methodLink "TicketHouseLaw" 66 yL_text ∈ hw_TS := ⟨⟨hw_in 259 (by decide +kernel) rfl, hw_in 0 (by decide +kernel) rfl⟩, ⟨by decide, by decide, by decide +kernel⟩, hw_in 257 (by decide +kernel) rfl⟩
theorem kL_17 : hw_C "TicketHouseLaw" 17 yH_text cH_text 5 (some .int) 2 := ⟨hw_in 263 (by decide +kernel) rfl, hw_in 1 (by decide +kernel) rfl, ⟨by decide, by decide, by decide +kernel⟩, Or.inl (hw_in 260 (by decide +kernel) rfl)⟩
theorem kH_81 : hw_C "TicketHouse" 81 yT_become cT_become 3 none 1 := ⟨hw_in 268 (by decide +kernel) rfl, hw_in 2 (by decide +kernel) rfl, ⟨by decide, by decide, by decide +kernel⟩, Or.inl (hw_in 265 (by decide +kernel) rfl)⟩
theorem kT_56 : hw_C "TicketHouse$Text" 56 yT_clear cT_clear 1 none 0 := ⟨hw_in 272 (by decide +kernel) rfl, hw_in 2 (by decide +kernel) rfl, ⟨by decide, by decide, by decide +kernel⟩, Or.inl (hw_in 269 (by decide +kernel) rfl)⟩
theorem kT_28 : hw_C "TicketHouse$Text" 28 yT_add cT_add 2 none 1 := ⟨hw_in 256 (by decide +kernel) rfl, hw_in 2 (by decide +kernel) rfl, ⟨by decide, by decide, by decide +kernel⟩, Or.inl (hw_in 273 (by decide +kernel) rfl)⟩
theorem kH_85 : hw_C "TicketHouse" 85 yT_clear cT_clear 1 none 0 := ⟨hw_in 272 (by decide +kernel) rfl, hw_in 2 (by decide +kernel) rfl, ⟨by decide, by decide, by decide +kernel⟩, Or.inl (hw_in 274 (by decide +kernel) rfl)⟩
theorem kL_70 : (Cond.codeWith yL_password cL_password 5 (some .int) [(0, 17, 20, 13)] ∈ hw_TS ∧ Cond.initialized yL_password.cls ∈ hw_TS) ∧ (yL_password.cls ≠ "java/lang/invoke/MethodHandle" ∧ yL_password.cls ≠ "java/lang/invoke/VarHandle" ∧ (parseMethodDescriptor yL_password.desc).map (fun d => d.parameters.length) = some 4) ∧ Cond.methodLink "TicketHouseLaw" 70 yL_password ∈ hw_TS := ⟨⟨hw_in 277 (by decide +kernel) rfl, hw_in 0 (by decide +kernel) rfl⟩, ⟨by decide, by decide, by decide +kernel⟩, hw_in 275 (by decide +kernel) rfl⟩
theorem kL_21 : hw_C "TicketHouseLaw" 21 yH_password cH_password 4 (some .boolean) 2 := ⟨hw_in 281 (by decide +kernel) rfl, hw_in 1 (by decide +kernel) rfl, ⟨by decide, by decide, by decide +kernel⟩, Or.inl (hw_in 278 (by decide +kernel) rfl)⟩
theorem kH_90 : hw_C "TicketHouse" 90 yU_setWord cU_setWord 2 none 1 := ⟨hw_in 286 (by decide +kernel) rfl, hw_in 3 (by decide +kernel) rfl, ⟨by decide, by decide, by decide +kernel⟩, Or.inl (hw_in 283 (by decide +kernel) rfl)⟩
theorem kL_73 : (Cond.codeWith yL_service cL_service 5 (some .int) [(0, 10, 13, 13)] ∈ hw_TS ∧ Cond.initialized yL_service.cls ∈ hw_TS) ∧ (yL_service.cls ≠ "java/lang/invoke/MethodHandle" ∧ yL_service.cls ≠ "java/lang/invoke/VarHandle" ∧ (parseMethodDescriptor yL_service.desc).map (fun d => d.parameters.length) = some 4) ∧ Cond.methodLink "TicketHouseLaw" 73 yL_service ∈ hw_TS := ⟨⟨hw_in 289 (by decide +kernel) rfl, hw_in 0 (by decide +kernel) rfl⟩, ⟨by decide, by decide, by decide +kernel⟩, hw_in 287 (by decide +kernel) rfl⟩
theorem kL_25 : hw_C "TicketHouseLaw" 25 yH_service cH_service 4 (some .int) 2 := ⟨hw_in 293 (by decide +kernel) rfl, hw_in 1 (by decide +kernel) rfl, ⟨by decide, by decide, by decide +kernel⟩, Or.inl (hw_in 290 (by decide +kernel) rfl)⟩
theorem kH_93 : hw_C "TicketHouse" 93 yH_isService cH_isService 1 (some .boolean) 1 := ⟨hw_in 296 (by decide +kernel) rfl, hw_in 1 (by decide +kernel) rfl, ⟨by decide, by decide, by decide +kernel⟩, Or.inl (hw_in 294 (by decide +kernel) rfl)⟩
theorem kL_80 : (Cond.codeWith yL_callback cL_callback 5 (some .int) [(0, 17, 20, 13)] ∈ hw_TS ∧ Cond.initialized yL_callback.cls ∈ hw_TS) ∧ (yL_callback.cls ≠ "java/lang/invoke/MethodHandle" ∧ yL_callback.cls ≠ "java/lang/invoke/VarHandle" ∧ (parseMethodDescriptor yL_callback.desc).map (fun d => d.parameters.length) = some 4) ∧ Cond.methodLink "TicketHouseLaw" 80 yL_callback ∈ hw_TS := ⟨⟨hw_in 300 (by decide +kernel) rfl, hw_in 0 (by decide +kernel) rfl⟩, ⟨by decide, by decide, by decide +kernel⟩, hw_in 298 (by decide +kernel) rfl⟩
theorem kL_28 : hw_C "TicketHouseLaw" 28 yH_callback cH_callback 4 (some .boolean) 2 := ⟨hw_in 304 (by decide +kernel) rfl, hw_in 1 (by decide +kernel) rfl, ⟨by decide, by decide, by decide +kernel⟩, Or.inl (hw_in 301 (by decide +kernel) rfl)⟩
theorem kL_84 : (Cond.codeWith yL_login cL_login 6 (some .int) [(0, 12, 15, 13), (0, 12, 19, 15)] ∈ hw_TS ∧ Cond.initialized yL_login.cls ∈ hw_TS) ∧ (yL_login.cls ≠ "java/lang/invoke/MethodHandle" ∧ yL_login.cls ≠ "java/lang/invoke/VarHandle" ∧ (parseMethodDescriptor yL_login.desc).map (fun d => d.parameters.length) = some 5) ∧ Cond.methodLink "TicketHouseLaw" 84 yL_login ∈ hw_TS := ⟨⟨hw_in 308 (by decide +kernel) rfl, hw_in 0 (by decide +kernel) rfl⟩, ⟨by decide, by decide, by decide +kernel⟩, hw_in 306 (by decide +kernel) rfl⟩
theorem kL_32 : hw_C "TicketHouseLaw" 32 yH_login cH_login 6 (some .int) 3 := ⟨hw_in 312 (by decide +kernel) rfl, hw_in 1 (by decide +kernel) rfl, ⟨by decide, by decide, by decide +kernel⟩, Or.inl (hw_in 309 (by decide +kernel) rfl)⟩
theorem kH_109 : hw_C "TicketHouse" 109 yU_attempt cU_attempt 3 (some .int) 2 := ⟨hw_in 317 (by decide +kernel) rfl, hw_in 3 (by decide +kernel) rfl, ⟨by decide, by decide, by decide +kernel⟩, Or.inl (hw_in 314 (by decide +kernel) rfl)⟩
theorem kH_113 : hw_C "TicketHouse" 113 yH_openSession cH_openSession 4 (some (.object "TicketHouse$Session")) 2 := ⟨hw_in 321 (by decide +kernel) rfl, hw_in 1 (by decide +kernel) rfl, ⟨by decide, by decide, by decide +kernel⟩, Or.inl (hw_in 318 (by decide +kernel) rfl)⟩
theorem kH_251 : hw_C "TicketHouse" 251 yS_init cS_init 5 none 4 := ⟨hw_in 325 (by decide +kernel) rfl, hw_in 10 (by decide +kernel) rfl, ⟨by decide, by decide, by decide +kernel⟩, Or.inl (hw_in 323 (by decide +kernel) rfl)⟩
theorem kL_88 : (Cond.codeWith yL_enter cL_enter 6 (some .int) [(0, 12, 15, 13), (0, 12, 19, 15)] ∈ hw_TS ∧ Cond.initialized yL_enter.cls ∈ hw_TS) ∧ (yL_enter.cls ≠ "java/lang/invoke/MethodHandle" ∧ yL_enter.cls ≠ "java/lang/invoke/VarHandle" ∧ (parseMethodDescriptor yL_enter.desc).map (fun d => d.parameters.length) = some 5) ∧ Cond.methodLink "TicketHouseLaw" 88 yL_enter ∈ hw_TS := ⟨⟨hw_in 355 (by decide +kernel) rfl, hw_in 0 (by decide +kernel) rfl⟩, ⟨by decide, by decide, by decide +kernel⟩, hw_in 353 (by decide +kernel) rfl⟩
theorem kL_36 : hw_C "TicketHouseLaw" 36 yH_enter cH_enter 7 (some .int) 3 := ⟨hw_in 359 (by decide +kernel) rfl, hw_in 1 (by decide +kernel) rfl, ⟨by decide, by decide, by decide +kernel⟩, Or.inl (hw_in 356 (by decide +kernel) rfl)⟩
theorem kH_120 : hw_C "TicketHouse" 120 yH_isEnabled cH_isEnabled 2 (some .boolean) 1 := ⟨hw_in 363 (by decide +kernel) rfl, hw_in 1 (by decide +kernel) rfl, ⟨by decide, by decide, by decide +kernel⟩, Or.inl (hw_in 360 (by decide +kernel) rfl)⟩
theorem kH_247 : hw_C "TicketHouse" 247 yH_hasFlag cH_hasFlag 3 (some .boolean) 2 := ⟨hw_in 367 (by decide +kernel) rfl, hw_in 1 (by decide +kernel) rfl, ⟨by decide, by decide, by decide +kernel⟩, Or.inl (hw_in 364 (by decide +kernel) rfl)⟩
theorem kH_130 : hw_C "TicketHouse" 130 yH_giveTicket cH_giveTicket 6 (some (.object "TicketHouse$Ticket")) 4 := ⟨hw_in 373 (by decide +kernel) rfl, hw_in 1 (by decide +kernel) rfl, ⟨by decide, by decide, by decide +kernel⟩, Or.inl (hw_in 370 (by decide +kernel) rfl)⟩
theorem kH_254 : hw_C "TicketHouse" 254 yK_init cK_init 8 none 6 := ⟨hw_in 377 (by decide +kernel) rfl, hw_in 11 (by decide +kernel) rfl, ⟨by decide, by decide, by decide +kernel⟩, Or.inl (hw_in 375 (by decide +kernel) rfl)⟩
theorem kL_92 : (Cond.codeWith yL_ticket cL_ticket 5 (some .int) [(0, 10, 13, 13), (0, 10, 17, 15)] ∈ hw_TS ∧ Cond.initialized yL_ticket.cls ∈ hw_TS) ∧ (yL_ticket.cls ≠ "java/lang/invoke/MethodHandle" ∧ yL_ticket.cls ≠ "java/lang/invoke/VarHandle" ∧ (parseMethodDescriptor yL_ticket.desc).map (fun d => d.parameters.length) = some 4) ∧ Cond.methodLink "TicketHouseLaw" 92 yL_ticket ∈ hw_TS := ⟨⟨hw_in 418 (by decide +kernel) rfl, hw_in 0 (by decide +kernel) rfl⟩, ⟨by decide, by decide, by decide +kernel⟩, hw_in 416 (by decide +kernel) rfl⟩
theorem kL_40 : hw_C "TicketHouseLaw" 40 yH_ticket cH_ticket 4 (some .int) 2 := ⟨hw_in 422 (by decide +kernel) rfl, hw_in 1 (by decide +kernel) rfl, ⟨by decide, by decide, by decide +kernel⟩, Or.inl (hw_in 419 (by decide +kernel) rfl)⟩
theorem kL_95 : (Cond.codeWith yL_proxy cL_proxy 5 (some .int) [(0, 10, 13, 13), (0, 10, 17, 15)] ∈ hw_TS ∧ Cond.initialized yL_proxy.cls ∈ hw_TS) ∧ (yL_proxy.cls ≠ "java/lang/invoke/MethodHandle" ∧ yL_proxy.cls ≠ "java/lang/invoke/VarHandle" ∧ (parseMethodDescriptor yL_proxy.desc).map (fun d => d.parameters.length) = some 4) ∧ Cond.methodLink "TicketHouseLaw" 95 yL_proxy ∈ hw_TS := ⟨⟨hw_in 427 (by decide +kernel) rfl, hw_in 0 (by decide +kernel) rfl⟩, ⟨by decide, by decide, by decide +kernel⟩, hw_in 425 (by decide +kernel) rfl⟩
theorem kL_43 : hw_C "TicketHouseLaw" 43 yH_proxy cH_proxy 4 (some .int) 2 := ⟨hw_in 431 (by decide +kernel) rfl, hw_in 1 (by decide +kernel) rfl, ⟨by decide, by decide, by decide +kernel⟩, Or.inl (hw_in 428 (by decide +kernel) rfl)⟩
theorem kL_98 : (Cond.codeWith yL_validate cL_validate 7 (some .int) [(0, 14, 17, 13)] ∈ hw_TS ∧ Cond.initialized yL_validate.cls ∈ hw_TS) ∧ (yL_validate.cls ≠ "java/lang/invoke/MethodHandle" ∧ yL_validate.cls ≠ "java/lang/invoke/VarHandle" ∧ (parseMethodDescriptor yL_validate.desc).map (fun d => d.parameters.length) = some 6) ∧ Cond.methodLink "TicketHouseLaw" 98 yL_validate ∈ hw_TS := ⟨⟨hw_in 436 (by decide +kernel) rfl, hw_in 0 (by decide +kernel) rfl⟩, ⟨by decide, by decide, by decide +kernel⟩, hw_in 434 (by decide +kernel) rfl⟩
theorem kL_46 : hw_C "TicketHouseLaw" 46 yH_validate cH_validate 7 (some .int) 4 := ⟨hw_in 440 (by decide +kernel) rfl, hw_in 1 (by decide +kernel) rfl, ⟨by decide, by decide, by decide +kernel⟩, Or.inl (hw_in 437 (by decide +kernel) rfl)⟩
theorem kH_173 : hw_C "TicketHouse" 173 yH_refuse cH_refuse 3 (some .int) 2 := ⟨hw_in 445 (by decide +kernel) rfl, hw_in 1 (by decide +kernel) rfl, ⟨by decide, by decide, by decide +kernel⟩, Or.inl (hw_in 442 (by decide +kernel) rfl)⟩
theorem kH_263 : hw_C "TicketHouse" 263 yT_addAll cT_addAll 3 none 1 := ⟨hw_in 450 (by decide +kernel) rfl, hw_in 2 (by decide +kernel) rfl, ⟨by decide, by decide, by decide +kernel⟩, Or.inl (hw_in 447 (by decide +kernel) rfl)⟩
theorem kH_266 : hw_C "TicketHouse" 266 yT_addNumber cT_addNumber 5 none 1 := ⟨hw_in 502 (by decide +kernel) rfl, hw_in 2 (by decide +kernel) rfl, ⟨by decide, by decide, by decide +kernel⟩, Or.inl (hw_in 499 (by decide +kernel) rfl)⟩
theorem kT_32 : hw_C "TicketHouse$Text" 32 yT_turnRound cT_turnRound 5 none 1 := ⟨hw_in 506 (by decide +kernel) rfl, hw_in 2 (by decide +kernel) rfl, ⟨by decide, by decide, by decide +kernel⟩, Or.inl (hw_in 503 (by decide +kernel) rfl)⟩
theorem kH_176 : hw_C "TicketHouse" 176 yK_judge cK_judge 4 (some .int) 3 := ⟨hw_in 512 (by decide +kernel) rfl, hw_in 11 (by decide +kernel) rfl, ⟨by decide, by decide, by decide +kernel⟩, Or.inl (hw_in 509 (by decide +kernel) rfl)⟩
theorem kK_44 : hw_C "TicketHouse$Ticket" 44 yK_isGood cK_isGood 3 (some .boolean) 1 := ⟨hw_in 144 (by decide +kernel) rfl, hw_in 11 (by decide +kernel) rfl, ⟨by decide, by decide, by decide +kernel⟩, Or.inl (hw_in 513 (by decide +kernel) rfl)⟩
theorem kH_183 : hw_C "TicketHouse" 183 yH_grantFor cH_grantFor 4 (some (.object "TicketHouse$Ticket")) 2 := ⟨hw_in 517 (by decide +kernel) rfl, hw_in 1 (by decide +kernel) rfl, ⟨by decide, by decide, by decide +kernel⟩, Or.inl (hw_in 514 (by decide +kernel) rfl)⟩
theorem kH_187 : hw_C "TicketHouse" 187 yH_writeAcceptance cH_writeAcceptance 5 none 3 := ⟨hw_in 521 (by decide +kernel) rfl, hw_in 1 (by decide +kernel) rfl, ⟨by decide, by decide, by decide +kernel⟩, Or.inl (hw_in 518 (by decide +kernel) rfl)⟩
theorem kH_275 : hw_C "TicketHouse" 275 yT_addEscapedT cT_addEscapedT 3 none 1 := ⟨hw_in 526 (by decide +kernel) rfl, hw_in 2 (by decide +kernel) rfl, ⟨by decide, by decide, by decide +kernel⟩, Or.inl (hw_in 523 (by decide +kernel) rfl)⟩
theorem kT_45 : hw_C "TicketHouse$Text" 45 yT_addEscapedC cT_addEscapedC 2 none 1 := ⟨hw_in 530 (by decide +kernel) rfl, hw_in 2 (by decide +kernel) rfl, ⟨by decide, by decide, by decide +kernel⟩, Or.inl (hw_in 527 (by decide +kernel) rfl)⟩
theorem kT_41 : hw_C "TicketHouse$Text" 41 yT_addAll cT_addAll 3 none 1 := ⟨hw_in 450 (by decide +kernel) rfl, hw_in 2 (by decide +kernel) rfl, ⟨by decide, by decide, by decide +kernel⟩, Or.inl (hw_in 532 (by decide +kernel) rfl)⟩
theorem kH_278 : hw_C "TicketHouse" 278 yH_writeAttributes cH_writeAttributes 5 none 2 := ⟨hw_in 539 (by decide +kernel) rfl, hw_in 1 (by decide +kernel) rfl, ⟨by decide, by decide, by decide +kernel⟩, Or.inl (hw_in 536 (by decide +kernel) rfl)⟩
theorem kH_282 : hw_C "TicketHouse" 282 yT_addElement cT_addElement 3 none 2 := ⟨hw_in 545 (by decide +kernel) rfl, hw_in 2 (by decide +kernel) rfl, ⟨by decide, by decide, by decide +kernel⟩, Or.inl (hw_in 542 (by decide +kernel) rfl)⟩
theorem kT_36 : hw_C "TicketHouse$Text" 36 yT_addNumber cT_addNumber 5 none 1 := ⟨hw_in 502 (by decide +kernel) rfl, hw_in 2 (by decide +kernel) rfl, ⟨by decide, by decide, by decide +kernel⟩, Or.inl (hw_in 546 (by decide +kernel) rfl)⟩
theorem kH_286 : hw_C "TicketHouse" 286 yH_writeChain cH_writeChain 3 none 1 := ⟨hw_in 551 (by decide +kernel) rfl, hw_in 1 (by decide +kernel) rfl, ⟨by decide, by decide, by decide +kernel⟩, Or.inl (hw_in 548 (by decide +kernel) rfl)⟩
theorem kL_102 : (Cond.codeWith yL_logout cL_logout 4 (some .int) [(0, 9, 12, 13), (0, 9, 15, 15)] ∈ hw_TS ∧ Cond.initialized yL_logout.cls ∈ hw_TS) ∧ (yL_logout.cls ≠ "java/lang/invoke/MethodHandle" ∧ yL_logout.cls ≠ "java/lang/invoke/VarHandle" ∧ (parseMethodDescriptor yL_logout.desc).map (fun d => d.parameters.length) = some 3) ∧ Cond.methodLink "TicketHouseLaw" 102 yL_logout ∈ hw_TS := ⟨⟨hw_in 555 (by decide +kernel) rfl, hw_in 0 (by decide +kernel) rfl⟩, ⟨by decide, by decide, by decide +kernel⟩, hw_in 553 (by decide +kernel) rfl⟩
theorem kL_50 : hw_C "TicketHouseLaw" 50 yH_logout cH_logout 3 (some .int) 1 := ⟨hw_in 559 (by decide +kernel) rfl, hw_in 1 (by decide +kernel) rfl, ⟨by decide, by decide, by decide +kernel⟩, Or.inl (hw_in 556 (by decide +kernel) rfl)⟩
theorem kH_195 : hw_C "TicketHouse" 195 yH_end cH_end 4 (some .int) 1 := ⟨hw_in 565 (by decide +kernel) rfl, hw_in 1 (by decide +kernel) rfl, ⟨by decide, by decide, by decide +kernel⟩, Or.inl (hw_in 562 (by decide +kernel) rfl)⟩
theorem kH_257 : hw_C "TicketHouse" 257 yH_tellOfEnd cH_tellOfEnd 2 none 1 := ⟨hw_in 569 (by decide +kernel) rfl, hw_in 1 (by decide +kernel) rfl, ⟨by decide, by decide, by decide +kernel⟩, Or.inl (hw_in 566 (by decide +kernel) rfl)⟩
theorem kL_105 : (Cond.codeWith yL_tick cL_tick 4 (some .int) [(0, 9, 12, 13)] ∈ hw_TS ∧ Cond.initialized yL_tick.cls ∈ hw_TS) ∧ (yL_tick.cls ≠ "java/lang/invoke/MethodHandle" ∧ yL_tick.cls ≠ "java/lang/invoke/VarHandle" ∧ (parseMethodDescriptor yL_tick.desc).map (fun d => d.parameters.length) = some 3) ∧ Cond.methodLink "TicketHouseLaw" 105 yL_tick ∈ hw_TS := ⟨⟨hw_in 572 (by decide +kernel) rfl, hw_in 0 (by decide +kernel) rfl⟩, ⟨by decide, by decide, by decide +kernel⟩, hw_in 570 (by decide +kernel) rfl⟩
theorem kL_53 : hw_C "TicketHouseLaw" 53 yH_tick cH_tick 3 (some .int) 1 := ⟨hw_in 576 (by decide +kernel) rfl, hw_in 1 (by decide +kernel) rfl, ⟨by decide, by decide, by decide +kernel⟩, Or.inl (hw_in 573 (by decide +kernel) rfl)⟩
theorem kH_201 : hw_C "TicketHouse" 201 yU_unlockIfDue cU_unlockIfDue 2 none 1 := ⟨hw_in 581 (by decide +kernel) rfl, hw_in 3 (by decide +kernel) rfl, ⟨by decide, by decide, by decide +kernel⟩, Or.inl (hw_in 578 (by decide +kernel) rfl)⟩
theorem kH_204 : hw_C "TicketHouse" 204 yS_isOver cS_isOver 4 (some .boolean) 1 := ⟨hw_in 585 (by decide +kernel) rfl, hw_in 10 (by decide +kernel) rfl, ⟨by decide, by decide, by decide +kernel⟩, Or.inl (hw_in 582 (by decide +kernel) rfl)⟩
theorem kL_59 : hw_C "TicketHouseLaw" 59 yM_init cM_init 1 none 0 := ⟨hw_in 590 (by decide +kernel) rfl, hw_in 4 (by decide +kernel) rfl, ⟨by decide, by decide, by decide +kernel⟩, Or.inl (hw_in 588 (by decide +kernel) rfl)⟩
theorem kL_76 : hw_C "TicketHouseLaw" 76 yM_thrown cM_thrown 1 (some .int) 0 := ⟨hw_in 689 (by decide +kernel) rfl, hw_in 4 (by decide +kernel) rfl, ⟨by decide, by decide, by decide +kernel⟩, Or.inl (hw_in 686 (by decide +kernel) rfl)⟩
theorem kL_65 : hw_C "TicketHouseLaw" 65 yM_letter cM_letter 2 (some .int) 1 := ⟨hw_in 693 (by decide +kernel) rfl, hw_in 4 (by decide +kernel) rfl, ⟨by decide, by decide, by decide +kernel⟩, Or.inl (hw_in 690 (by decide +kernel) rfl)⟩
theorem kM_90 : hw_C "TicketHouseModel" 90 yM_within cM_within 3 (some .boolean) 3 := ⟨hw_in 696 (by decide +kernel) rfl, hw_in 4 (by decide +kernel) rfl, ⟨by decide, by decide, by decide +kernel⟩, Or.inl (hw_in 694 (by decide +kernel) rfl)⟩
theorem kL_69 : hw_C "TicketHouseLaw" 69 yM_text cM_text 5 (some .int) 2 := ⟨hw_in 700 (by decide +kernel) rfl, hw_in 4 (by decide +kernel) rfl, ⟨by decide, by decide, by decide +kernel⟩, Or.inl (hw_in 697 (by decide +kernel) rfl)⟩
theorem kL_72 : hw_C "TicketHouseLaw" 72 yM_password cM_password 3 (some .boolean) 2 := ⟨hw_in 704 (by decide +kernel) rfl, hw_in 4 (by decide +kernel) rfl, ⟨by decide, by decide, by decide +kernel⟩, Or.inl (hw_in 701 (by decide +kernel) rfl)⟩
theorem kL_75 : hw_C "TicketHouseLaw" 75 yM_service cM_service 4 (some .int) 2 := ⟨hw_in 708 (by decide +kernel) rfl, hw_in 4 (by decide +kernel) rfl, ⟨by decide, by decide, by decide +kernel⟩, Or.inl (hw_in 705 (by decide +kernel) rfl)⟩
theorem kL_83 : hw_C "TicketHouseLaw" 83 yM_callback cM_callback 4 (some .boolean) 2 := ⟨hw_in 712 (by decide +kernel) rfl, hw_in 4 (by decide +kernel) rfl, ⟨by decide, by decide, by decide +kernel⟩, Or.inl (hw_in 709 (by decide +kernel) rfl)⟩
theorem kL_87 : hw_C "TicketHouseLaw" 87 yM_login cM_login 4 (some .int) 3 := ⟨hw_in 716 (by decide +kernel) rfl, hw_in 4 (by decide +kernel) rfl, ⟨by decide, by decide, by decide +kernel⟩, Or.inl (hw_in 713 (by decide +kernel) rfl)⟩
theorem kM_107 : hw_C "TicketHouseModel" 107 yM_tries cM_tries 5 (some .int) 3 := ⟨hw_in 720 (by decide +kernel) rfl, hw_in 4 (by decide +kernel) rfl, ⟨by decide, by decide, by decide +kernel⟩, Or.inl (hw_in 717 (by decide +kernel) rfl)⟩
theorem kM_100 : hw_C "TicketHouseModel" 100 yM_counting cM_counting 2 (some .int) 1 := ⟨hw_in 724 (by decide +kernel) rfl, hw_in 4 (by decide +kernel) rfl, ⟨by decide, by decide, by decide +kernel⟩, Or.inl (hw_in 721 (by decide +kernel) rfl)⟩
theorem kL_91 : hw_C "TicketHouseLaw" 91 yM_enter cM_enter 5 (some .int) 3 := ⟨hw_in 728 (by decide +kernel) rfl, hw_in 4 (by decide +kernel) rfl, ⟨by decide, by decide, by decide +kernel⟩, Or.inl (hw_in 725 (by decide +kernel) rfl)⟩
theorem kM_114 : hw_C "TicketHouseModel" 114 yM_enabled cM_enabled 2 (some .boolean) 1 := ⟨hw_in 732 (by decide +kernel) rfl, hw_in 4 (by decide +kernel) rfl, ⟨by decide, by decide, by decide +kernel⟩, Or.inl (hw_in 729 (by decide +kernel) rfl)⟩
theorem kM_118 : hw_C "TicketHouseModel" 118 yM_give cM_give 6 (some .int) 5 := ⟨hw_in 736 (by decide +kernel) rfl, hw_in 4 (by decide +kernel) rfl, ⟨by decide, by decide, by decide +kernel⟩, Or.inl (hw_in 733 (by decide +kernel) rfl)⟩
theorem kL_94 : hw_C "TicketHouseLaw" 94 yM_ticket cM_ticket 3 (some .int) 2 := ⟨hw_in 740 (by decide +kernel) rfl, hw_in 4 (by decide +kernel) rfl, ⟨by decide, by decide, by decide +kernel⟩, Or.inl (hw_in 737 (by decide +kernel) rfl)⟩
theorem kL_97 : hw_C "TicketHouseLaw" 97 yM_proxy cM_proxy 3 (some .int) 2 := ⟨hw_in 744 (by decide +kernel) rfl, hw_in 4 (by decide +kernel) rfl, ⟨by decide, by decide, by decide +kernel⟩, Or.inl (hw_in 741 (by decide +kernel) rfl)⟩
theorem kM_122 : hw_C "TicketHouseModel" 122 yM_good cM_good 3 (some .boolean) 1 := ⟨hw_in 748 (by decide +kernel) rfl, hw_in 4 (by decide +kernel) rfl, ⟨by decide, by decide, by decide +kernel⟩, Or.inl (hw_in 745 (by decide +kernel) rfl)⟩
theorem kL_101 : hw_C "TicketHouseLaw" 101 yM_validate cM_validate 7 (some .int) 4 := ⟨hw_in 752 (by decide +kernel) rfl, hw_in 4 (by decide +kernel) rfl, ⟨by decide, by decide, by decide +kernel⟩, Or.inl (hw_in 749 (by decide +kernel) rfl)⟩
theorem kM_152 : hw_C "TicketHouseModel" 152 yM_judged cM_judged 4 (some .int) 3 := ⟨hw_in 756 (by decide +kernel) rfl, hw_in 4 (by decide +kernel) rfl, ⟨by decide, by decide, by decide +kernel⟩, Or.inl (hw_in 753 (by decide +kernel) rfl)⟩
theorem kM_156 : hw_C "TicketHouseModel" 156 yM_no cM_no 3 none 2 := ⟨hw_in 760 (by decide +kernel) rfl, hw_in 4 (by decide +kernel) rfl, ⟨by decide, by decide, by decide +kernel⟩, Or.inl (hw_in 757 (by decide +kernel) rfl)⟩
theorem kM_125 : hw_C "TicketHouseModel" 125 yM_put cM_put 2 none 1 := ⟨hw_in 764 (by decide +kernel) rfl, hw_in 4 (by decide +kernel) rfl, ⟨by decide, by decide, by decide +kernel⟩, Or.inl (hw_in 761 (by decide +kernel) rfl)⟩
theorem kM_139 : hw_C "TicketHouseModel" 139 yM_number cM_number 6 none 1 := ⟨hw_in 768 (by decide +kernel) rfl, hw_in 4 (by decide +kernel) rfl, ⟨by decide, by decide, by decide +kernel⟩, Or.inl (hw_in 765 (by decide +kernel) rfl)⟩
theorem kM_135 : hw_C "TicketHouseModel" 135 yM_tag cM_tag 4 none 3 := ⟨hw_in 773 (by decide +kernel) rfl, hw_in 4 (by decide +kernel) rfl, ⟨by decide, by decide, by decide +kernel⟩, Or.inl (hw_in 770 (by decide +kernel) rfl)⟩
theorem kM_159 : hw_C "TicketHouseModel" 159 yM_ok cM_ok 8 none 4 := ⟨hw_in 777 (by decide +kernel) rfl, hw_in 4 (by decide +kernel) rfl, ⟨by decide, by decide, by decide +kernel⟩, Or.inl (hw_in 774 (by decide +kernel) rfl)⟩
theorem kM_142 : hw_C "TicketHouseModel" 142 yM_letters cM_letters 4 none 1 := ⟨hw_in 781 (by decide +kernel) rfl, hw_in 4 (by decide +kernel) rfl, ⟨by decide, by decide, by decide +kernel⟩, Or.inl (hw_in 778 (by decide +kernel) rfl)⟩
theorem kM_131 : hw_C "TicketHouseModel" 131 yM_entity cM_entity 5 none 4 := ⟨hw_in 785 (by decide +kernel) rfl, hw_in 4 (by decide +kernel) rfl, ⟨by decide, by decide, by decide +kernel⟩, Or.inl (hw_in 782 (by decide +kernel) rfl)⟩
theorem kM_145 : hw_C "TicketHouseModel" 145 yM_element cM_element 3 none 2 := ⟨hw_in 789 (by decide +kernel) rfl, hw_in 4 (by decide +kernel) rfl, ⟨by decide, by decide, by decide +kernel⟩, Or.inl (hw_in 786 (by decide +kernel) rfl)⟩
theorem kM_149 : hw_C "TicketHouseModel" 149 yM_grant cM_grant 3 (some .int) 1 := ⟨hw_in 793 (by decide +kernel) rfl, hw_in 4 (by decide +kernel) rfl, ⟨by decide, by decide, by decide +kernel⟩, Or.inl (hw_in 790 (by decide +kernel) rfl)⟩
theorem kL_104 : hw_C "TicketHouseLaw" 104 yM_logout cM_logout 2 (some .int) 1 := ⟨hw_in 797 (by decide +kernel) rfl, hw_in 4 (by decide +kernel) rfl, ⟨by decide, by decide, by decide +kernel⟩, Or.inl (hw_in 794 (by decide +kernel) rfl)⟩
theorem kM_166 : hw_C "TicketHouseModel" 166 yM_ends cM_ends 4 (some .int) 1 := ⟨hw_in 801 (by decide +kernel) rfl, hw_in 4 (by decide +kernel) rfl, ⟨by decide, by decide, by decide +kernel⟩, Or.inl (hw_in 798 (by decide +kernel) rfl)⟩
theorem kL_107 : hw_C "TicketHouseLaw" 107 yM_tick cM_tick 5 (some .int) 1 := ⟨hw_in 805 (by decide +kernel) rfl, hw_in 4 (by decide +kernel) rfl, ⟨by decide, by decide, by decide +kernel⟩, Or.inl (hw_in 802 (by decide +kernel) rfl)⟩
theorem kL_111 : hw_C "TicketHouseLaw" 111 yM_document cM_document 2 (some .int) 1 := ⟨hw_in 809 (by decide +kernel) rfl, hw_in 4 (by decide +kernel) rfl, ⟨by decide, by decide, by decide +kernel⟩, Or.inl (hw_in 806 (by decide +kernel) rfl)⟩
theorem kL_115 : hw_C "TicketHouseLaw" 115 yM_session cM_session 3 (some .int) 2 := ⟨hw_in 813 (by decide +kernel) rfl, hw_in 4 (by decide +kernel) rfl, ⟨by decide, by decide, by decide +kernel⟩, Or.inl (hw_in 810 (by decide +kernel) rfl)⟩
theorem kL_119 : hw_C "TicketHouseLaw" 119 yM_about cM_about 5 (some .int) 2 := ⟨hw_in 817 (by decide +kernel) rfl, hw_in 4 (by decide +kernel) rfl, ⟨by decide, by decide, by decide +kernel⟩, Or.inl (hw_in 814 (by decide +kernel) rfl)⟩
theorem kL_123 : hw_C "TicketHouseLaw" 123 yM_message cM_message 2 (some .int) 1 := ⟨hw_in 821 (by decide +kernel) rfl, hw_in 4 (by decide +kernel) rfl, ⟨by decide, by decide, by decide +kernel⟩, Or.inl (hw_in 818 (by decide +kernel) rfl)⟩
theorem kL_127 : hw_C "TicketHouseLaw" 127 yM_house cM_house 2 (some .int) 1 := ⟨hw_in 825 (by decide +kernel) rfl, hw_in 4 (by decide +kernel) rfl, ⟨by decide, by decide, by decide +kernel⟩, Or.inl (hw_in 822 (by decide +kernel) rfl)⟩
theorem oH : Cond.methodLink "TicketHouse" 1 Lib.objectInit ∈ hw_TS ∧ Cond.instanceMethod Lib.objectInit ∈ hw_TS ∧ Cond.code Lib.objectInit ⟨#[0xb1]⟩ 1 none ∈ hw_TS := ⟨hw_in 21 (by decide +kernel) rfl, hw_in 22 (by decide +kernel) rfl, hw_in 23 (by decide +kernel) rfl⟩
theorem oT : Cond.methodLink "TicketHouse$Text" 3 Lib.objectInit ∈ hw_TS ∧ Cond.instanceMethod Lib.objectInit ∈ hw_TS ∧ Cond.code Lib.objectInit ⟨#[0xb1]⟩ 1 none ∈ hw_TS := ⟨hw_in 35 (by decide +kernel) rfl, hw_in 22 (by decide +kernel) rfl, hw_in 23 (by decide +kernel) rfl⟩
theorem oU : Cond.methodLink "TicketHouse$User" 3 Lib.objectInit ∈ hw_TS ∧ Cond.instanceMethod Lib.objectInit ∈ hw_TS ∧ Cond.code Lib.objectInit ⟨#[0xb1]⟩ 1 none ∈ hw_TS := ⟨hw_in 51 (by decide +kernel) rfl, hw_in 22 (by decide +kernel) rfl, hw_in 23 (by decide +kernel) rfl⟩
theorem oS : Cond.methodLink "TicketHouse$Session" 1 Lib.objectInit ∈ hw_TS ∧ Cond.instanceMethod Lib.objectInit ∈ hw_TS ∧ Cond.code Lib.objectInit ⟨#[0xb1]⟩ 1 none ∈ hw_TS := ⟨hw_in 326 (by decide +kernel) rfl, hw_in 22 (by decide +kernel) rfl, hw_in 23 (by decide +kernel) rfl⟩
theorem oK : Cond.methodLink "TicketHouse$Ticket" 3 Lib.objectInit ∈ hw_TS ∧ Cond.instanceMethod Lib.objectInit ∈ hw_TS ∧ Cond.code Lib.objectInit ⟨#[0xb1]⟩ 1 none ∈ hw_TS := ⟨hw_in 378 (by decide +kernel) rfl, hw_in 22 (by decide +kernel) rfl, hw_in 23 (by decide +kernel) rfl⟩
theorem oM : Cond.methodLink "TicketHouseModel" 1 Lib.objectInit ∈ hw_TS ∧ Cond.instanceMethod Lib.objectInit ∈ hw_TS ∧ Cond.code Lib.objectInit ⟨#[0xb1]⟩ 1 none ∈ hw_TS := ⟨hw_in 591 (by decide +kernel) rfl, hw_in 22 (by decide +kernel) rfl, hw_in 23 (by decide +kernel) rfl⟩
theorem qL_8 : Cond.classLink "TicketHouseLaw" 8 "TicketHouse" ∈ hw_TS := hw_in 16 (by decide +kernel) rfl
theorem wL_8 : hw_N "TicketHouseLaw" 8 0 12 := ⟨0, RH, FH, tH, rfl, rfl, in_H, tH_ok, hw_in 16 (by decide +kernel) rfl, hw_in 17 (by decide +kernel) rfl, hw_in 1 (by decide +kernel) rfl, fun B j hj => by
  rcases (show j = 0 ∨ j = 1 ∨ j = 2 ∨ j = 3 ∨ j = 4 ∨ j = 5 ∨ j = 6 ∨ j = 7 ∨ j = 8 ∨ j = 9 ∨ j = 10 ∨ j = 11 by omega) with rfl | rfl | rfl | rfl | rfl | rfl | rfl | rfl | rfl | rfl | rfl | rfl <;> first | rfl | exact (hw_rdn (show (-1 : Int32) < 0 by decide)).symm⟩
theorem qH_9 : Cond.classLink "TicketHouse" 9 "TicketHouse$User" ∈ hw_TS := hw_in 24 (by decide +kernel) rfl
theorem wH_9 : hw_N "TicketHouse" 9 2 6 := ⟨1, RU, FU, tU, rfl, rfl, in_U, tU_ok, hw_in 24 (by decide +kernel) rfl, hw_in 47 (by decide +kernel) rfl, hw_in 3 (by decide +kernel) rfl, fun B j hj => by
  rcases (show j = 0 ∨ j = 1 ∨ j = 2 ∨ j = 3 ∨ j = 4 ∨ j = 5 by omega) with rfl | rfl | rfl | rfl | rfl | rfl <;> first | rfl | exact (hw_rdn (show (-1 : Int32) < 0 by decide)).symm⟩
theorem qH_23 : Cond.classLink "TicketHouse" 23 "TicketHouse$Session" ∈ hw_TS := hw_in 26 (by decide +kernel) rfl
theorem wH_23 : hw_N "TicketHouse" 23 9 6 := ⟨3, RS, FS, tS, rfl, rfl, in_S, tS_ok, hw_in 26 (by decide +kernel) rfl, hw_in 322 (by decide +kernel) rfl, hw_in 10 (by decide +kernel) rfl, fun B j hj => by
  rcases (show j = 0 ∨ j = 1 ∨ j = 2 ∨ j = 3 ∨ j = 4 ∨ j = 5 by omega) with rfl | rfl | rfl | rfl | rfl | rfl <;> first | rfl | exact (hw_rdn (show (-1 : Int32) < 0 by decide)).symm⟩
theorem qH_29 : Cond.classLink "TicketHouse" 29 "TicketHouse$Ticket" ∈ hw_TS := hw_in 28 (by decide +kernel) rfl
theorem wH_29 : hw_N "TicketHouse" 29 11 9 := ⟨4, RK, FK, tK, rfl, rfl, in_K, tK_ok, hw_in 28 (by decide +kernel) rfl, hw_in 374 (by decide +kernel) rfl, hw_in 11 (by decide +kernel) rfl, fun B j hj => by
  rcases (show j = 0 ∨ j = 1 ∨ j = 2 ∨ j = 3 ∨ j = 4 ∨ j = 5 ∨ j = 6 ∨ j = 7 ∨ j = 8 by omega) with rfl | rfl | rfl | rfl | rfl | rfl | rfl | rfl | rfl <;> first | rfl | exact (hw_rdn (show (-1 : Int32) < 0 by decide)).symm⟩
theorem qH_38 : Cond.classLink "TicketHouse" 38 "TicketHouse$Text" ∈ hw_TS := hw_in 30 (by decide +kernel) rfl
theorem wH_38 : hw_N "TicketHouse" 38 4 2 := ⟨2, RT, FT, tT, rfl, rfl, in_T, tT_ok, hw_in 30 (by decide +kernel) rfl, hw_in 31 (by decide +kernel) rfl, hw_in 2 (by decide +kernel) rfl, fun B j hj => by
  rcases (show j = 0 ∨ j = 1 by omega) with rfl | rfl <;> first | rfl | exact (hw_rdn (show (-1 : Int32) < 0 by decide)).symm⟩
theorem qU_9 : Cond.classLink "TicketHouse$User" 9 "TicketHouse$Text" ∈ hw_TS := hw_in 52 (by decide +kernel) rfl
theorem wU_9 : hw_N "TicketHouse$User" 9 4 2 := ⟨2, RT, FT, tT, rfl, rfl, in_T, tT_ok, hw_in 52 (by decide +kernel) rfl, hw_in 31 (by decide +kernel) rfl, hw_in 2 (by decide +kernel) rfl, fun B j hj => by
  rcases (show j = 0 ∨ j = 1 by omega) with rfl | rfl <;> first | rfl | exact (hw_rdn (show (-1 : Int32) < 0 by decide)).symm⟩
theorem qL_13 : Cond.classLink "TicketHouseLaw" 13 "java/lang/IllegalArgumentException" ∈ hw_TS := hw_in 164 (by decide +kernel) rfl
theorem qL_15 : Cond.classLink "TicketHouseLaw" 15 "java/lang/IllegalStateException" ∈ hw_TS := hw_in 165 (by decide +kernel) rfl
theorem qH_51 : Cond.classLink "TicketHouse" 51 "java/lang/IllegalArgumentException" ∈ hw_TS := hw_in 170 (by decide +kernel) rfl
theorem qH_62 : Cond.classLink "TicketHouse" 62 "java/lang/IllegalStateException" ∈ hw_TS := hw_in 237 (by decide +kernel) rfl
theorem qL_57 : Cond.classLink "TicketHouseLaw" 57 "TicketHouseModel" ∈ hw_TS := hw_in 586 (by decide +kernel) rfl
theorem wL_57 : hw_N "TicketHouseLaw" 57 20 31 := ⟨5, RM, FM, tM, rfl, rfl, in_M, tM_ok, hw_in 586 (by decide +kernel) rfl, hw_in 587 (by decide +kernel) rfl, hw_in 4 (by decide +kernel) rfl, fun B j hj => by
  rcases (show j = 0 ∨ j = 1 ∨ j = 2 ∨ j = 3 ∨ j = 4 ∨ j = 5 ∨ j = 6 ∨ j = 7 ∨ j = 8 ∨ j = 9 ∨ j = 10 ∨ j = 11 ∨ j = 12 ∨ j = 13 ∨ j = 14 ∨ j = 15 ∨ j = 16 ∨ j = 17 ∨ j = 18 ∨ j = 19 ∨ j = 20 ∨ j = 21 ∨ j = 22 ∨ j = 23 ∨ j = 24 ∨ j = 25 ∨ j = 26 ∨ j = 27 ∨ j = 28 ∨ j = 29 ∨ j = 30 by omega) with rfl | rfl | rfl | rfl | rfl | rfl | rfl | rfl | rfl | rfl | rfl | rfl | rfl | rfl | rfl | rfl | rfl | rfl | rfl | rfl | rfl | rfl | rfl | rfl | rfl | rfl | rfl | rfl | rfl | rfl | rfl <;> first | rfl | exact (hw_rdn (show (-1 : Int32) < 0 by decide)).symm⟩
theorem ac_int : Cond.arrayClass .int ∈ hw_TS := hw_in 44 (by decide +kernel) rfl
theorem ac_boolean : Cond.arrayClass .boolean ∈ hw_TS := hw_in 45 (by decide +kernel) rfl
theorem ac_char : Cond.arrayClass .char ∈ hw_TS := hw_in 46 (by decide +kernel) rfl
theorem ac_long : Cond.arrayClass .long ∈ hw_TS := hw_in 826 (by decide +kernel) rfl
theorem ao_User : Cond.arrayOver (.object "TicketHouse$User") ∈ hw_TS := hw_in 25 (by decide +kernel) rfl
theorem ao_Text : Cond.arrayOver (.object "TicketHouse$Text") ∈ hw_TS := hw_in 53 (by decide +kernel) rfl
theorem ao_Session : Cond.arrayOver (.object "TicketHouse$Session") ∈ hw_TS := hw_in 27 (by decide +kernel) rfl
theorem ao_Ticket : Cond.arrayOver (.object "TicketHouse$Ticket") ∈ hw_TS := hw_in 29 (by decide +kernel) rfl
theorem in_IAE : Cond.initialized "java/lang/IllegalArgumentException" ∈ hw_TS := hw_in 8 (by decide +kernel) rfl
theorem ca_IAE : Cond.castable "java/lang/IllegalArgumentException" "java/lang/IllegalArgumentException" ∈ hw_TS := hw_in 172 (by decide +kernel) rfl
theorem at_IAE : ∀ w ∈ vx_atS "TicketHouse" 55 "java/lang/IllegalArgumentException" ["java/lang/RuntimeException", "java/lang/Exception"], w ∈ hw_TS := by decide +kernel
theorem go_IAE : ∀ w ∈ Cond.classLink "TicketHouse" 51 "java/lang/IllegalArgumentException" :: Cond.initialized "java/lang/IllegalArgumentException" :: vx_atS "TicketHouse" 55 "java/lang/IllegalArgumentException" ["java/lang/RuntimeException", "java/lang/Exception"], vx_ot w = true := by decide +kernel
theorem in_ISE : Cond.initialized "java/lang/IllegalStateException" ∈ hw_TS := hw_in 9 (by decide +kernel) rfl
theorem ca_ISE : Cond.castable "java/lang/IllegalStateException" "java/lang/IllegalStateException" ∈ hw_TS := hw_in 239 (by decide +kernel) rfl
theorem at_ISE : ∀ w ∈ vx_atS "TicketHouse" 66 "java/lang/IllegalStateException" ["java/lang/RuntimeException", "java/lang/Exception"], w ∈ hw_TS := by decide +kernel
theorem go_ISE : ∀ w ∈ Cond.classLink "TicketHouse" 62 "java/lang/IllegalStateException" :: Cond.initialized "java/lang/IllegalStateException" :: vx_atS "TicketHouse" 66 "java/lang/IllegalStateException" ["java/lang/RuntimeException", "java/lang/Exception"], vx_ot w = true := by decide +kernel
end
section
/-! Cells that are there from the start; slots that never change; small rows for the walks. -/
def hw_n0 (k : Nat) : Nat := match k with
  | 2 => 4
  | 3 => 4
  | 4 => 18
  | 5 => 18
  | 9 => 0
  | 11 => 0
  | _ => if k < 51 then 1 else 0
def hw_al (nb : Nat → Nat) : Prop := ∀ k : Nat, hw_n0 k ≠ 0 → nb k = hw_n0 k
theorem hw_al.lt {nb : Nat → Nat} (h : hw_al nb) {k i : Nat} (hi : i < hw_n0 k) : i < nb k := by
  rw [h k (by omega)]; exact hi
theorem hw_al.nb {nb : Nat → Nat} {k : Nat} (h : hw_al nb) (hk : hw_n0 k = 0) : hw_al (hw_nb nb k) := fun k' hk' => by
  unfold hw_nb
  rw [if_neg (fun e => hk' (by rw [e]; exact hk))]
  exact h k' hk'
def hw_Fx (S : hw_St) : Prop := ∀ (k i j v : Nat), i < hw_n0 k → hw_fx k i j = some v → S k i j = nI v
theorem hw_Fx.sv {S : hw_St} (h : hw_Fx S) {k i j : Nat} {x : Int32} (hn : hw_fx k i j = none) : hw_Fx (hw_sv S k i j x) := fun k' i' j' v hi hv => by
  unfold hw_sv
  by_cases e : k' = k ∧ i' = i ∧ j' = j
  · obtain ⟨rfl, rfl, rfl⟩ := e
    rw [hn] at hv
    cases hv
  · rw [if_neg e]; exact h k' i' j' v hi hv
theorem hw_Fx.nw {S : hw_St} (h : hw_Fx S) {k i : Nat} (hk : hw_n0 k = 0) : hw_Fx (hw_nw S k i) := fun k' i' j' v hi hv => by
  unfold hw_nw
  rw [if_neg (fun e => by rw [e.1, hk] at hi; exact Nat.not_lt_zero _ hi)]
  exact h k' i' j' v hi hv
theorem hw_rfx {B : hw_B} {S : hw_St} {k i j v t : Nat} (hF : hw_Fx S) (hi : i < hw_n0 k) (h : hw_fx k i j = some v) (hv : v < 2 ^ 31) : hw_rd B (t + 2) (S k i j) = .ref (hw_a B t v) := by
  rw [hF k i j v hi h]; exact hw_rdr hv
theorem hw_rdy {B : hw_B} {S : hw_St} {k i j v t : Nat} (h : S k i j = nI v) (hv : v < 2 ^ 31) : hw_rd B (t + 2) (S k i j) = .ref (hw_a B t v) := by
  rw [h]; exact hw_rdr hv
theorem hw_rdz {B : hw_B} {S : hw_St} {k i j t : Nat} (h : S k i j < 0) : hw_rd B (t + 2) (S k i j) = .null := hw_rdn h
theorem ib_01 {x : Int32} (h : x = 0 ∨ x = 1) : narrow .boolean (.int x) = .int x := by
  rcases h with rfl | rfl <;> rfl
/-- an int within 0 .. n - 1 is a number -/
theorem ib_in {x : Int32} {n : Nat} (h0 : ¬ x < 0) (h1 : x < nI n) (hn : n < 2 ^ 31) : ∃ j : Nat, j < n ∧ x = nI j := by
  obtain ⟨j, hj, rfl⟩ := nI_of h0
  exact ⟨j, (nI_ltI hj hn).mp h1, rfl⟩
/-- the answer, and the world behind it -/
def hw_p (o : hw_O) (nb : Nat → Nat) (S : hw_St) (z : Nat) : hw_T := fun oc nb' S' z' => oc = o ∧ nb' = nb ∧ S' = S ∧ z' = z
theorem hw_pi {o : hw_O} {nb : Nat → Nat} {S : hw_St} {z : Nat} : hw_p o nb S z o nb S z := ⟨rfl, rfl, rfl, rfl⟩
theorem hw_pe {o o' : hw_O} {nb : Nat → Nat} {S S' : hw_St} {z : Nat} (h : o' = o) (h2 : S' = S) : hw_p o nb S z o' nb S' z := ⟨h, rfl, h2, rfl⟩
section HP
variable {X : hw_X} {B : hw_B} {fr : Nat → Prop} {nb nb2 : Nat → Nat} {S S2 : hw_St} {z z2 c sl : Nat} {Q : State → Prop} {cc : ByteArray} {nL pc : Nat} {own : String} {L : List (Nat × Value)} {st : List Value}
theorem hr_callVs {v : Value} (G : hw_G X B fr cc nL own) {k i index maxL n ci N : Nat} {T : u_T} {y : MethodName} {bytes : ByteArray} {ret : Option FieldType} {rm : Room} {As st0 : List Value} (hk : hw_kd k = .inl ci) (hct : vwCl[ci]? = some (y.cls, T, N)) (hi : i < nb k) (cw : hw_C own index y bytes maxL ret n) (w1 : Cond.instanceMethod y ∈ hw_TS) (w2 : Cond.selects y.cls y y ∈ hw_TS) (hM : hw_M X.2.1 y bytes maxL ret rm B (.ref (hw_a B k i) :: As) nb S z (hw_p (.inl (some v)) nb2 S2 z2)) (hn : As.length = n) (hst : st0 = As.reverse ++ .ref (hw_a B k i) :: st) (hW : (st.map fun v => v.category).sum ≤ 8) (hR : rm.frames + 1 ≤ (xR X).frames ∧ 8 + (maxL + 11) + rm.locals ≤ (xR X).locals) (hcs : c + rm.cells ≤ (xR X).cells ∧ sl + rm.slots ≤ (xR X).slots) (d : decode cc pc = .ok (.invokevirtual index, 3))
    (K : hw_V X B fr nb2 S2 z2 (c + rm.cells) (sl + rm.slots) Q nL (pc + 3) L (v :: st)) : hw_V X B fr nb S z c sl Q nL pc L st0 :=
  hr_callV G hk hct hi cw w1 w2 hM hn hst hW hR hcs d (fun r nb' S' z' hp => by
    obtain ⟨h1, rfl, rfl, rfl⟩ := hp
    have h2 := Sum.inl.inj h1
    subst h2
    exact K)
theorem hr_callVn (G : hw_G X B fr cc nL own) {k i index maxL n ci N : Nat} {T : u_T} {y : MethodName} {bytes : ByteArray} {ret : Option FieldType} {rm : Room} {As st0 : List Value} (hk : hw_kd k = .inl ci) (hct : vwCl[ci]? = some (y.cls, T, N)) (hi : i < nb k) (cw : hw_C own index y bytes maxL ret n) (w1 : Cond.instanceMethod y ∈ hw_TS) (w2 : Cond.selects y.cls y y ∈ hw_TS) (hM : hw_M X.2.1 y bytes maxL ret rm B (.ref (hw_a B k i) :: As) nb S z (hw_p (.inl none) nb2 S2 z2)) (hn : As.length = n) (hst : st0 = As.reverse ++ .ref (hw_a B k i) :: st) (hW : (st.map fun v => v.category).sum ≤ 8) (hR : rm.frames + 1 ≤ (xR X).frames ∧ 8 + (maxL + 11) + rm.locals ≤ (xR X).locals) (hcs : c + rm.cells ≤ (xR X).cells ∧ sl + rm.slots ≤ (xR X).slots) (d : decode cc pc = .ok (.invokevirtual index, 3))
    (K : hw_V X B fr nb2 S2 z2 (c + rm.cells) (sl + rm.slots) Q nL (pc + 3) L st) : hw_V X B fr nb S z c sl Q nL pc L st0 :=
  hr_callV G hk hct hi cw w1 w2 hM hn hst hW hR hcs d (fun r nb' S' z' hp => by
    obtain ⟨h1, rfl, rfl, rfl⟩ := hp
    have h2 := Sum.inl.inj h1
    subst h2
    exact K)
theorem hr_callSs {v : Value} (G : hw_G X B fr cc nL own) {index maxL n : Nat} {y : MethodName} {bytes : ByteArray} {ret : Option FieldType} {rm : Room} {As st0 : List Value} (cw : hw_C own index y bytes maxL ret n) (w1 : Cond.static y ∈ hw_TS) (hM : hw_M X.2.1 y bytes maxL ret rm B As nb S z (hw_p (.inl (some v)) nb2 S2 z2)) (hn : As.length = n) (hst : st0 = As.reverse ++ st) (hW : (st.map fun v => v.category).sum ≤ 8) (hR : rm.frames + 1 ≤ (xR X).frames ∧ 8 + (maxL + 11) + rm.locals ≤ (xR X).locals) (hcs : c + rm.cells ≤ (xR X).cells ∧ sl + rm.slots ≤ (xR X).slots) (d : decode cc pc = .ok (.invokestatic index, 3))
    (K : hw_V X B fr nb2 S2 z2 (c + rm.cells) (sl + rm.slots) Q nL (pc + 3) L (v :: st)) : hw_V X B fr nb S z c sl Q nL pc L st0 :=
  hr_callS G cw w1 hM hn hst hW hR hcs d (fun r nb' S' z' hp => by
    obtain ⟨h1, rfl, rfl, rfl⟩ := hp
    have h2 := Sum.inl.inj h1
    subst h2
    exact K)
theorem hr_callSn (G : hw_G X B fr cc nL own) {index maxL n : Nat} {y : MethodName} {bytes : ByteArray} {ret : Option FieldType} {rm : Room} {As st0 : List Value} (cw : hw_C own index y bytes maxL ret n) (w1 : Cond.static y ∈ hw_TS) (hM : hw_M X.2.1 y bytes maxL ret rm B As nb S z (hw_p (.inl none) nb2 S2 z2)) (hn : As.length = n) (hst : st0 = As.reverse ++ st) (hW : (st.map fun v => v.category).sum ≤ 8) (hR : rm.frames + 1 ≤ (xR X).frames ∧ 8 + (maxL + 11) + rm.locals ≤ (xR X).locals) (hcs : c + rm.cells ≤ (xR X).cells ∧ sl + rm.slots ≤ (xR X).slots) (d : decode cc pc = .ok (.invokestatic index, 3))
    (K : hw_V X B fr nb2 S2 z2 (c + rm.cells) (sl + rm.slots) Q nL (pc + 3) L st) : hw_V X B fr nb S z c sl Q nL pc L st0 :=
  hr_callS G cw w1 hM hn hst hW hR hcs d (fun r nb' S' z' hp => by
    obtain ⟨h1, rfl, rfl, rfl⟩ := hp
    have h2 := Sum.inl.inj h1
    subst h2
    exact K)
theorem hr_callIn (G : hw_G X B fr cc nL own) {k i index maxL n : Nat} {y : MethodName} {bytes : ByteArray} {rm : Room} {As st0 : List Value} (cw : hw_C own index y bytes maxL none n) (w1 : Cond.instanceMethod y ∈ hw_TS) (hy : y.name = "<init>") (hM : hw_M X.2.1 y bytes maxL none rm B (.ref (hw_a B k i) :: As) nb S z (hw_p (.inl none) nb2 S2 z2)) (hn : As.length = n) (hst : st0 = As.reverse ++ .ref (hw_a B k i) :: st) (hW : (st.map fun v => v.category).sum ≤ 8) (hR : rm.frames + 1 ≤ (xR X).frames ∧ 8 + (maxL + 11) + rm.locals ≤ (xR X).locals) (hcs : c + rm.cells ≤ (xR X).cells ∧ sl + rm.slots ≤ (xR X).slots) (d : decode cc pc = .ok (.invokespecial index, 3))
    (K : hw_V X B fr nb2 S2 z2 (c + rm.cells) (sl + rm.slots) Q nL (pc + 3) L st) : hw_V X B fr nb S z c sl Q nL pc L st0 :=
  hr_callI G cw w1 hy hM hn hst hW hR hcs d (fun r nb' S' z' hp => by
    obtain ⟨h1, rfl, rfl, rfl⟩ := hp
    have h2 := Sum.inl.inj h1
    subst h2
    exact K)
end HP
theorem ib_rng (x : Int32) (n : Nat) (hn : n < 2 ^ 31) : (∃ j : Nat, j < n ∧ x = nI j) ∨ (x < 0 ∨ nI n ≤ x) := by
  rcases pk_ix x hn with h | h | h
  · exact Or.inr (Or.inl h)
  · exact Or.inr (Or.inr h)
  · exact Or.inl h
end
section
/-! String constants and statics in the old heap. -/
section HS
variable {X : hw_X} {B : hw_B} {fr : Nat → Prop} {nb nb2 : Nat → Nat} {S S2 : hw_St} {z z2 c sl : Nat} {Q : State → Prop} {cc : ByteArray} {nL pc : Nat} {own : String} {L : List (Nat × Value)} {st : List Value}
theorem hw_vS (G : hw_G X B fr cc nL own) {H : Heap} {locs : List Loc} {T : State} (hP : hw_P B nb S H) (hf : hw_L B fr nb z locs) (hT : T.heap = H) (XX : Stand X.1 X.2.1 X.2.2.1 (xR X) (xs X) (xm X) (xa X) (xb X) (xt X) (xc X) T locs c sl) : va_S (fun x => B.1 ≤ x) (xs X).heap H locs := ⟨by rw [← hT]; exact XX.same.2.1, fun q _ hq => by
    have hq' : q < B.1 := Nat.not_le.mp hq
    rw [hP.1.2 q hq', G.2.2.2.2.2.2.2.2 q hq'], fun l hl => G.2.2.2.2.2.2.2.1 _ (hf.1 l hl)⟩
theorem hw_kq (G : hw_G X B fr cc nL own) : ∀ a : Nat, a < B.2.1.size → ¬ B.1 ≤ a → (xs X).heap[a]? = B.2.1[a]? := fun a _ ha => G.2.2.2.2.2.2.2.2 a (Nat.not_le.mp ha)
theorem hr_gets (G : hw_G X B fr cc nL own) {index : Nat} {C n d : String} {v : Value} (hZ : va_Z C n d v (fun x => B.1 ≤ x) (xs X) B.2.1) (w : Cond.fieldLink own index C n d ∈ hw_TS) (dd : decode cc pc = .ok (.getstatic index, 3)) (K : hw_V X B fr nb S z c sl Q nL (pc + 3) L (v :: st)) : hw_V X B fr nb S z c sl Q nL pc L st := by
  intro ls H locs hl hP hz hf T hT XX
  exact va_gets G.1 G.2.1 (hZ.kept (hw_kq G)) (hw_vS G hP hf hT XX) G.2.2.2.1 (va_any rfl (G.2.2.2.2.1.2.2.1 _ w)) (fun _ h => h) dd (K ls H locs hl hP hz hf) T hT XX
theorem hr_getsq (G : hw_G X B fr cc nL own) {index : Nat} {C n d : String} (hZ : va_Zq C n d (fun x => B.1 ≤ x) (xs X) B.2.1) (w : Cond.fieldLink own index C n d ∈ hw_TS) (dd : decode cc pc = .ok (.getstatic index, 3)) (K : ∀ r : Option Nat, hw_V X B fr nb S z c sl Q nL (pc + 3) L (va_rf r :: st)) : hw_V X B fr nb S z c sl Q nL pc L st := by
  rcases hZ with h | ⟨t, h⟩
  · exact hr_gets G h w dd (K none)
  · exact hr_gets G h w dd (K (some t))
theorem hr_getO (G : hw_G X B fr cc nL own) {a index : Nat} {C n d : String} {v : Value} (h : va_OF C n d v a (fun x => B.1 ≤ x) (xs X) B.2.1) (w : Cond.fieldLink own index C n d ∈ hw_TS) (dd : decode cc pc = .ok (.getfield index, 3)) (K : hw_V X B fr nb S z c sl Q nL (pc + 3) L (v :: st)) : hw_V X B fr nb S z c sl Q nL pc L (.ref a :: st) := by
  intro ls H locs hl hP hz hf T hT XX
  exact va_getX (N := 1) (i := 0) (v := fun _ => v) (ad := fun _ => a) G.1 G.2.1 (fun i hi => h.kept (hw_kq G)) (by decide) (hw_vS G hP hf hT XX) G.2.2.2.1 (va_any rfl (G.2.2.2.2.1.2.2.1 _ w)) (fun _ h => h) dd (K ls H locs hl hP hz hf) T hT XX
theorem hr_tlen (G : hw_G X B fr cc nL own) {t N : Nat} {f : Nat → Value} (h : va_T .byte t N f (fun x => B.1 ≤ x) (xs X) B.2.1) (dd : decode cc pc = .ok (.arraylength, 1)) (K : hw_V X B fr nb S z c sl Q nL (pc + 1) L (.int (nI N) :: st)) : hw_V X B fr nb S z c sl Q nL pc L (.ref t :: st) := by
  intro ls H locs hl hP hz hf T hT XX
  exact va_tlen G.1 G.2.1 (h.kept (hw_kq G)) (hw_vS G hP hf hT XX) rfl dd (K ls H locs hl hP hz hf) T hT XX
theorem hr_tb (G : hw_G X B fr cc nL own) {t N j : Nat} {f : Nat → Int32} {x : Int32} (h : va_T .byte t N (fun j => .int (f j)) (fun x => B.1 ≤ x) (xs X) B.2.1) (hx : x = nI j) (hj : j < N) (hN : N < 2 ^ 31) (dd : decode cc pc = .ok (.baload, 1)) (K : hw_V X B fr nb S z c sl Q nL (pc + 1) L (.int (f j) :: st)) : hw_V X B fr nb S z c sl Q nL pc L (.int x :: .ref t :: st) := by
  intro ls H locs hl hP hz hf T hT XX
  subst hx
  exact va_tb G.1 G.2.1 (h.kept (hw_kq G)) (hw_vS G hP hf hT XX) (vp_in_nI hj hN) (by rw [nI_clamp (by omega)]) dd (K ls H locs hl hP hz hf) T hT XX
theorem hr_callO (G : hw_G X B fr cc nL own) {a index maxL n : Nat} {y : MethodName} {bytes : ByteArray} {ret : Option FieldType} {rm : Room} {As st0 : List Value} {v : Value} (hO : va_O y.cls a (fun x => B.1 ≤ x) (xs X) B.2.1) (cw : hw_C own index y bytes maxL ret n) (w1 : Cond.instanceMethod y ∈ hw_TS) (w2 : Cond.selects y.cls y y ∈ hw_TS) (hM : hw_M X.2.1 y bytes maxL ret rm B (.ref a :: As) nb S z (hw_p (.inl (some v)) nb2 S2 z2)) (hn : As.length = n) (hst : st0 = As.reverse ++ .ref a :: st) (hW : (st.map fun v => v.category).sum ≤ 8) (hR : rm.frames + 1 ≤ (xR X).frames ∧ 8 + (maxL + 11) + rm.locals ≤ (xR X).locals) (hcs : c + rm.cells ≤ (xR X).cells ∧ sl + rm.slots ≤ (xR X).slots) (d : decode cc pc = .ok (.invokevirtual index, 3))
    (K : hw_V X B fr nb2 S2 z2 (c + rm.cells) (sl + rm.slots) Q nL (pc + 3) L (v :: st)) : hw_V X B fr nb S z c sl Q nL pc L st0 := by
  intro ls H locs hl hP hz hf
  obtain ⟨c1, c2, c3, c4⟩ := cw
  have hN := G.2.2.2.2.1.2.2.1
  obtain ⟨cellV, g1, g2, g3, g4⟩ := hO
  have hp : PreV (xs X) H y.cls a (hw_Pc B (.ref a :: As) nb S z) As := ⟨hw_blind, ⟨cellV, (hP.1.2 a (Nat.not_le.mp g4)).trans g1, g2, g3⟩, fun U hU hWU => ⟨rfl, hw_K.moved hWU G.2.2.2.2.1, by rw [hU]; exact hP, by rw [hU]; exact hz⟩⟩
  have hS : CallFix X.1 (xm X) (xc X) cc nL (xs X) (xa X) [] own := ⟨G.1, G.2.1, G.2.2.1, G.2.2.2.1, fun w hw => by cases hw⟩
  have K' : ∀ (r : Option Value) (nb' : Nat → Nat) (S' : hw_St) (z' : Nat), hw_p (.inl (some v)) nb2 S2 z2 (.inl r) nb' S' z' → hw_V X B fr nb' S' z' (c + rm.cells) (sl + rm.slots) Q nL (pc + 3) L (r.toList ++ st) := fun r nb' S' z' hp => by
    obtain ⟨h1, rfl, rfl, rfl⟩ := hp
    have h2 := Sum.inl.inj h1
    subst h2
    exact K
  rcases c4 with c4 | ⟨host, c4⟩
  · exact hw_after (va_runV hS hM ⟨⟨rfl, rfl, hR.1, hR.2, hw_codeW (hN _ c1), List.mem_singleton.mpr rfl, va_any rfl (hN _ c1), va_any rfl (hN _ c2), ⟨c3.1, c3.2.1⟩, hw_len c3.2.2, va_any rfl (hN _ c4)⟩, va_any rfl (hN _ w1), va_any rfl (hN _ w2)⟩ hp rfl hn hl.1 hst (by show 2 * 0 + _ ≤ 8; omega) d hcs) hl hf K'
  · exact hw_after (va_runVN hS hM ⟨⟨⟨rfl, rfl, hR.1, hR.2, hw_codeW (hN _ c1), List.mem_singleton.mpr rfl⟩, va_any rfl (hN _ c1), va_any rfl (hN _ c2), ⟨c3.1, c3.2.1⟩, hw_len c3.2.2, va_any rfl (hN _ c4)⟩, va_any rfl (hN _ w1), va_any rfl (hN _ w2)⟩ hp rfl hn hl.1 hst (by show 2 * 0 + _ ≤ 8; omega) d hcs) hl hf K'
end HS
theorem hw_M.ofF {l : Launch} {y : MethodName} {cc : ByteArray} {nL : Nat} {ret : Option FieldType} {rm : Room} {B : hw_B} {av : List Value} {nb : Nat → Nat} {S : hw_St} {z : Nat} {Post : hw_T} (hy : plainFor y = true) (hA : (lg_sl av).length ≤ nL)
    (body : ∀ (X : hw_X) (fr : Nat → Prop), X.2.1 = l → xR X = rm → hw_G X B fr cc nL y.cls → (xt X).sig.returnType = ret → (xt X).name = y.name → hw_V X B fr nb S z 0 0 (hw_MQ X B fr Post rm.cells rm.slots) nL 0 (lv_args 0 av) []) : hw_M l y cc nL ret rm B av nb S z Post := by
  refine va_MetF (cc := cc) (maxL := nL) (ret := ret) hy rfl ?_
  intro p e s m args below meth c s₁ Bd hml hv
  obtain ⟨rfl, hK, hP, hz⟩ := hv
  have hown : s.vm.findClass y.cls = some m.cls := findClass_of_methodNamed Bd.named
  have h := body (p, l, e, rm, s, m, av.toArray, below, meth, c) (hw_fr B nb z) rfl rfl ⟨Bd.exec, Bd.bytes, hml, hown, hK, Bd.notSynchronized, hw_nost hP hz, hw_frb hP hz, hP.1.2⟩ Bd.returns (name_of_methodNamed Bd.named Bd.method).1
  rw [lg_entry_eq]
  exact h _ _ [] (lv_entry av hA) hP hz hw_L0
theorem hw_M.mono {l : Launch} {y : MethodName} {cc : ByteArray} {nL : Nat} {ret : Option FieldType} {rm : Room} {B : hw_B} {av : List Value} {nb : Nat → Nat} {S : hw_St} {z : Nat} {P P' : hw_T} (h : hw_M l y cc nL ret rm B av nb S z P) (hP : ∀ oc nb' S' z', P oc nb' S' z' → P' oc nb' S' z') : hw_M l y cc nL ret rm B av nb S z P' := by
  intro p e ha hc hk s m args below h1 h2 h3 h4
  obtain ⟨n, o, g1, g2, g3, ⟨oc, nb', S', q1, q2, q3, q4⟩, g5⟩ := h p e ha hc hk s m args below h1 h2 h3 h4
  exact ⟨n, o, g1, g2, g3, ⟨oc, nb', S', hP _ _ _ _ q1, q2, q3, q4⟩, g5⟩
end
section
/-! The JDK's own methods that String constants reach. -/
abbrev cJp_checkIndex : ByteArray := prog_16_method_11_code
abbrev yJp_checkIndex : MethodName := ⟨"jdk/internal/util/Preconditions", "checkIndex", "(IILjava/util/function/BiFunction;)I"⟩
theorem dJs_length_0 : decode cJs_length 0 = .ok (.aload_n 0, 1) := by decide +kernel
theorem dJs_length_1 : decode cJs_length 1 = .ok (.getfield 9, 3) := by decide +kernel
theorem dJs_length_4 : decode cJs_length 4 = .ok (.arraylength, 1) := by decide +kernel
theorem dJs_length_5 : decode cJs_length 5 = .ok (.aload_n 0, 1) := by decide +kernel
theorem dJs_length_6 : decode cJs_length 6 = .ok (.invokevirtual 335, 3) := by decide +kernel
theorem dJs_length_9 : decode cJs_length 9 = .ok (.ishr, 1) := by decide +kernel
theorem dJs_length_10 : decode cJs_length 10 = .ok (.ireturn, 1) := by decide +kernel
theorem iJs_length : Cond.instanceMethod yJs_length ∈ hw_TS := hw_in 452 (by decide +kernel) rfl
theorem vJs_length : Cond.selects yJs_length.cls yJs_length yJs_length ∈ hw_TS := hw_in 453 (by decide +kernel) rfl
theorem dJs_coder_0 : decode cJs_coder 0 = .ok (.getstatic 38, 3) := by decide +kernel
theorem dJs_coder_3 : decode cJs_coder 3 = .ok (.ifCond .eq 10, 3) := by decide +kernel
theorem dJs_coder_6 : decode cJs_coder 6 = .ok (.aload_n 0, 1) := by decide +kernel
theorem dJs_coder_7 : decode cJs_coder 7 = .ok (.getfield 15, 3) := by decide +kernel
theorem dJs_coder_10 : decode cJs_coder 10 = .ok (.goto 4, 3) := by decide +kernel
theorem dJs_coder_13 : decode cJs_coder 13 = .ok (.iconst 1, 1) := by decide +kernel
theorem dJs_coder_14 : decode cJs_coder 14 = .ok (.ireturn, 1) := by decide +kernel
theorem iJs_coder : Cond.instanceMethod yJs_coder ∈ hw_TS := hw_in 456 (by decide +kernel) rfl
theorem vJs_coder : Cond.selects yJs_coder.cls yJs_coder yJs_coder ∈ hw_TS := hw_in 457 (by decide +kernel) rfl
theorem dJs_charAt_0 : decode cJs_charAt 0 = .ok (.aload_n 0, 1) := by decide +kernel
theorem dJs_charAt_1 : decode cJs_charAt 1 = .ok (.invokevirtual 492, 3) := by decide +kernel
theorem dJs_charAt_4 : decode cJs_charAt 4 = .ok (.ifCond .eq 12, 3) := by decide +kernel
theorem dJs_charAt_7 : decode cJs_charAt 7 = .ok (.aload_n 0, 1) := by decide +kernel
theorem dJs_charAt_8 : decode cJs_charAt 8 = .ok (.getfield 9, 3) := by decide +kernel
theorem dJs_charAt_11 : decode cJs_charAt 11 = .ok (.iload_n 1, 1) := by decide +kernel
theorem dJs_charAt_12 : decode cJs_charAt 12 = .ok (.invokestatic 495, 3) := by decide +kernel
theorem dJs_charAt_15 : decode cJs_charAt 15 = .ok (.ireturn, 1) := by decide +kernel
theorem dJs_charAt_16 : decode cJs_charAt 16 = .ok (.aload_n 0, 1) := by decide +kernel
theorem dJs_charAt_17 : decode cJs_charAt 17 = .ok (.getfield 9, 3) := by decide +kernel
theorem dJs_charAt_20 : decode cJs_charAt 20 = .ok (.iload_n 1, 1) := by decide +kernel
theorem dJs_charAt_21 : decode cJs_charAt 21 = .ok (.invokestatic 498, 3) := by decide +kernel
theorem dJs_charAt_24 : decode cJs_charAt 24 = .ok (.ireturn, 1) := by decide +kernel
theorem iJs_charAt : Cond.instanceMethod yJs_charAt ∈ hw_TS := hw_in 462 (by decide +kernel) rfl
theorem vJs_charAt : Cond.selects yJs_charAt.cls yJs_charAt yJs_charAt ∈ hw_TS := hw_in 463 (by decide +kernel) rfl
theorem dJs_isLatin1_0 : decode cJs_isLatin1 0 = .ok (.getstatic 38, 3) := by decide +kernel
theorem dJs_isLatin1_3 : decode cJs_isLatin1 3 = .ok (.ifCond .eq 14, 3) := by decide +kernel
theorem dJs_isLatin1_6 : decode cJs_isLatin1 6 = .ok (.aload_n 0, 1) := by decide +kernel
theorem dJs_isLatin1_7 : decode cJs_isLatin1 7 = .ok (.getfield 15, 3) := by decide +kernel
theorem dJs_isLatin1_10 : decode cJs_isLatin1 10 = .ok (.ifCond .ne 7, 3) := by decide +kernel
theorem dJs_isLatin1_13 : decode cJs_isLatin1 13 = .ok (.iconst 1, 1) := by decide +kernel
theorem dJs_isLatin1_14 : decode cJs_isLatin1 14 = .ok (.goto 4, 3) := by decide +kernel
theorem dJs_isLatin1_17 : decode cJs_isLatin1 17 = .ok (.iconst 0, 1) := by decide +kernel
theorem dJs_isLatin1_18 : decode cJs_isLatin1 18 = .ok (.ireturn, 1) := by decide +kernel
theorem iJs_isLatin1 : Cond.instanceMethod yJs_isLatin1 ∈ hw_TS := hw_in 466 (by decide +kernel) rfl
theorem vJs_isLatin1 : Cond.selects yJs_isLatin1.cls yJs_isLatin1 yJs_isLatin1 ∈ hw_TS := hw_in 467 (by decide +kernel) rfl
theorem dJl_charAt_0 : decode cJl_charAt 0 = .ok (.iload_n 1, 1) := by decide +kernel
theorem dJl_charAt_1 : decode cJl_charAt 1 = .ok (.aload_n 0, 1) := by decide +kernel
theorem dJl_charAt_2 : decode cJl_charAt 2 = .ok (.arraylength, 1) := by decide +kernel
theorem dJl_charAt_3 : decode cJl_charAt 3 = .ok (.invokestatic 9, 3) := by decide +kernel
theorem dJl_charAt_6 : decode cJl_charAt 6 = .ok (.aload_n 0, 1) := by decide +kernel
theorem dJl_charAt_7 : decode cJl_charAt 7 = .ok (.iload_n 1, 1) := by decide +kernel
theorem dJl_charAt_8 : decode cJl_charAt 8 = .ok (.baload, 1) := by decide +kernel
theorem dJl_charAt_9 : decode cJl_charAt 9 = .ok (.sipush 255, 3) := by decide +kernel
theorem dJl_charAt_12 : decode cJl_charAt 12 = .ok (.iand, 1) := by decide +kernel
theorem dJl_charAt_13 : decode cJl_charAt 13 = .ok (.i2c, 1) := by decide +kernel
theorem dJl_charAt_14 : decode cJl_charAt 14 = .ok (.ireturn, 1) := by decide +kernel
theorem sJl_charAt : Cond.static yJl_charAt ∈ hw_TS := hw_in 470 (by decide +kernel) rfl
theorem dJs_checkIndex_0 : decode cJs_checkIndex 0 = .ok (.iload_n 0, 1) := by decide +kernel
theorem dJs_checkIndex_1 : decode cJs_checkIndex 1 = .ok (.iload_n 1, 1) := by decide +kernel
theorem dJs_checkIndex_2 : decode cJs_checkIndex 2 = .ok (.getstatic 1053, 3) := by decide +kernel
theorem dJs_checkIndex_5 : decode cJs_checkIndex 5 = .ok (.invokestatic 1059, 3) := by decide +kernel
theorem dJs_checkIndex_8 : decode cJs_checkIndex 8 = .ok (.pop, 1) := by decide +kernel
theorem dJs_checkIndex_9 : decode cJs_checkIndex 9 = .ok (.return_, 1) := by decide +kernel
theorem sJs_checkIndex : Cond.static yJs_checkIndex ∈ hw_TS := hw_in 473 (by decide +kernel) rfl
theorem dJp_checkIndex_0 : decode cJp_checkIndex 0 = .ok (.iload_n 0, 1) := by decide +kernel
theorem dJp_checkIndex_1 : decode cJp_checkIndex 1 = .ok (.ifCond .lt 8, 3) := by decide +kernel
theorem dJp_checkIndex_4 : decode cJp_checkIndex 4 = .ok (.iload_n 0, 1) := by decide +kernel
theorem dJp_checkIndex_5 : decode cJp_checkIndex 5 = .ok (.iload_n 1, 1) := by decide +kernel
theorem dJp_checkIndex_6 : decode cJp_checkIndex 6 = .ok (.if_icmp .lt 10, 3) := by decide +kernel
theorem dJp_checkIndex_9 : decode cJp_checkIndex 9 = .ok (.aload_n 2, 1) := by decide +kernel
theorem dJp_checkIndex_10 : decode cJp_checkIndex 10 = .ok (.iload_n 0, 1) := by decide +kernel
theorem dJp_checkIndex_11 : decode cJp_checkIndex 11 = .ok (.iload_n 1, 1) := by decide +kernel
theorem dJp_checkIndex_12 : decode cJp_checkIndex 12 = .ok (.invokestatic 95, 3) := by decide +kernel
theorem dJp_checkIndex_15 : decode cJp_checkIndex 15 = .ok (.athrow, 1) := by decide +kernel
theorem dJp_checkIndex_16 : decode cJp_checkIndex 16 = .ok (.iload_n 0, 1) := by decide +kernel
theorem dJp_checkIndex_17 : decode cJp_checkIndex 17 = .ok (.ireturn, 1) := by decide +kernel
theorem sJp_checkIndex : Cond.static yJp_checkIndex ∈ hw_TS := hw_in 478 (by decide +kernel) rfl
theorem xT_19 : hw_C "TicketHouse$Text" 19 yJs_length cJs_length 1 (some .int) 0 := ⟨hw_in 454 (by decide +kernel) rfl, hw_in 12 (by decide +kernel) rfl, ⟨by decide, by decide, by decide +kernel⟩, Or.inl (hw_in 451 (by decide +kernel) rfl)⟩
theorem xT_24 : hw_C "TicketHouse$Text" 24 yJs_charAt cJs_charAt 2 (some .char) 1 := ⟨hw_in 464 (by decide +kernel) rfl, hw_in 12 (by decide +kernel) rfl, ⟨by decide, by decide, by decide +kernel⟩, Or.inl (hw_in 461 (by decide +kernel) rfl)⟩
theorem xJs_335 : hw_C "java/lang/String" 335 yJs_coder cJs_coder 1 (some .byte) 0 := ⟨hw_in 458 (by decide +kernel) rfl, hw_in 12 (by decide +kernel) rfl, ⟨by decide, by decide, by decide +kernel⟩, Or.inl (hw_in 455 (by decide +kernel) rfl)⟩
theorem xJs_492 : hw_C "java/lang/String" 492 yJs_isLatin1 cJs_isLatin1 1 (some .boolean) 0 := ⟨hw_in 468 (by decide +kernel) rfl, hw_in 12 (by decide +kernel) rfl, ⟨by decide, by decide, by decide +kernel⟩, Or.inl (hw_in 465 (by decide +kernel) rfl)⟩
theorem xJs_495 : hw_C "java/lang/String" 495 yJl_charAt cJl_charAt 2 (some .char) 2 := ⟨hw_in 471 (by decide +kernel) rfl, hw_in 13 (by decide +kernel) rfl, ⟨by decide, by decide, by decide +kernel⟩, Or.inl (hw_in 469 (by decide +kernel) rfl)⟩
theorem xJl_9 : hw_C "java/lang/StringLatin1" 9 yJs_checkIndex cJs_checkIndex 2 none 2 := ⟨hw_in 474 (by decide +kernel) rfl, hw_in 12 (by decide +kernel) rfl, ⟨by decide, by decide, by decide +kernel⟩, Or.inl (hw_in 472 (by decide +kernel) rfl)⟩
theorem xJs_1059 : hw_C "java/lang/String" 1059 yJp_checkIndex cJp_checkIndex 3 (some .int) 3 := ⟨hw_in 479 (by decide +kernel) rfl, hw_in 14 (by decide +kernel) rfl, ⟨by decide, by decide, by decide +kernel⟩, Or.inl (hw_in 477 (by decide +kernel) rfl)⟩
theorem xf_value : Cond.fieldLink "java/lang/String" 9 "java/lang/String" "value" "[B" ∈ hw_TS := hw_in 828 (by decide +kernel) rfl
theorem xf_coder : Cond.fieldLink "java/lang/String" 15 "java/lang/String" "coder" "B" ∈ hw_TS := hw_in 829 (by decide +kernel) rfl
theorem xf_comp : Cond.fieldLink "java/lang/String" 38 "java/lang/String" "COMPACT_STRINGS" "Z" ∈ hw_TS := hw_in 459 (by decide +kernel) rfl
theorem xf_fmt : Cond.fieldLink "java/lang/String" 1053 "jdk/internal/util/Preconditions" "SIOOBE_FORMATTER" "Ljava/util/function/BiFunction;" ∈ hw_TS := hw_in 475 (by decide +kernel) rfl
end
section
/-! Contracts of the JDK's methods on String constants. -/
theorem hw_sln_lt (i : Nat) : hw_sln i < 2 ^ 31 := by
  unfold hw_sln
  split <;> decide
def ib_c (x : Int32) : Prop := narrow .char (.int x) = .int x
/-- some char; nothing else has changed -/
def hw_pc (nb : Nat → Nat) (S : hw_St) (z : Nat) : hw_T := fun oc nb' S' z' => (∃ r : Int32, oc = .inl (some (.int r)) ∧ ib_c r) ∧ nb' = nb ∧ S' = S ∧ z' = z
theorem hr_callOc {X : hw_X} {B : hw_B} {fr : Nat → Prop} {nb : Nat → Nat} {S : hw_St} {z c sl : Nat} {Q : State → Prop} {cc : ByteArray} {nL pc : Nat} {own : String} {L : List (Nat × Value)} {st : List Value} (G : hw_G X B fr cc nL own) {a index maxL n : Nat} {y : MethodName} {bytes : ByteArray} {ret : Option FieldType} {rm : Room} {As st0 : List Value} (hO : va_O y.cls a (fun x => B.1 ≤ x) (xs X) B.2.1) (cw : hw_C own index y bytes maxL ret n) (w1 : Cond.instanceMethod y ∈ hw_TS) (w2 : Cond.selects y.cls y y ∈ hw_TS) (hM : hw_M X.2.1 y bytes maxL ret rm B (.ref a :: As) nb S z (hw_pc nb S z)) (hn : As.length = n) (hst : st0 = As.reverse ++ .ref a :: st) (hW : (st.map fun v => v.category).sum ≤ 8) (hR : rm.frames + 1 ≤ (xR X).frames ∧ 8 + (maxL + 11) + rm.locals ≤ (xR X).locals) (hcs : c + rm.cells ≤ (xR X).cells ∧ sl + rm.slots ≤ (xR X).slots) (d : decode cc pc = .ok (.invokevirtual index, 3))
    (K : ∀ r : Int32, ib_c r → hw_V X B fr nb S z (c + rm.cells) (sl + rm.slots) Q nL (pc + 3) L (.int r :: st)) : hw_V X B fr nb S z c sl Q nL pc L st0 := by
  intro ls H locs hl hP hz hf
  obtain ⟨c1, c2, c3, c4⟩ := cw
  have hN := G.2.2.2.2.1.2.2.1
  obtain ⟨cellV, g1, g2, g3, g4⟩ := hO
  have hp : PreV (xs X) H y.cls a (hw_Pc B (.ref a :: As) nb S z) As := ⟨hw_blind, ⟨cellV, (hP.1.2 a (Nat.not_le.mp g4)).trans g1, g2, g3⟩, fun U hU hWU => ⟨rfl, hw_K.moved hWU G.2.2.2.2.1, by rw [hU]; exact hP, by rw [hU]; exact hz⟩⟩
  have hS : CallFix X.1 (xm X) (xc X) cc nL (xs X) (xa X) [] own := ⟨G.1, G.2.1, G.2.2.1, G.2.2.2.1, fun w hw => by cases hw⟩
  have K' : ∀ (r : Option Value) (nb' : Nat → Nat) (S' : hw_St) (z' : Nat), hw_pc nb S z (.inl r) nb' S' z' → hw_V X B fr nb' S' z' (c + rm.cells) (sl + rm.slots) Q nL (pc + 3) L (r.toList ++ st) := fun r nb' S' z' hp => by
    obtain ⟨⟨x, h1, hx⟩, rfl, rfl, rfl⟩ := hp
    have h2 := Sum.inl.inj h1
    subst h2
    exact K x hx
  rcases c4 with c4 | ⟨host, c4⟩
  · exact hw_after (va_runV hS hM ⟨⟨rfl, rfl, hR.1, hR.2, hw_codeW (hN _ c1), List.mem_singleton.mpr rfl, va_any rfl (hN _ c1), va_any rfl (hN _ c2), ⟨c3.1, c3.2.1⟩, hw_len c3.2.2, va_any rfl (hN _ c4)⟩, va_any rfl (hN _ w1), va_any rfl (hN _ w2)⟩ hp rfl hn hl.1 hst (by show 2 * 0 + _ ≤ 8; omega) d hcs) hl hf K'
  · exact hw_after (va_runVN hS hM ⟨⟨⟨rfl, rfl, hR.1, hR.2, hw_codeW (hN _ c1), List.mem_singleton.mpr rfl⟩, va_any rfl (hN _ c1), va_any rfl (hN _ c2), ⟨c3.1, c3.2.1⟩, hw_len c3.2.2, va_any rfl (hN _ c4)⟩, va_any rfl (hN _ w1), va_any rfl (hN _ w2)⟩ hp rfl hn hl.1 hst (by show 2 * 0 + _ ≤ 8; omega) d hcs) hl hf K'
theorem hw_strK {X : hw_X} {B : hw_B} {fr : Nat → Prop} {cc : ByteArray} {nL : Nat} {own : String} (G : hw_G X B fr cc nL own) {i : Nat} {q : String × Nat × String} (hq : hw_strs[i]? = some q) : hw_sc B i q (xs X) := G.2.2.2.2.1.2.2.2.2.2.1 i q hq
theorem m_Jp_checkIndex (l : Launch) (B : hw_B) (nb : Nat → Nat) (S : hw_St) (z : Nat) (i n : Nat) (r : Option Nat) (hi : i < n) (hn : n < 2 ^ 31) : hw_M l yJp_checkIndex cJp_checkIndex 3 (some .int) ({ frames := 0, cells := 0, slots := 0, locals := 0 }) B [.int (nI i), .int (nI n), va_rf r] nb S z (hw_p (.inl (some (.int (nI i)))) nb S z) := by
  cases r <;>
  · refine hw_M.ofF (by decide +kernel) (Nat.le_of_ble_eq_true rfl) ?_
    intro X fr hl hR G hr hnm
    refine hr_iload_n G dJp_checkIndex_0 rfl rfl ?_
    refine hr_if_lt (tgt := 9) G dJp_checkIndex_1 (by decide) (fun h => absurd h (nI_pos (by omega))) (fun _ => ?_)
    refine hr_iload_n G dJp_checkIndex_4 rfl rfl ?_
    refine hr_iload_n G dJp_checkIndex_5 rfl rfl ?_
    refine hr_icmp_lt (tgt := 16) G dJp_checkIndex_6 (by decide) (fun _ => ?_) (fun h => absurd (nI_lt hi hn) h)
    refine hr_iload_n G dJp_checkIndex_16 rfl rfl ?_
    exact hr_iret G hr (fun _ h => h) dJp_checkIndex_17 hw_pi
theorem m_Js_checkIndex (l : Launch) (B : hw_B) (nb : Nat → Nat) (S : hw_St) (z : Nat) (i n : Nat) (hi : i < n) (hn : n < 2 ^ 31) : hw_M l yJs_checkIndex cJs_checkIndex 2 none ({ frames := 1, cells := 0, slots := 0, locals := 22 }) B [.int (nI i), .int (nI n)] nb S z (hw_p (.inl none) nb S z) := by
  refine hw_M.ofF (by decide +kernel) (Nat.le_of_ble_eq_true rfl) ?_
  intro X fr hl hR G hr hnm
  refine hr_iload_n G dJs_checkIndex_0 rfl rfl ?_
  refine hr_iload_n G dJs_checkIndex_1 rfl rfl ?_
  refine hr_getsq G G.2.2.2.2.1.2.2.2.2.2.2.2 xf_fmt dJs_checkIndex_2 (fun r => ?_)
  refine hr_callSs G xJs_1059 sJp_checkIndex (m_Jp_checkIndex _ _ _ _ _ i n r hi hn) rfl rfl (by decide) ⟨by rw [hR]; decide, by rw [hR]; decide⟩ ⟨by rw [hR]; decide, by rw [hR]; decide⟩ dJs_checkIndex_5 ?_
  refine hr_pop G dJs_checkIndex_8 rfl ?_
  exact hr_vret G hr (fun _ h => h) dJs_checkIndex_9 hw_pi
theorem m_Jl_charAt (l : Launch) (B : hw_B) (nb : Nat → Nat) (S : hw_St) (z : Nat) (i j : Nat) (q : String × Nat × String) (hq : hw_strs[i]? = some q) (hj : j < hw_sln i) : hw_M l yJl_charAt cJl_charAt 2 (some .char) ({ frames := 2, cells := 0, slots := 0, locals := 43 }) B [.ref (hw_a B 61 i), .int (nI j)] nb S z (hw_pc nb S z) := by
  refine hw_M.ofF (by decide +kernel) (Nat.le_of_ble_eq_true rfl) ?_
  intro X fr hl hR G hr hnm
  obtain ⟨f, hT⟩ := (hw_strK G hq).2.2.2.2
  refine hr_iload_n G dJl_charAt_0 rfl rfl ?_
  refine hr_aload_n G dJl_charAt_1 rfl rfl ?_
  refine hr_tlen G hT dJl_charAt_2 ?_
  refine hr_callSn G xJl_9 sJs_checkIndex (m_Js_checkIndex _ _ _ _ _ j (hw_sln i) hj (hw_sln_lt i)) rfl rfl (by decide) ⟨by rw [hR]; decide, by rw [hR]; decide⟩ ⟨by rw [hR]; decide, by rw [hR]; decide⟩ dJl_charAt_3 ?_
  refine hr_aload_n G dJl_charAt_6 rfl rfl ?_
  refine hr_iload_n G dJl_charAt_7 rfl rfl ?_
  refine hr_tb G hT rfl hj (hw_sln_lt i) dJl_charAt_8 ?_
  refine hr_sipush (v := 255) G dJl_charAt_9 (by decide) ?_
  refine hr_iand G dJl_charAt_12 ?_
  refine hr_i2c G dJl_charAt_13 ?_
  exact hr_zret G hr (pk_nc _) (fun _ h => h) dJl_charAt_14 ⟨⟨_, rfl, pk_nc _⟩, rfl, rfl, rfl⟩
theorem m_Js_isLatin1 (l : Launch) (B : hw_B) (nb : Nat → Nat) (S : hw_St) (z : Nat) (i : Nat) (q : String × Nat × String) (hq : hw_strs[i]? = some q) : hw_M l yJs_isLatin1 cJs_isLatin1 1 (some .boolean) ({ frames := 0, cells := 0, slots := 0, locals := 0 }) B [.ref (hw_a B 60 i)] nb S z (hw_p (.inl (some (.int 1))) nb S z) := by
  refine hw_M.ofF (by decide +kernel) (Nat.le_of_ble_eq_true rfl) ?_
  intro X fr hl hR G hr hnm
  refine hr_gets G G.2.2.2.2.1.2.2.2.2.2.2.1 xf_comp dJs_isLatin1_0 ?_
  refine hr_if_eq (tgt := 17) G dJs_isLatin1_3 (by decide) (fun h => absurd h (by decide)) (fun _ => ?_)
  refine hr_aload_n G dJs_isLatin1_6 rfl rfl ?_
  refine hr_getO G (hw_strK G hq).2.2.1 xf_coder dJs_isLatin1_7 ?_
  refine hr_if_ne (tgt := 17) G dJs_isLatin1_10 (by decide) (fun h => absurd rfl h) (fun _ => ?_)
  refine hr_iconst (v := 1) G dJs_isLatin1_13 (by decide) ?_
  refine hr_goto (tgt := 18) G dJs_isLatin1_14 (by decide) ?_
  exact hr_zret G hr rfl (fun _ h => h) dJs_isLatin1_18 hw_pi
theorem m_Js_coder (l : Launch) (B : hw_B) (nb : Nat → Nat) (S : hw_St) (z : Nat) (i : Nat) (q : String × Nat × String) (hq : hw_strs[i]? = some q) : hw_M l yJs_coder cJs_coder 1 (some .byte) ({ frames := 0, cells := 0, slots := 0, locals := 0 }) B [.ref (hw_a B 60 i)] nb S z (hw_p (.inl (some (.int 0))) nb S z) := by
  refine hw_M.ofF (by decide +kernel) (Nat.le_of_ble_eq_true rfl) ?_
  intro X fr hl hR G hr hnm
  refine hr_gets G G.2.2.2.2.1.2.2.2.2.2.2.1 xf_comp dJs_coder_0 ?_
  refine hr_if_eq (tgt := 13) G dJs_coder_3 (by decide) (fun h => absurd h (by decide)) (fun _ => ?_)
  refine hr_aload_n G dJs_coder_6 rfl rfl ?_
  refine hr_getO G (hw_strK G hq).2.2.1 xf_coder dJs_coder_7 ?_
  refine hr_goto (tgt := 14) G dJs_coder_10 (by decide) ?_
  exact hr_zret G hr rfl (fun _ h => h) dJs_coder_14 hw_pi
theorem m_Js_length (l : Launch) (B : hw_B) (nb : Nat → Nat) (S : hw_St) (z : Nat) (i : Nat) (q : String × Nat × String) (hq : hw_strs[i]? = some q) : hw_M l yJs_length cJs_length 1 (some .int) ({ frames := 1, cells := 0, slots := 0, locals := 20 }) B [.ref (hw_a B 60 i)] nb S z (hw_p (.inl (some (.int (nI (hw_sln i))))) nb S z) := by
  refine hw_M.ofF (by decide +kernel) (Nat.le_of_ble_eq_true rfl) ?_
  intro X fr hl hR G hr hnm
  obtain ⟨f, hT⟩ := (hw_strK G hq).2.2.2.2
  refine hr_aload_n G dJs_length_0 rfl rfl ?_
  refine hr_getO G (hw_strK G hq).2.2.2.1 xf_value dJs_length_1 ?_
  refine hr_tlen G hT dJs_length_4 ?_
  refine hr_aload_n G dJs_length_5 rfl rfl ?_
  refine hr_callO G (hw_strK G hq).2.1 xJs_335 iJs_coder vJs_coder (m_Js_coder _ _ _ _ _ i q hq) rfl rfl (Nat.le_of_ble_eq_true rfl) ⟨by rw [hR]; decide, by rw [hR]; decide⟩ ⟨by rw [hR]; decide, by rw [hR]; decide⟩ dJs_length_6 ?_
  refine hr_ishr G dJs_length_9 ?_
  exact hr_iret G hr (fun _ h => h) dJs_length_10 ⟨by rw [sc_shr0 (hw_sln_lt i)], rfl, rfl, rfl⟩
theorem m_Js_charAt (l : Launch) (B : hw_B) (nb : Nat → Nat) (S : hw_St) (z : Nat) (i j : Nat) (q : String × Nat × String) (hq : hw_strs[i]? = some q) (hj : j < hw_sln i) : hw_M l yJs_charAt cJs_charAt 2 (some .char) ({ frames := 3, cells := 0, slots := 0, locals := 64 }) B [.ref (hw_a B 60 i), .int (nI j)] nb S z (hw_pc nb S z) := by
  refine hw_M.ofF (by decide +kernel) (Nat.le_of_ble_eq_true rfl) ?_
  intro X fr hl hR G hr hnm
  refine hr_aload_n G dJs_charAt_0 rfl rfl ?_
  refine hr_callO G (hw_strK G hq).2.1 xJs_492 iJs_isLatin1 vJs_isLatin1 (m_Js_isLatin1 _ _ _ _ _ i q hq) rfl rfl (by decide) ⟨by rw [hR]; decide, by rw [hR]; decide⟩ ⟨by rw [hR]; decide, by rw [hR]; decide⟩ dJs_charAt_1 ?_
  refine hr_if_eq (tgt := 16) G dJs_charAt_4 (by decide) (fun h => absurd h (by decide)) (fun _ => ?_)
  refine hr_aload_n G dJs_charAt_7 rfl rfl ?_
  refine hr_getO G (hw_strK G hq).2.2.2.1 xf_value dJs_charAt_8 ?_
  refine hr_iload_n G dJs_charAt_11 rfl rfl ?_
  refine hr_callS G xJs_495 sJl_charAt (m_Jl_charAt _ _ _ _ _ i j q hq hj) rfl rfl (by decide) ⟨by rw [hR]; decide, by rw [hR]; decide⟩ ⟨by rw [hR]; decide, by rw [hR]; decide⟩ dJs_charAt_12 (fun r nb' S' z' hp => ?_)
  obtain ⟨⟨x, h1, hx⟩, rfl, rfl, rfl⟩ := hp
  have h2 := Sum.inl.inj h1
  subst h2
  exact hr_zret G hr hx (fun _ h => h) dJs_charAt_15 ⟨⟨_, rfl, hx⟩, rfl, rfl, rfl⟩
end
section
/-! Leaves. -/
set_option maxRecDepth 100000 in
set_option maxHeartbeats 1000000 in
theorem m_H_isService (l : Launch) (B : hw_B) (nb : Nat → Nat) (S : hw_St) (z : Nat) (s : Int32) : hw_M l yH_isService cH_isService 1 (some .boolean) ({ frames := 0, cells := 0, slots := 0, locals := 0 }) B [.int s] nb S z (hw_p (.inl (some (.int (if s < 0 ∨ 6 ≤ s then 0 else 1)))) nb S z) := by
  refine hw_M.of (by decide) (Nat.le_of_ble_eq_true rfl) ?_
  intro X fr hl hR G hr hnm
  refine hr_iload_n G dH_isService_0 rfl rfl ?_
  refine hr_if_lt (tgt := 14) G dH_isService_1 (by decide) (fun h1 => ?_) (fun h1 => ?_)
  · skip
    refine hr_iconst (v := 0) G dH_isService_14 (by decide) ?_
    exact hr_zret G hr (rfl) (fun _ h => h) dH_isService_15 ⟨by simp only [h1, ↓reduceIte, eq_self, true_or, or_true, or_self], rfl, (by first | rfl | simp only [h1, ↓reduceIte, eq_self, true_or, or_true, or_self]), rfl⟩
  · skip
    refine hr_iload_n G dH_isService_4 rfl rfl ?_
    refine hr_bipush (v := 6) G dH_isService_5 (by decide) ?_
    refine hr_icmp_ge (tgt := 14) G dH_isService_7 (by decide) (fun h7 => ?_) (fun h7 => ?_)
    · skip
      refine hr_iconst (v := 0) G dH_isService_14 (by decide) ?_
      exact hr_zret G hr (rfl) (fun _ h => h) dH_isService_15 ⟨by simp only [h1, h7, ↓reduceIte, eq_self, true_or, or_true, or_self], rfl, (by first | rfl | simp only [h1, h7, ↓reduceIte, eq_self, true_or, or_true, or_self]), rfl⟩
    · skip
      refine hr_iconst (v := 1) G dH_isService_10 (by decide) ?_
      refine hr_goto (tgt := 15) G dH_isService_11 (by decide) ?_
      exact hr_zret G hr (rfl) (fun _ h => h) dH_isService_15 ⟨by simp only [h1, h7, ↓reduceIte, eq_self, true_or, or_true, or_self], rfl, (by first | rfl | simp only [h1, h7, ↓reduceIte, eq_self, true_or, or_true, or_self]), rfl⟩
set_option maxRecDepth 100000 in
set_option maxHeartbeats 1000000 in
theorem m_H_oneIf (l : Launch) (B : hw_B) (nb : Nat → Nat) (S : hw_St) (z : Nat) (b : Int32) : hw_M l yH_oneIf cH_oneIf 1 (some .int) ({ frames := 0, cells := 0, slots := 0, locals := 0 }) B [.int b] nb S z (hw_p (.inl (some (.int (if b = 0 then 0 else 1)))) nb S z) := by
  refine hw_M.of (by decide) (Nat.le_of_ble_eq_true rfl) ?_
  intro X fr hl hR G hr hnm
  refine hr_iload_n G dH_oneIf_0 rfl rfl ?_
  refine hr_if_eq (tgt := 8) G dH_oneIf_1 (by decide) (fun h1 => ?_) (fun h1 => ?_)
  · skip
    refine hr_iconst (v := 0) G dH_oneIf_8 (by decide) ?_
    exact hr_iret G hr (fun _ h => h) dH_oneIf_9 ⟨by simp only [h1, ↓reduceIte, eq_self, true_or, or_true, or_self], rfl, (by first | rfl | simp only [h1, ↓reduceIte, eq_self, true_or, or_true, or_self]), rfl⟩
  · skip
    refine hr_iconst (v := 1) G dH_oneIf_4 (by decide) ?_
    refine hr_goto (tgt := 9) G dH_oneIf_5 (by decide) ?_
    exact hr_iret G hr (fun _ h => h) dH_oneIf_9 ⟨by simp only [h1, ↓reduceIte, eq_self, true_or, or_true, or_self], rfl, (by first | rfl | simp only [h1, ↓reduceIte, eq_self, true_or, or_true, or_self]), rfl⟩
set_option maxRecDepth 100000 in
set_option maxHeartbeats 1000000 in
theorem m_T_clear (l : Launch) (B : hw_B) (nb : Nat → Nat) (S : hw_St) (z : Nat) (t : Nat) (hA : hw_al nb) (hF : hw_Fx S) (ht : t < 18) : hw_M l yT_clear cT_clear 1 none ({ frames := 0, cells := 0, slots := 0, locals := 0 }) B [.ref (hw_a B 4 t)] nb S z (hw_p (.inl none) nb (hw_sv S 4 t 1 0) z) := by
  refine hw_M.of (by decide) (Nat.le_of_ble_eq_true rfl) ?_
  intro X fr hl hR G hr hnm
  refine hr_aload_n G dT_clear_0 rfl rfl ?_
  refine hr_iconst (v := 0) G dT_clear_1 (by decide) ?_
  refine hr_put (x := 0) G fT_15 (hA.lt ht) rfl (rfl) rfl dT_clear_2 ?_
  exact hr_vret G hr (fun _ h => h) dT_clear_5 hw_pi
def tx_add (S : hw_St) (t n : Nat) (c : Int32) : hw_St := if n < hw_ln 5 t then hw_sv (hw_sv S 5 t n c) 4 t 1 (nI (n + 1)) else S
set_option maxRecDepth 100000 in
set_option maxHeartbeats 1000000 in
theorem m_T_add (l : Launch) (B : hw_B) (nb : Nat → Nat) (S : hw_St) (z : Nat) (t : Nat) (hA : hw_al nb) (hF : hw_Fx S) (ht : t < 18) (n : Nat) (c : Int32) (hn : S 4 t 1 = nI n) (hle : n ≤ hw_ln 5 t) (hc : narrow .char (.int c) = .int c) : hw_M l yT_add cT_add 2 none ({ frames := 0, cells := 0, slots := 0, locals := 0 }) B [.ref (hw_a B 4 t), .int c] nb S z (hw_p (.inl none) nb (tx_add S t n c) z) := by
  refine hw_M.of (by decide) (Nat.le_of_ble_eq_true rfl) ?_
  intro X fr hl hR G hr hnm
  refine hr_aload_n G dT_add_0 rfl rfl ?_
  refine hr_get (v := .int (S 4 t 1)) G fT_15 (hA.lt ht) rfl dT_add_1 ?_
  refine hr_aload_n G dT_add_4 rfl rfl ?_
  refine hr_get (v := .ref (hw_a B 5 t)) G fT_9 (hA.lt ht) (hw_rfx hF ht rfl (by omega)) dT_add_5 ?_
  refine hr_alen (v := (nI (hw_ln 5 t))) G rfl (by decide) (hA.lt ht) rfl dT_add_8 ?_
  refine hr_icmp_ge (tgt := 32) G dT_add_9 (by decide) (fun h9 => ?_) (fun h9 => ?_)
  · skip
    exact hr_vret G hr (fun _ h => h) dT_add_32 ⟨rfl, rfl, by rw [hn] at h9; rw [tx_add, if_neg (Nat.not_lt.mpr ((nI_leI (hw_ln_lt 5 t) (Nat.lt_of_le_of_lt hle (hw_ln_lt 5 t))).mp h9))], rfl⟩
  · skip
    have hlt : n < hw_ln 5 t := by
      rw [hn] at h9
      exact Nat.not_le.mp (fun q => h9 ((nI_leI (hw_ln_lt 5 t) (Nat.lt_of_le_of_lt hle (hw_ln_lt 5 t))).mpr q))
    refine hr_aload_n G dT_add_12 rfl rfl ?_
    refine hr_get (v := .ref (hw_a B 5 t)) G fT_9 (hA.lt ht) (hw_rfx hF ht rfl (by omega)) dT_add_13 ?_
    refine hr_aload_n G dT_add_16 rfl rfl ?_
    refine hr_get (v := .int (S 4 t 1)) G fT_15 (hA.lt ht) rfl dT_add_17 ?_
    refine hr_iload_n G dT_add_20 rfl rfl ?_
    refine hr_cast (n := n) (y := c) G rfl (by decide) rfl (hA.lt ht) (by first | exact hn | (rw [show (S 4 t 1) = nI n from (by first | exact hn | simp [hw_sv, hn])])) hlt rfl (hc) dT_add_21 ?_
    refine hr_aload_n G dT_add_22 rfl rfl ?_
    refine hr_dup G dT_add_23 rfl ?_
    refine hr_get (v := .int ((hw_sv S 5 t n c) 4 t 1)) G fT_15 (hA.lt ht) rfl dT_add_24 ?_
    refine hr_iconst (v := 1) G dT_add_27 (by decide) ?_
    refine hr_iadd G dT_add_28 ?_
    refine hr_put (x := (((hw_sv S 5 t n c) 4 t 1) + 1)) G fT_15 (hA.lt ht) rfl (rfl) rfl dT_add_29 ?_
    exact hr_vret G hr (fun _ h => h) dT_add_32 ⟨rfl, rfl, by rw [tx_add, if_pos hlt]; congr 1; simp [hw_sv, hn, nI_succ], rfl⟩
set_option maxRecDepth 100000 in
set_option maxHeartbeats 1000000 in
theorem m_U_setWord (l : Launch) (B : hw_B) (nb : Nat → Nat) (S : hw_St) (z : Nat) (u : Nat) (hA : hw_al nb) (hu : u < 4) (x : Int32) : hw_M l yU_setWord cU_setWord 2 none ({ frames := 0, cells := 0, slots := 0, locals := 0 }) B [.ref (hw_a B 2 u), .int x] nb S z (hw_p (.inl none) nb (hw_sv (hw_sv (hw_sv S 2 u 3 x) 2 u 2 1) 2 u 4 0) z) := by
  refine hw_M.of (by decide) (Nat.le_of_ble_eq_true rfl) ?_
  intro X fr hl hR G hr hnm
  refine hr_aload_n G dU_setWord_0 rfl rfl ?_
  refine hr_iload_n G dU_setWord_1 rfl rfl ?_
  refine hr_put (x := x) G fU_24 (hA.lt hu) rfl (rfl) rfl dU_setWord_2 ?_
  refine hr_aload_n G dU_setWord_5 rfl rfl ?_
  refine hr_iconst (v := 1) G dU_setWord_6 (by decide) ?_
  refine hr_put (x := 1) G fU_27 (hA.lt hu) rfl (rfl) rfl dU_setWord_7 ?_
  refine hr_aload_n G dU_setWord_10 rfl rfl ?_
  refine hr_iconst (v := 0) G dU_setWord_11 (by decide) ?_
  refine hr_put (x := 0) G fU_31 (hA.lt hu) rfl (rfl) rfl dU_setWord_12 ?_
  exact hr_vret G hr (fun _ h => h) dU_setWord_15 hw_pi
def us_att (S : hw_St) (u : Nat) (x t : Int32) : Int32 × hw_St := if S 2 u 2 = 0 then (-2, S) else if S 2 u 4 < 3 then (if x = S 2 u 3 then (0, hw_sv S 2 u 4 0) else (-2, hw_sv (hw_sv S 2 u 4 (S 2 u 4 + 1)) 2 u 5 t)) else (-3, S)
set_option maxRecDepth 100000 in
set_option maxHeartbeats 1000000 in
theorem m_U_attempt (l : Launch) (B : hw_B) (nb : Nat → Nat) (S : hw_St) (z : Nat) (u : Nat) (hA : hw_al nb) (hu : u < 4) (x t : Int32) : hw_M l yU_attempt cU_attempt 3 (some .int) ({ frames := 0, cells := 0, slots := 0, locals := 0 }) B [.ref (hw_a B 2 u), .int x, .int t] nb S z (hw_p (.inl (some (.int (us_att S u x t).1))) nb (us_att S u x t).2 z) := by
  refine hw_M.of (by decide) (Nat.le_of_ble_eq_true rfl) ?_
  intro X fr hl hR G hr hnm
  refine hr_aload_n G dU_attempt_0 rfl rfl ?_
  refine hr_get (v := .int (S 2 u 2)) G fU_27 (hA.lt hu) rfl dU_attempt_1 ?_
  refine hr_if_ne (tgt := 10) G dU_attempt_4 (by decide) (fun h4 => ?_) (fun h4 => ?_)
  · skip
    refine hr_aload_n G dU_attempt_10 rfl rfl ?_
    refine hr_get (v := .int (S 2 u 4)) G fU_31 (hA.lt hu) rfl dU_attempt_11 ?_
    refine hr_iconst (v := 3) G dU_attempt_14 (by decide) ?_
    refine hr_icmp_lt (tgt := 21) G dU_attempt_15 (by decide) (fun h15 => ?_) (fun h15 => ?_)
    · skip
      refine hr_iload_n G dU_attempt_21 rfl rfl ?_
      refine hr_aload_n G dU_attempt_22 rfl rfl ?_
      refine hr_get (v := .int (S 2 u 3)) G fU_24 (hA.lt hu) rfl dU_attempt_23 ?_
      refine hr_icmp_ne (tgt := 36) G dU_attempt_26 (by decide) (fun h26 => ?_) (fun h26 => ?_)
      · skip
        refine hr_aload_n G dU_attempt_36 rfl rfl ?_
        refine hr_dup G dU_attempt_37 rfl ?_
        refine hr_get (v := .int (S 2 u 4)) G fU_31 (hA.lt hu) rfl dU_attempt_38 ?_
        refine hr_iconst (v := 1) G dU_attempt_41 (by decide) ?_
        refine hr_iadd G dU_attempt_42 ?_
        refine hr_put (x := ((S 2 u 4) + 1)) G fU_31 (hA.lt hu) rfl (rfl) rfl dU_attempt_43 ?_
        refine hr_aload_n G dU_attempt_46 rfl rfl ?_
        refine hr_iload_n G dU_attempt_47 rfl rfl ?_
        refine hr_put (x := t) G fU_34 (hA.lt hu) rfl (rfl) rfl dU_attempt_48 ?_
        refine hr_bipush (v := -2) G dU_attempt_51 (by decide) ?_
        exact hr_iret G hr (fun _ h => h) dU_attempt_53 ⟨by simp only [us_att, h4, h15, h26, ↓reduceIte, eq_self, true_or, or_true, or_self], rfl, by simp only [us_att, h4, h15, h26, ↓reduceIte, eq_self, true_or, or_true, or_self], rfl⟩
      · skip
        refine hr_aload_n G dU_attempt_29 rfl rfl ?_
        refine hr_iconst (v := 0) G dU_attempt_30 (by decide) ?_
        refine hr_put (x := 0) G fU_31 (hA.lt hu) rfl (rfl) rfl dU_attempt_31 ?_
        refine hr_iconst (v := 0) G dU_attempt_34 (by decide) ?_
        exact hr_iret G hr (fun _ h => h) dU_attempt_35 ⟨by simp only [us_att, h4, h15, h26, ↓reduceIte, eq_self, true_or, or_true, or_self], rfl, by simp only [us_att, h4, h15, h26, ↓reduceIte, eq_self, true_or, or_true, or_self], rfl⟩
    · skip
      refine hr_bipush (v := -3) G dU_attempt_18 (by decide) ?_
      exact hr_iret G hr (fun _ h => h) dU_attempt_20 ⟨by simp only [us_att, h4, h15, ↓reduceIte, eq_self, true_or, or_true, or_self], rfl, (by first | rfl | simp only [us_att, h4, h15, ↓reduceIte, eq_self, true_or, or_true, or_self]), rfl⟩
  · skip
    refine hr_bipush (v := -2) G dU_attempt_7 (by decide) ?_
    exact hr_iret G hr (fun _ h => h) dU_attempt_9 ⟨by simp only [us_att, h4, ↓reduceIte, eq_self, true_or, or_true, or_self], rfl, (by first | rfl | simp only [us_att, h4, ↓reduceIte, eq_self, true_or, or_true, or_self]), rfl⟩
def us_unl (S : hw_St) (u : Nat) (t : Int32) : hw_St := if S 2 u 4 < 3 then S else if t - S 2 u 5 ≤ 20 then S else hw_sv S 2 u 4 0
set_option maxRecDepth 100000 in
set_option maxHeartbeats 1000000 in
theorem m_U_unlockIfDue (l : Launch) (B : hw_B) (nb : Nat → Nat) (S : hw_St) (z : Nat) (u : Nat) (hA : hw_al nb) (hu : u < 4) (t : Int32) : hw_M l yU_unlockIfDue cU_unlockIfDue 2 none ({ frames := 0, cells := 0, slots := 0, locals := 0 }) B [.ref (hw_a B 2 u), .int t] nb S z (hw_p (.inl none) nb (us_unl S u t) z) := by
  refine hw_M.of (by decide) (Nat.le_of_ble_eq_true rfl) ?_
  intro X fr hl hR G hr hnm
  refine hr_aload_n G dU_unlockIfDue_0 rfl rfl ?_
  refine hr_get (v := .int (S 2 u 4)) G fU_31 (hA.lt hu) rfl dU_unlockIfDue_1 ?_
  refine hr_iconst (v := 3) G dU_unlockIfDue_4 (by decide) ?_
  refine hr_icmp_lt (tgt := 24) G dU_unlockIfDue_5 (by decide) (fun h5 => ?_) (fun h5 => ?_)
  · skip
    exact hr_vret G hr (fun _ h => h) dU_unlockIfDue_24 ⟨rfl, rfl, by simp only [us_unl, h5, ↓reduceIte, eq_self, true_or, or_true, or_self], rfl⟩
  · skip
    refine hr_iload_n G dU_unlockIfDue_8 rfl rfl ?_
    refine hr_aload_n G dU_unlockIfDue_9 rfl rfl ?_
    refine hr_get (v := .int (S 2 u 5)) G fU_34 (hA.lt hu) rfl dU_unlockIfDue_10 ?_
    refine hr_isub G dU_unlockIfDue_13 ?_
    refine hr_bipush (v := 20) G dU_unlockIfDue_14 (by decide) ?_
    refine hr_icmp_le (tgt := 24) G dU_unlockIfDue_16 (by decide) (fun h16 => ?_) (fun h16 => ?_)
    · skip
      exact hr_vret G hr (fun _ h => h) dU_unlockIfDue_24 ⟨rfl, rfl, by simp only [us_unl, h5, h16, ↓reduceIte, eq_self, true_or, or_true, or_self], rfl⟩
    · skip
      refine hr_aload_n G dU_unlockIfDue_19 rfl rfl ?_
      refine hr_iconst (v := 0) G dU_unlockIfDue_20 (by decide) ?_
      refine hr_put (x := 0) G fU_31 (hA.lt hu) rfl (rfl) rfl dU_unlockIfDue_21 ?_
      exact hr_vret G hr (fun _ h => h) dU_unlockIfDue_24 ⟨rfl, rfl, by simp only [us_unl, h5, h16, ↓reduceIte, eq_self, true_or, or_true, or_self], rfl⟩
def ss_over (S : hw_St) (i : Nat) (t : Int32) : Int32 := if (if S 9 i 3 = 0 then (30 : Int32) else 150) < t - S 9 i 4 then 1 else if t - S 9 i 2 ≤ (if S 9 i 3 = 0 then (120 : Int32) else 400) then 0 else 1
set_option maxRecDepth 100000 in
set_option maxHeartbeats 1000000 in
theorem m_S_isOver (l : Launch) (B : hw_B) (nb : Nat → Nat) (S : hw_St) (z : Nat) (i : Nat) (t : Int32) (hi : i < nb 9) : hw_M l yS_isOver cS_isOver 4 (some .boolean) ({ frames := 0, cells := 0, slots := 0, locals := 0 }) B [.ref (hw_a B 9 i), .int t] nb S z (hw_p (.inl (some (.int (ss_over S i t)))) nb S z) := by
  refine hw_M.of (by decide) (Nat.le_of_ble_eq_true rfl) ?_
  intro X fr hl hR G hr hnm
  refine hr_aload_n G dS_isOver_0 rfl rfl ?_
  refine hr_get (v := .int (S 9 i 3)) G fS_24 hi rfl dS_isOver_1 ?_
  refine hr_if_eq (tgt := 13) G dS_isOver_4 (by decide) (fun h4 => ?_) (fun h4 => ?_)
  · skip
    refine hr_bipush (v := 30) G dS_isOver_13 (by decide) ?_
    refine hr_istore_n (i := 2) G dS_isOver_15 rfl (by decide) ?_
    refine hr_aload_n G dS_isOver_16 rfl rfl ?_
    refine hr_get (v := .int (S 9 i 3)) G fS_24 hi rfl dS_isOver_17 ?_
    refine hr_if_eq (tgt := 29) G dS_isOver_20 (by decide) (fun _ => ?_) (fun h => absurd h4 h)
    refine hr_bipush (v := 120) G dS_isOver_29 (by decide) ?_
    refine hr_istore_n (i := 3) G dS_isOver_31 rfl (by decide) ?_
    refine hr_iload_n G dS_isOver_32 rfl rfl ?_
    refine hr_aload_n G dS_isOver_33 rfl rfl ?_
    refine hr_get (v := .int (S 9 i 4)) G fS_27 hi rfl dS_isOver_34 ?_
    refine hr_isub G dS_isOver_37 ?_
    refine hr_iload_n G dS_isOver_38 rfl rfl ?_
    refine hr_icmp_gt (tgt := 52) G dS_isOver_39 (by decide) (fun h39 => ?_) (fun h39 => ?_)
    · skip
      refine hr_iconst (v := 1) G dS_isOver_52 (by decide) ?_
      refine hr_goto (tgt := 57) G dS_isOver_53 (by decide) ?_
      exact hr_zret G hr (rfl) (fun _ h => h) dS_isOver_57 ⟨by simp only [ss_over, h4, h39, ↓reduceIte, eq_self, true_or, or_true, or_self], rfl, (by first | rfl | simp only [ss_over, h4, h39, ↓reduceIte, eq_self, true_or, or_true, or_self]), rfl⟩
    · skip
      refine hr_iload_n G dS_isOver_42 rfl rfl ?_
      refine hr_aload_n G dS_isOver_43 rfl rfl ?_
      refine hr_get (v := .int (S 9 i 2)) G fS_21 hi rfl dS_isOver_44 ?_
      refine hr_isub G dS_isOver_47 ?_
      refine hr_iload_n G dS_isOver_48 rfl rfl ?_
      refine hr_icmp_le (tgt := 56) G dS_isOver_49 (by decide) (fun h49 => ?_) (fun h49 => ?_)
      · skip
        refine hr_iconst (v := 0) G dS_isOver_56 (by decide) ?_
        exact hr_zret G hr (rfl) (fun _ h => h) dS_isOver_57 ⟨by simp only [ss_over, h4, h39, h49, ↓reduceIte, eq_self, true_or, or_true, or_self], rfl, (by first | rfl | simp only [ss_over, h4, h39, h49, ↓reduceIte, eq_self, true_or, or_true, or_self]), rfl⟩
      · skip
        refine hr_iconst (v := 1) G dS_isOver_52 (by decide) ?_
        refine hr_goto (tgt := 57) G dS_isOver_53 (by decide) ?_
        exact hr_zret G hr (rfl) (fun _ h => h) dS_isOver_57 ⟨by simp only [ss_over, h4, h39, h49, ↓reduceIte, eq_self, true_or, or_true, or_self], rfl, (by first | rfl | simp only [ss_over, h4, h39, h49, ↓reduceIte, eq_self, true_or, or_true, or_self]), rfl⟩
  · skip
    refine hr_sipush (v := 150) G dS_isOver_7 (by decide) ?_
    refine hr_goto (tgt := 15) G dS_isOver_10 (by decide) ?_
    refine hr_istore_n (i := 2) G dS_isOver_15 rfl (by decide) ?_
    refine hr_aload_n G dS_isOver_16 rfl rfl ?_
    refine hr_get (v := .int (S 9 i 3)) G fS_24 hi rfl dS_isOver_17 ?_
    refine hr_if_eq (tgt := 29) G dS_isOver_20 (by decide) (fun h => absurd h h4) (fun _ => ?_)
    refine hr_sipush (v := 400) G dS_isOver_23 (by decide) ?_
    refine hr_goto (tgt := 31) G dS_isOver_26 (by decide) ?_
    refine hr_istore_n (i := 3) G dS_isOver_31 rfl (by decide) ?_
    refine hr_iload_n G dS_isOver_32 rfl rfl ?_
    refine hr_aload_n G dS_isOver_33 rfl rfl ?_
    refine hr_get (v := .int (S 9 i 4)) G fS_27 hi rfl dS_isOver_34 ?_
    refine hr_isub G dS_isOver_37 ?_
    refine hr_iload_n G dS_isOver_38 rfl rfl ?_
    refine hr_icmp_gt (tgt := 52) G dS_isOver_39 (by decide) (fun h39 => ?_) (fun h39 => ?_)
    · skip
      refine hr_iconst (v := 1) G dS_isOver_52 (by decide) ?_
      refine hr_goto (tgt := 57) G dS_isOver_53 (by decide) ?_
      exact hr_zret G hr (rfl) (fun _ h => h) dS_isOver_57 ⟨by simp only [ss_over, h4, h39, ↓reduceIte, eq_self, true_or, or_true, or_self], rfl, (by first | rfl | simp only [ss_over, h4, h39, ↓reduceIte, eq_self, true_or, or_true, or_self]), rfl⟩
    · skip
      refine hr_iload_n G dS_isOver_42 rfl rfl ?_
      refine hr_aload_n G dS_isOver_43 rfl rfl ?_
      refine hr_get (v := .int (S 9 i 2)) G fS_21 hi rfl dS_isOver_44 ?_
      refine hr_isub G dS_isOver_47 ?_
      refine hr_iload_n G dS_isOver_48 rfl rfl ?_
      refine hr_icmp_le (tgt := 56) G dS_isOver_49 (by decide) (fun h49 => ?_) (fun h49 => ?_)
      · skip
        refine hr_iconst (v := 0) G dS_isOver_56 (by decide) ?_
        exact hr_zret G hr (rfl) (fun _ h => h) dS_isOver_57 ⟨by simp only [ss_over, h4, h39, h49, ↓reduceIte, eq_self, true_or, or_true, or_self], rfl, (by first | rfl | simp only [ss_over, h4, h39, h49, ↓reduceIte, eq_self, true_or, or_true, or_self]), rfl⟩
      · skip
        refine hr_iconst (v := 1) G dS_isOver_52 (by decide) ?_
        refine hr_goto (tgt := 57) G dS_isOver_53 (by decide) ?_
        exact hr_zret G hr (rfl) (fun _ h => h) dS_isOver_57 ⟨by simp only [ss_over, h4, h39, h49, ↓reduceIte, eq_self, true_or, or_true, or_self], rfl, (by first | rfl | simp only [ss_over, h4, h39, h49, ↓reduceIte, eq_self, true_or, or_true, or_self]), rfl⟩
def tk_good (S : hw_St) (i s : Nat) (t : Int32) : Int32 := if S 11 i 8 = 0 then (if S 9 s 5 = 0 then 0 else if (if S 11 i 1 = 2 then (60 : Int32) else 10) < t - S 11 i 4 then 0 else 1) else 0
set_option maxRecDepth 100000 in
set_option maxHeartbeats 1000000 in
theorem m_K_isGood (l : Launch) (B : hw_B) (nb : Nat → Nat) (S : hw_St) (z : Nat) (i s : Nat) (hi : i < nb 11) (hs : s < nb 9) (h31 : s < 2 ^ 31) (hS : S 11 i 2 = nI s) (t : Int32) : hw_M l yK_isGood cK_isGood 3 (some .boolean) ({ frames := 0, cells := 0, slots := 0, locals := 0 }) B [.ref (hw_a B 11 i), .int t] nb S z (hw_p (.inl (some (.int (tk_good S i s t)))) nb S z) := by
  refine hw_M.of (by decide) (Nat.le_of_ble_eq_true rfl) ?_
  intro X fr hl hR G hr hnm
  refine hr_aload_n G dK_isGood_0 rfl rfl ?_
  refine hr_get (v := .int (S 11 i 1)) G fK_15 hi rfl dK_isGood_1 ?_
  refine hr_iconst (v := 2) G dK_isGood_4 (by decide) ?_
  refine hr_icmp_ne (tgt := 13) G dK_isGood_5 (by decide) (fun h5 => ?_) (fun h5 => ?_)
  · skip
    refine hr_bipush (v := 10) G dK_isGood_13 (by decide) ?_
    refine hr_istore_n (i := 2) G dK_isGood_15 rfl (by decide) ?_
    refine hr_aload_n G dK_isGood_16 rfl rfl ?_
    refine hr_get (v := .int (S 11 i 8)) G fK_35 hi rfl dK_isGood_17 ?_
    refine hr_if_ne (tgt := 47) G dK_isGood_20 (by decide) (fun h20 => ?_) (fun h20 => ?_)
    · skip
      refine hr_iconst (v := 0) G dK_isGood_47 (by decide) ?_
      exact hr_zret G hr (rfl) (fun _ h => h) dK_isGood_48 ⟨by simp only [tk_good, h5, h20, ↓reduceIte, eq_self, true_or, or_true, or_self], rfl, (by first | rfl | simp only [tk_good, h5, h20, ↓reduceIte, eq_self, true_or, or_true, or_self]), rfl⟩
    · skip
      refine hr_aload_n G dK_isGood_23 rfl rfl ?_
      refine hr_get (v := .ref (hw_a B 9 s)) G fK_18 hi (hw_rdy hS (by omega)) dK_isGood_24 ?_
      refine hr_get (v := .int (S 9 s 5)) G fK_39 hs rfl dK_isGood_27 ?_
      refine hr_if_eq (tgt := 47) G dK_isGood_30 (by decide) (fun h30 => ?_) (fun h30 => ?_)
      · skip
        refine hr_iconst (v := 0) G dK_isGood_47 (by decide) ?_
        exact hr_zret G hr (rfl) (fun _ h => h) dK_isGood_48 ⟨by simp only [tk_good, h5, h20, h30, ↓reduceIte, eq_self, true_or, or_true, or_self], rfl, (by first | rfl | simp only [tk_good, h5, h20, h30, ↓reduceIte, eq_self, true_or, or_true, or_self]), rfl⟩
      · skip
        refine hr_iload_n G dK_isGood_33 rfl rfl ?_
        refine hr_aload_n G dK_isGood_34 rfl rfl ?_
        refine hr_get (v := .int (S 11 i 4)) G fK_25 hi rfl dK_isGood_35 ?_
        refine hr_isub G dK_isGood_38 ?_
        refine hr_iload_n G dK_isGood_39 rfl rfl ?_
        refine hr_icmp_gt (tgt := 47) G dK_isGood_40 (by decide) (fun h40 => ?_) (fun h40 => ?_)
        · skip
          refine hr_iconst (v := 0) G dK_isGood_47 (by decide) ?_
          exact hr_zret G hr (rfl) (fun _ h => h) dK_isGood_48 ⟨by simp only [tk_good, h5, h20, h30, h40, ↓reduceIte, eq_self, true_or, or_true, or_self], rfl, (by first | rfl | simp only [tk_good, h5, h20, h30, h40, ↓reduceIte, eq_self, true_or, or_true, or_self]), rfl⟩
        · skip
          refine hr_iconst (v := 1) G dK_isGood_43 (by decide) ?_
          refine hr_goto (tgt := 48) G dK_isGood_44 (by decide) ?_
          exact hr_zret G hr (rfl) (fun _ h => h) dK_isGood_48 ⟨by simp only [tk_good, h5, h20, h30, h40, ↓reduceIte, eq_self, true_or, or_true, or_self], rfl, (by first | rfl | simp only [tk_good, h5, h20, h30, h40, ↓reduceIte, eq_self, true_or, or_true, or_self]), rfl⟩
  · skip
    refine hr_bipush (v := 60) G dK_isGood_8 (by decide) ?_
    refine hr_goto (tgt := 15) G dK_isGood_10 (by decide) ?_
    refine hr_istore_n (i := 2) G dK_isGood_15 rfl (by decide) ?_
    refine hr_aload_n G dK_isGood_16 rfl rfl ?_
    refine hr_get (v := .int (S 11 i 8)) G fK_35 hi rfl dK_isGood_17 ?_
    refine hr_if_ne (tgt := 47) G dK_isGood_20 (by decide) (fun h20 => ?_) (fun h20 => ?_)
    · skip
      refine hr_iconst (v := 0) G dK_isGood_47 (by decide) ?_
      exact hr_zret G hr (rfl) (fun _ h => h) dK_isGood_48 ⟨by simp only [tk_good, h5, h20, ↓reduceIte, eq_self, true_or, or_true, or_self], rfl, (by first | rfl | simp only [tk_good, h5, h20, ↓reduceIte, eq_self, true_or, or_true, or_self]), rfl⟩
    · skip
      refine hr_aload_n G dK_isGood_23 rfl rfl ?_
      refine hr_get (v := .ref (hw_a B 9 s)) G fK_18 hi (hw_rdy hS (by omega)) dK_isGood_24 ?_
      refine hr_get (v := .int (S 9 s 5)) G fK_39 hs rfl dK_isGood_27 ?_
      refine hr_if_eq (tgt := 47) G dK_isGood_30 (by decide) (fun h30 => ?_) (fun h30 => ?_)
      · skip
        refine hr_iconst (v := 0) G dK_isGood_47 (by decide) ?_
        exact hr_zret G hr (rfl) (fun _ h => h) dK_isGood_48 ⟨by simp only [tk_good, h5, h20, h30, ↓reduceIte, eq_self, true_or, or_true, or_self], rfl, (by first | rfl | simp only [tk_good, h5, h20, h30, ↓reduceIte, eq_self, true_or, or_true, or_self]), rfl⟩
      · skip
        refine hr_iload_n G dK_isGood_33 rfl rfl ?_
        refine hr_aload_n G dK_isGood_34 rfl rfl ?_
        refine hr_get (v := .int (S 11 i 4)) G fK_25 hi rfl dK_isGood_35 ?_
        refine hr_isub G dK_isGood_38 ?_
        refine hr_iload_n G dK_isGood_39 rfl rfl ?_
        refine hr_icmp_gt (tgt := 47) G dK_isGood_40 (by decide) (fun h40 => ?_) (fun h40 => ?_)
        · skip
          refine hr_iconst (v := 0) G dK_isGood_47 (by decide) ?_
          exact hr_zret G hr (rfl) (fun _ h => h) dK_isGood_48 ⟨by simp only [tk_good, h5, h20, h30, h40, ↓reduceIte, eq_self, true_or, or_true, or_self], rfl, (by first | rfl | simp only [tk_good, h5, h20, h30, h40, ↓reduceIte, eq_self, true_or, or_true, or_self]), rfl⟩
        · skip
          refine hr_iconst (v := 1) G dK_isGood_43 (by decide) ?_
          refine hr_goto (tgt := 48) G dK_isGood_44 (by decide) ?_
          exact hr_zret G hr (rfl) (fun _ h => h) dK_isGood_48 ⟨by simp only [tk_good, h5, h20, h30, h40, ↓reduceIte, eq_self, true_or, or_true, or_self], rfl, (by first | rfl | simp only [tk_good, h5, h20, h30, h40, ↓reduceIte, eq_self, true_or, or_true, or_self]), rfl⟩
end
section
/-! Finding and asking. -/
set_option maxRecDepth 100000 in
set_option maxHeartbeats 1000000 in
theorem m_H_isService_y (l : Launch) (B : hw_B) (nb : Nat → Nat) (S : hw_St) (z : Nat) (s : Nat) (hs : s < 6) : hw_M l yH_isService cH_isService 1 (some .boolean) ({ frames := 0, cells := 0, slots := 0, locals := 0 }) B [.int (nI s)] nb S z (hw_p (.inl (some (.int 1))) nb S z) := by
  refine hw_M.of (by decide) (Nat.le_of_ble_eq_true rfl) ?_
  intro X fr hl hR G hr hnm
  refine hr_iload_n G dH_isService_0 rfl rfl ?_
  refine hr_if_lt (tgt := 14) G dH_isService_1 (by decide) (fun h => absurd h (nI_pos (by omega))) (fun _ => ?_)
  refine hr_iload_n G dH_isService_4 rfl rfl ?_
  refine hr_bipush (v := 6) G dH_isService_5 (by decide) ?_
  refine hr_icmp_ge (tgt := 14) G dH_isService_7 (by decide) (fun h => absurd h (show ¬ (6 : Int32) ≤ nI s from nI_ge (b := 6) hs (by decide))) (fun _ => ?_)
  refine hr_iconst (v := 1) G dH_isService_10 (by decide) ?_
  refine hr_goto (tgt := 15) G dH_isService_11 (by decide) ?_
  exact hr_zret G hr (rfl) (fun _ h => h) dH_isService_15 hw_pi
set_option maxRecDepth 100000 in
set_option maxHeartbeats 1000000 in
theorem m_H_isService_n (l : Launch) (B : hw_B) (nb : Nat → Nat) (S : hw_St) (z : Nat) (x : Int32) (hx : x < 0 ∨ 6 ≤ x) : hw_M l yH_isService cH_isService 1 (some .boolean) ({ frames := 0, cells := 0, slots := 0, locals := 0 }) B [.int x] nb S z (hw_p (.inl (some (.int 0))) nb S z) := by
  refine hw_M.of (by decide) (Nat.le_of_ble_eq_true rfl) ?_
  intro X fr hl hR G hr hnm
  refine hr_iload_n G dH_isService_0 rfl rfl ?_
  refine hr_if_lt (tgt := 14) G dH_isService_1 (by decide) (fun h1 => ?_) (fun h1 => ?_)
  · skip
    refine hr_iconst (v := 0) G dH_isService_14 (by decide) ?_
    exact hr_zret G hr (rfl) (fun _ h => h) dH_isService_15 hw_pi
  · skip
    refine hr_iload_n G dH_isService_4 rfl rfl ?_
    refine hr_bipush (v := 6) G dH_isService_5 (by decide) ?_
    refine hr_icmp_ge (tgt := 14) G dH_isService_7 (by decide) (fun _ => ?_) (fun h => absurd (hx.resolve_left h1) h)
    refine hr_iconst (v := 0) G dH_isService_14 (by decide) ?_
    exact hr_zret G hr (rfl) (fun _ h => h) dH_isService_15 hw_pi
set_option maxRecDepth 100000 in
set_option maxHeartbeats 1000000 in
theorem m_H_findUser_y (l : Launch) (B : hw_B) (nb : Nat → Nat) (S : hw_St) (z : Nat) (hA : hw_al nb) (hF : hw_Fx S) (u : Nat) (hu : u < 4) : hw_M l yH_findUser cH_findUser 2 (some (.object "TicketHouse$User")) ({ frames := 0, cells := 0, slots := 0, locals := 0 }) B [.ref (hw_a B 0 0), .int (nI u)] nb S z (hw_p (.inl (some (.ref (hw_a B 2 u)))) nb S z) := by
  refine hw_M.of (by decide) (Nat.le_of_ble_eq_true rfl) ?_
  intro X fr hl hR G hr hnm
  refine hr_iload_n G dH_findUser_0 rfl rfl ?_
  refine hr_if_lt (tgt := 18) G dH_findUser_1 (by decide) (fun h => absurd h (nI_pos (by omega))) (fun _ => ?_)
  refine hr_iload_n G dH_findUser_4 rfl rfl ?_
  refine hr_iconst (v := 4) G dH_findUser_5 (by decide) ?_
  refine hr_icmp_ge (tgt := 18) G dH_findUser_6 (by decide) (fun h => absurd h (show ¬ (4 : Int32) ≤ nI u from nI_ge (b := 4) hu (by decide))) (fun _ => ?_)
  refine hr_aload_n G dH_findUser_9 rfl rfl ?_
  refine hr_get (v := .ref (hw_a B 1 0)) G fH_11 (hA.lt (show 0 < hw_n0 0 by decide)) (hw_rfx hF (by decide) rfl (by decide)) dH_findUser_10 ?_
  refine hr_iload_n G dH_findUser_13 rfl rfl ?_
  refine hr_aald (n := u) (v := .ref (hw_a B 2 u)) G rfl (by decide) rfl (hA.lt (show 0 < hw_n0 1 by decide)) rfl hu (hw_rfx hF (by decide) rfl (by omega)) dH_findUser_14 ?_
  refine hr_goto (tgt := 19) G dH_findUser_15 (by decide) ?_
  exact hr_aret G hr (Or.inr ⟨_, rfl⟩) (fun _ h => h) dH_findUser_19 hw_pi
set_option maxRecDepth 100000 in
set_option maxHeartbeats 1000000 in
theorem m_H_findUser_n (l : Launch) (B : hw_B) (nb : Nat → Nat) (S : hw_St) (z : Nat) (x : Int32) (hx : x < 0 ∨ 4 ≤ x) : hw_M l yH_findUser cH_findUser 2 (some (.object "TicketHouse$User")) ({ frames := 0, cells := 0, slots := 0, locals := 0 }) B [.ref (hw_a B 0 0), .int x] nb S z (hw_p (.inl (some .null)) nb S z) := by
  refine hw_M.of (by decide) (Nat.le_of_ble_eq_true rfl) ?_
  intro X fr hl hR G hr hnm
  refine hr_iload_n G dH_findUser_0 rfl rfl ?_
  refine hr_if_lt (tgt := 18) G dH_findUser_1 (by decide) (fun h1 => ?_) (fun h1 => ?_)
  · skip
    refine hr_null G dH_findUser_18 ?_
    exact hr_aret G hr (Or.inl rfl) (fun _ h => h) dH_findUser_19 hw_pi
  · skip
    refine hr_iload_n G dH_findUser_4 rfl rfl ?_
    refine hr_iconst (v := 4) G dH_findUser_5 (by decide) ?_
    refine hr_icmp_ge (tgt := 18) G dH_findUser_6 (by decide) (fun _ => ?_) (fun h => absurd (hx.resolve_left h1) h)
    refine hr_null G dH_findUser_18 ?_
    exact hr_aret G hr (Or.inl rfl) (fun _ h => h) dH_findUser_19 hw_pi
set_option maxRecDepth 100000 in
set_option maxHeartbeats 1000000 in
theorem m_H_findSession_y (l : Launch) (B : hw_B) (nb : Nat → Nat) (S : hw_St) (z : Nat) (hA : hw_al nb) (hF : hw_Fx S) (i n : Nat) (hc : S 0 0 8 = nI n) (hn : n ≤ 40) (hi : i < n) (he : S 8 0 i = nI i) : hw_M l yH_findSession cH_findSession 2 (some (.object "TicketHouse$Session")) ({ frames := 0, cells := 0, slots := 0, locals := 0 }) B [.ref (hw_a B 0 0), .int (nI i)] nb S z (hw_p (.inl (some (.ref (hw_a B 9 i)))) nb S z) := by
  refine hw_M.of (by decide) (Nat.le_of_ble_eq_true rfl) ?_
  intro X fr hl hR G hr hnm
  refine hr_iload_n G dH_findSession_0 rfl rfl ?_
  refine hr_if_lt (tgt := 21) G dH_findSession_1 (by decide) (fun h => absurd h (nI_pos (by omega))) (fun _ => ?_)
  refine hr_iload_n G dH_findSession_4 rfl rfl ?_
  refine hr_aload_n G dH_findSession_5 rfl rfl ?_
  refine hr_get (v := .int (S 0 0 8)) G fH_101 (hA.lt (show 0 < hw_n0 0 by decide)) rfl dH_findSession_6 ?_
  refine hr_icmp_ge (tgt := 21) G dH_findSession_9 (by decide) (fun h => absurd h (show ¬ (S 0 0 8) ≤ nI i from by rw [hc]; exact nI_ge hi (by omega))) (fun _ => ?_)
  refine hr_aload_n G dH_findSession_12 rfl rfl ?_
  refine hr_get (v := .ref (hw_a B 8 0)) G fH_25 (hA.lt (show 0 < hw_n0 0 by decide)) (hw_rfx hF (by decide) rfl (by decide)) dH_findSession_13 ?_
  refine hr_iload_n G dH_findSession_16 rfl rfl ?_
  refine hr_aald (n := i) (v := .ref (hw_a B 9 i)) G rfl (by decide) rfl (hA.lt (show 0 < hw_n0 8 by decide)) rfl (show i < 40 by omega) (hw_rdy he (by omega)) dH_findSession_17 ?_
  refine hr_goto (tgt := 22) G dH_findSession_18 (by decide) ?_
  exact hr_aret G hr (Or.inr ⟨_, rfl⟩) (fun _ h => h) dH_findSession_22 hw_pi
set_option maxRecDepth 100000 in
set_option maxHeartbeats 1000000 in
theorem m_H_findSession_n (l : Launch) (B : hw_B) (nb : Nat → Nat) (S : hw_St) (z : Nat) (hA : hw_al nb) (hF : hw_Fx S) (x : Int32) (hx : x < 0 ∨ (S 0 0 8) ≤ x) : hw_M l yH_findSession cH_findSession 2 (some (.object "TicketHouse$Session")) ({ frames := 0, cells := 0, slots := 0, locals := 0 }) B [.ref (hw_a B 0 0), .int x] nb S z (hw_p (.inl (some .null)) nb S z) := by
  refine hw_M.of (by decide) (Nat.le_of_ble_eq_true rfl) ?_
  intro X fr hl hR G hr hnm
  refine hr_iload_n G dH_findSession_0 rfl rfl ?_
  refine hr_if_lt (tgt := 21) G dH_findSession_1 (by decide) (fun h1 => ?_) (fun h1 => ?_)
  · skip
    refine hr_null G dH_findSession_21 ?_
    exact hr_aret G hr (Or.inl rfl) (fun _ h => h) dH_findSession_22 hw_pi
  · skip
    refine hr_iload_n G dH_findSession_4 rfl rfl ?_
    refine hr_aload_n G dH_findSession_5 rfl rfl ?_
    refine hr_get (v := .int (S 0 0 8)) G fH_101 (hA.lt (show 0 < hw_n0 0 by decide)) rfl dH_findSession_6 ?_
    refine hr_icmp_ge (tgt := 21) G dH_findSession_9 (by decide) (fun _ => ?_) (fun h => absurd (hx.resolve_left h1) h)
    refine hr_null G dH_findSession_21 ?_
    exact hr_aret G hr (Or.inl rfl) (fun _ h => h) dH_findSession_22 hw_pi
set_option maxRecDepth 100000 in
set_option maxHeartbeats 1000000 in
theorem m_H_findTicket_y (l : Launch) (B : hw_B) (nb : Nat → Nat) (S : hw_St) (z : Nat) (hA : hw_al nb) (hF : hw_Fx S) (i n : Nat) (hc : S 0 0 9 = nI n) (hn : n ≤ 150) (hi : i < n) (he : S 10 0 i = nI i) : hw_M l yH_findTicket cH_findTicket 2 (some (.object "TicketHouse$Ticket")) ({ frames := 0, cells := 0, slots := 0, locals := 0 }) B [.ref (hw_a B 0 0), .int (nI i)] nb S z (hw_p (.inl (some (.ref (hw_a B 11 i)))) nb S z) := by
  refine hw_M.of (by decide) (Nat.le_of_ble_eq_true rfl) ?_
  intro X fr hl hR G hr hnm
  refine hr_iload_n G dH_findTicket_0 rfl rfl ?_
  refine hr_if_lt (tgt := 21) G dH_findTicket_1 (by decide) (fun h => absurd h (nI_pos (by omega))) (fun _ => ?_)
  refine hr_iload_n G dH_findTicket_4 rfl rfl ?_
  refine hr_aload_n G dH_findTicket_5 rfl rfl ?_
  refine hr_get (v := .int (S 0 0 9)) G fH_125 (hA.lt (show 0 < hw_n0 0 by decide)) rfl dH_findTicket_6 ?_
  refine hr_icmp_ge (tgt := 21) G dH_findTicket_9 (by decide) (fun h => absurd h (show ¬ (S 0 0 9) ≤ nI i from by rw [hc]; exact nI_ge hi (by omega))) (fun _ => ?_)
  refine hr_aload_n G dH_findTicket_12 rfl rfl ?_
  refine hr_get (v := .ref (hw_a B 10 0)) G fH_31 (hA.lt (show 0 < hw_n0 0 by decide)) (hw_rfx hF (by decide) rfl (by decide)) dH_findTicket_13 ?_
  refine hr_iload_n G dH_findTicket_16 rfl rfl ?_
  refine hr_aald (n := i) (v := .ref (hw_a B 11 i)) G rfl (by decide) rfl (hA.lt (show 0 < hw_n0 10 by decide)) rfl (show i < 150 by omega) (hw_rdy he (by omega)) dH_findTicket_17 ?_
  refine hr_goto (tgt := 22) G dH_findTicket_18 (by decide) ?_
  exact hr_aret G hr (Or.inr ⟨_, rfl⟩) (fun _ h => h) dH_findTicket_22 hw_pi
set_option maxRecDepth 100000 in
set_option maxHeartbeats 1000000 in
theorem m_H_findTicket_n (l : Launch) (B : hw_B) (nb : Nat → Nat) (S : hw_St) (z : Nat) (hA : hw_al nb) (hF : hw_Fx S) (x : Int32) (hx : x < 0 ∨ (S 0 0 9) ≤ x) : hw_M l yH_findTicket cH_findTicket 2 (some (.object "TicketHouse$Ticket")) ({ frames := 0, cells := 0, slots := 0, locals := 0 }) B [.ref (hw_a B 0 0), .int x] nb S z (hw_p (.inl (some .null)) nb S z) := by
  refine hw_M.of (by decide) (Nat.le_of_ble_eq_true rfl) ?_
  intro X fr hl hR G hr hnm
  refine hr_iload_n G dH_findTicket_0 rfl rfl ?_
  refine hr_if_lt (tgt := 21) G dH_findTicket_1 (by decide) (fun h1 => ?_) (fun h1 => ?_)
  · skip
    refine hr_null G dH_findTicket_21 ?_
    exact hr_aret G hr (Or.inl rfl) (fun _ h => h) dH_findTicket_22 hw_pi
  · skip
    refine hr_iload_n G dH_findTicket_4 rfl rfl ?_
    refine hr_aload_n G dH_findTicket_5 rfl rfl ?_
    refine hr_get (v := .int (S 0 0 9)) G fH_125 (hA.lt (show 0 < hw_n0 0 by decide)) rfl dH_findTicket_6 ?_
    refine hr_icmp_ge (tgt := 21) G dH_findTicket_9 (by decide) (fun _ => ?_) (fun h => absurd (hx.resolve_left h1) h)
    refine hr_null G dH_findTicket_21 ?_
    exact hr_aret G hr (Or.inl rfl) (fun _ h => h) dH_findTicket_22 hw_pi
def hs_fl (S : hw_St) (s : Nat) (f : Int32) : Int32 := if S 6 0 s &&& f = 0 then 0 else 1
set_option maxRecDepth 100000 in
set_option maxHeartbeats 1000000 in
theorem m_H_hasFlag_y (l : Launch) (B : hw_B) (nb : Nat → Nat) (S : hw_St) (z : Nat) (hA : hw_al nb) (hF : hw_Fx S) (s : Nat) (f : Int32) (hs : s < 6) : hw_M l yH_hasFlag cH_hasFlag 3 (some .boolean) ({ frames := 1, cells := 0, slots := 0, locals := 20 }) B [.ref (hw_a B 0 0), .int (nI s), .int f] nb S z (hw_p (.inl (some (.int (hs_fl S s f)))) nb S z) := by
  refine hw_M.of (by decide) (Nat.le_of_ble_eq_true rfl) ?_
  intro X fr hl hR G hr hnm
  refine hr_iload_n G dH_hasFlag_0 rfl rfl ?_
  refine hr_callSs G kH_93 sH_isService (m_H_isService_y _ _ _ _ _ s hs) rfl rfl (Nat.le_of_ble_eq_true rfl) ⟨by rw [hR]; decide, by rw [hR]; decide⟩ ⟨by rw [hR]; decide, by rw [hR]; decide⟩ dH_hasFlag_1 ?_
  refine hr_if_eq (tgt := 22) G dH_hasFlag_4 (by decide) (fun h => absurd h (by decide)) (fun _ => ?_)
  refine hr_aload_n G dH_hasFlag_7 rfl rfl ?_
  refine hr_get (v := .ref (hw_a B 6 0)) G fH_15 (hA.lt (show 0 < hw_n0 0 by decide)) (hw_rfx hF (by decide) rfl (by decide)) dH_hasFlag_8 ?_
  refine hr_iload_n G dH_hasFlag_11 rfl rfl ?_
  refine hr_iald (n := s) (v := .int (S 6 0 s)) G rfl (by decide) rfl (hA.lt (show 0 < hw_n0 6 by decide)) rfl hs rfl dH_hasFlag_12 ?_
  refine hr_iload_n G dH_hasFlag_13 rfl rfl ?_
  refine hr_iand G dH_hasFlag_14 ?_
  refine hr_if_eq (tgt := 22) G dH_hasFlag_15 (by decide) (fun h15 => ?_) (fun h15 => ?_)
  · skip
    refine hr_iconst (v := 0) G dH_hasFlag_22 (by decide) ?_
    exact hr_zret G hr (rfl) (fun _ h => h) dH_hasFlag_23 ⟨by simp only [hs_fl, h15, ↓reduceIte, eq_self, true_or, or_true, or_self], rfl, (by first | rfl | simp only [hs_fl, h15, ↓reduceIte, eq_self, true_or, or_true, or_self]), rfl⟩
  · skip
    refine hr_iconst (v := 1) G dH_hasFlag_18 (by decide) ?_
    refine hr_goto (tgt := 23) G dH_hasFlag_19 (by decide) ?_
    exact hr_zret G hr (rfl) (fun _ h => h) dH_hasFlag_23 ⟨by simp only [hs_fl, h15, ↓reduceIte, eq_self, true_or, or_true, or_self], rfl, (by first | rfl | simp only [hs_fl, h15, ↓reduceIte, eq_self, true_or, or_true, or_self]), rfl⟩
set_option maxRecDepth 100000 in
set_option maxHeartbeats 1000000 in
theorem m_H_hasFlag_n (l : Launch) (B : hw_B) (nb : Nat → Nat) (S : hw_St) (z : Nat) (x : Int32) (f : Int32) (hx : x < 0 ∨ 6 ≤ x) : hw_M l yH_hasFlag cH_hasFlag 3 (some .boolean) ({ frames := 1, cells := 0, slots := 0, locals := 20 }) B [.ref (hw_a B 0 0), .int x, .int f] nb S z (hw_p (.inl (some (.int 0))) nb S z) := by
  refine hw_M.of (by decide) (Nat.le_of_ble_eq_true rfl) ?_
  intro X fr hl hR G hr hnm
  refine hr_iload_n G dH_hasFlag_0 rfl rfl ?_
  refine hr_callSs G kH_93 sH_isService (m_H_isService_n _ _ _ _ _ x hx) rfl rfl (Nat.le_of_ble_eq_true rfl) ⟨by rw [hR]; decide, by rw [hR]; decide⟩ ⟨by rw [hR]; decide, by rw [hR]; decide⟩ dH_hasFlag_1 ?_
  refine hr_if_eq (tgt := 22) G dH_hasFlag_4 (by decide) (fun _ => ?_) (fun h => absurd (by decide) h)
  refine hr_iconst (v := 0) G dH_hasFlag_22 (by decide) ?_
  exact hr_zret G hr (rfl) (fun _ h => h) dH_hasFlag_23 hw_pi
theorem hs_fl01 (S : hw_St) (s : Nat) (f : Int32) : narrow .boolean (.int (hs_fl S s f)) = .int (hs_fl S s f) := by
  unfold hs_fl; split <;> rfl
set_option maxRecDepth 100000 in
set_option maxHeartbeats 1000000 in
theorem m_H_isEnabled_y (l : Launch) (B : hw_B) (nb : Nat → Nat) (S : hw_St) (z : Nat) (hA : hw_al nb) (hF : hw_Fx S) (s : Nat) (hs : s < 6) : hw_M l yH_isEnabled cH_isEnabled 2 (some .boolean) ({ frames := 2, cells := 0, slots := 0, locals := 42 }) B [.ref (hw_a B 0 0), .int (nI s)] nb S z (hw_p (.inl (some (.int (hs_fl S s 1)))) nb S z) := by
  refine hw_M.of (by decide) (Nat.le_of_ble_eq_true rfl) ?_
  intro X fr hl hR G hr hnm
  refine hr_aload_n G dH_isEnabled_0 rfl rfl ?_
  refine hr_iload_n G dH_isEnabled_1 rfl rfl ?_
  refine hr_iconst (v := 1) G dH_isEnabled_2 (by decide) ?_
  refine hr_callVs (k := 0) (i := 0) G rfl rfl (hA.lt (show 0 < hw_n0 0 by decide)) kH_247 iH_hasFlag vH_hasFlag (m_H_hasFlag_y _ _ _ _ _ hA hF s 1 hs) rfl rfl (Nat.le_of_ble_eq_true rfl) ⟨by rw [hR]; decide, by rw [hR]; decide⟩ ⟨by rw [hR]; decide, by rw [hR]; decide⟩ dH_isEnabled_3 ?_
  exact hr_zret G hr (hs_fl01 S s 1) (fun _ h => h) dH_isEnabled_6 hw_pi
set_option maxRecDepth 100000 in
set_option maxHeartbeats 1000000 in
theorem m_H_isEnabled_n (l : Launch) (B : hw_B) (nb : Nat → Nat) (S : hw_St) (z : Nat) (hA : hw_al nb) (x : Int32) (hx : x < 0 ∨ 6 ≤ x) : hw_M l yH_isEnabled cH_isEnabled 2 (some .boolean) ({ frames := 2, cells := 0, slots := 0, locals := 42 }) B [.ref (hw_a B 0 0), .int x] nb S z (hw_p (.inl (some (.int 0))) nb S z) := by
  refine hw_M.of (by decide) (Nat.le_of_ble_eq_true rfl) ?_
  intro X fr hl hR G hr hnm
  refine hr_aload_n G dH_isEnabled_0 rfl rfl ?_
  refine hr_iload_n G dH_isEnabled_1 rfl rfl ?_
  refine hr_iconst (v := 1) G dH_isEnabled_2 (by decide) ?_
  refine hr_callVs (k := 0) (i := 0) G rfl rfl (hA.lt (show 0 < hw_n0 0 by decide)) kH_247 iH_hasFlag vH_hasFlag (m_H_hasFlag_n _ _ _ _ _ x 1 hx) rfl rfl (Nat.le_of_ble_eq_true rfl) ⟨by rw [hR]; decide, by rw [hR]; decide⟩ ⟨by rw [hR]; decide, by rw [hR]; decide⟩ dH_isEnabled_3 ?_
  exact hr_zret G hr (rfl) (fun _ h => h) dH_isEnabled_6 hw_pi
end
section
/-! The invariant; the calls that only read. -/
def ib_b (x : Int32) : Prop := x = 0 ∨ x = 1

def tx_ok (S : hw_St) (t : Nat) : Prop := (∃ n, n ≤ hw_ln 5 t ∧ S 4 t 1 = nI n) ∧ ∀ j, ib_c (S 5 t j)
def se_ok (S : hw_St) (i : Nat) : Prop := S 8 0 i = nI i ∧ S 9 i 0 = nI i ∧ (∃ u, u < 4 ∧ S 9 i 1 = nI u) ∧ ib_b (S 9 i 3) ∧ ib_b (S 9 i 5)
def ti_ok (nb : Nat → Nat) (S : hw_St) (i : Nat) : Prop := S 10 0 i = nI i ∧ S 11 i 0 = nI i ∧ (∃ s, s < nb 9 ∧ S 11 i 2 = nI s) ∧ (S 11 i 5 = -1 ∨ ∃ p, p < i ∧ S 11 i 5 = nI p) ∧ ib_b (S 11 i 7) ∧ ib_b (S 11 i 8) ∧ (∃ w, w < 6 ∧ S 11 i 3 = nI w) ∧ (S 11 i 1 = 0 ∨ S 11 i 1 = 1 ∨ S 11 i 1 = 2)
def us_ok (S : hw_St) (u : Nat) : Prop := ib_b (S 2 u 2) ∧ ∃ n, n ≤ 3 ∧ S 2 u 4 = nI n
/-- what holds of the house between calls -/
def ic (nb : Nat → Nat) (S : hw_St) : Prop := hw_al nb ∧ hw_Fx S ∧ (nb 9 ≤ 40 ∧ S 0 0 8 = nI (nb 9)) ∧ (nb 11 ≤ 150 ∧ S 0 0 9 = nI (nb 11)) ∧ (∃ m, m ≤ 150 ∧ S 0 0 10 = nI m) ∧ (∀ t, t < 18 → tx_ok S t) ∧ (∀ i, i < nb 9 → se_ok S i) ∧ (∀ i, i < nb 11 → ti_ok nb S i) ∧ (∀ u, u < 4 → us_ok S u) ∧ (S 7 0 0 = 0 ∧ ∀ k, k < 6 → ib_b (S 7 0 k))
theorem ib_sw {x : Int32} (n : Nat) (hn : n < 2 ^ 31) (h : ∀ k, k ≤ n → ¬ x = nI k) : x.toInt < 0 ∨ (n : Int) < x.toInt := by
  by_cases h0 : x < 0
  · exact Or.inl (by simpa using Int32.lt_iff_toInt_lt.mp h0)
  · obtain ⟨j, hj, rfl⟩ := nI_of h0
    rw [nI_toInt hj]
    exact Or.inr (by have : ¬ j ≤ n := fun q => h j q rfl; omega)
theorem ib_sw4 {x : Int32} (h0 : ¬ x = 0) (h1 : ¬ x = 1) (h2 : ¬ x = 2) (h3 : ¬ x = 3) (h4 : ¬ x = 4) : x.toInt < 0 ∨ (4 : Int) < x.toInt := ib_sw 4 (by decide) fun k hk => by
  rcases (show k = 0 ∨ k = 1 ∨ k = 2 ∨ k = 3 ∨ k = 4 by omega) with rfl | rfl | rfl | rfl | rfl <;> assumption
theorem ib_sw7 {x : Int32} (h0 : ¬ x = 0) (h1 : ¬ x = 1) (h2 : ¬ x = 2) (h3 : ¬ x = 3) (h4 : ¬ x = 4) (h5 : ¬ x = 5) (h6 : ¬ x = 6) (h7 : ¬ x = 7) : x.toInt < 0 ∨ (7 : Int) < x.toInt := ib_sw 7 (by decide) fun k hk => by
  rcases (show k = 0 ∨ k = 1 ∨ k = 2 ∨ k = 3 ∨ k = 4 ∨ k = 5 ∨ k = 6 ∨ k = 7 by omega) with rfl | rfl | rfl | rfl | rfl | rfl | rfl | rfl <;> assumption
def ib_o (x : Int32) : Int32 := if x = 0 then 0 else 1
set_option maxRecDepth 100000 in
set_option maxHeartbeats 1000000 in
theorem m_T_at (l : Launch) (B : hw_B) (nb : Nat → Nat) (S : hw_St) (z : Nat) (t : Nat) (hA : hw_al nb) (hF : hw_Fx S) (ht : t < 18) (x : Int32) (hI : tx_ok S t) : hw_M l yT_at cT_at 2 (some .int) ({ frames := 0, cells := 0, slots := 0, locals := 0 }) B [.ref (hw_a B 4 t), .int x] nb S z ((fun oc nb' S' z' => (∃ r, oc = .inl (some (.int r))) ∧ nb' = nb ∧ S' = S ∧ z' = z)) := by
  refine hw_M.of (by decide) (Nat.le_of_ble_eq_true rfl) ?_
  intro X fr hl hR G hr hnm
  obtain ⟨⟨n, hle, hn⟩, -⟩ := hI
  refine hr_iload_n G dT_at_0 rfl rfl ?_
  refine hr_if_lt (tgt := 21) G dT_at_1 (by decide) (fun h1 => ?_) (fun h1 => ?_)
  · skip
    refine hr_iconst (v := -1) G dT_at_21 (by decide) ?_
    exact hr_iret G hr (fun _ h => h) dT_at_22 ⟨⟨_, rfl⟩, rfl, rfl, rfl⟩
  · skip
    refine hr_iload_n G dT_at_4 rfl rfl ?_
    refine hr_aload_n G dT_at_5 rfl rfl ?_
    refine hr_get (v := .int (S 4 t 1)) G fT_15 (hA.lt ht) rfl dT_at_6 ?_
    refine hr_icmp_ge (tgt := 21) G dT_at_9 (by decide) (fun h9 => ?_) (fun h9 => ?_)
    · skip
      refine hr_iconst (v := -1) G dT_at_21 (by decide) ?_
      exact hr_iret G hr (fun _ h => h) dT_at_22 ⟨⟨_, rfl⟩, rfl, rfl, rfl⟩
    · skip
      rw [hn] at h9
      obtain ⟨j, hj, rfl⟩ := nI_of h1
      have hjn : j < n := Nat.not_le.mp fun q => h9 (nI_le q (by omega))
      refine hr_aload_n G dT_at_12 rfl rfl ?_
      refine hr_get (v := .ref (hw_a B 5 t)) G fT_9 (hA.lt ht) (hw_rfx hF ht rfl (by omega)) dT_at_13 ?_
      refine hr_iload_n G dT_at_16 rfl rfl ?_
      refine hr_cald (n := j) (v := .int (S 5 t j)) G rfl (by decide) rfl (hA.lt ht) rfl (by omega) rfl dT_at_17 ?_
      refine hr_goto (tgt := 22) G dT_at_18 (by decide) ?_
      exact hr_iret G hr (fun _ h => h) dT_at_22 ⟨⟨_, rfl⟩, rfl, rfl, rfl⟩

set_option maxRecDepth 100000 in
set_option maxHeartbeats 1000000 in
theorem m_H_wrongTries_y (l : Launch) (B : hw_B) (nb : Nat → Nat) (S : hw_St) (z : Nat) (hA : hw_al nb) (hF : hw_Fx S) (u : Nat) (hu : u < 4) : hw_M l yH_wrongTries cH_wrongTries 3 (some .int) ({ frames := 1, cells := 0, slots := 0, locals := 21 }) B [.ref (hw_a B 0 0), .int (nI u)] nb S z (hw_p (.inl (some (.int (S 2 u 4)))) nb S z) := by
  refine hw_M.of (by decide) (Nat.le_of_ble_eq_true rfl) ?_
  intro X fr hl hR G hr hnm
  refine hr_aload_n G dH_wrongTries_0 rfl rfl ?_
  refine hr_iload_n G dH_wrongTries_1 rfl rfl ?_
  refine hr_callVs (k := 0) (i := 0) G rfl rfl (hA.lt (show 0 < hw_n0 0 by decide)) kH_71 iH_findUser vH_findUser (m_H_findUser_y _ _ _ _ _ hA hF u hu) rfl rfl (Nat.le_of_ble_eq_true rfl) ⟨by rw [hR]; decide, by rw [hR]; decide⟩ ⟨by rw [hR]; decide, by rw [hR]; decide⟩ dH_wrongTries_2 ?_
  refine hr_astore_n (i := 2) G dH_wrongTries_5 rfl (by decide) ?_
  refine hr_aload_n G dH_wrongTries_6 rfl rfl ?_
  refine hr_ifnonnull (tgt := 14) G dH_wrongTries_7 (by decide) ?_
  refine hr_aload_n G dH_wrongTries_14 rfl rfl ?_
  refine hr_get (v := .int (S 2 u 4)) G fH_245 (hA.lt hu) rfl dH_wrongTries_15 ?_
  exact hr_iret G hr (fun _ h => h) dH_wrongTries_18 hw_pi
set_option maxRecDepth 100000 in
set_option maxHeartbeats 1000000 in
theorem m_H_wrongTries_n (l : Launch) (B : hw_B) (nb : Nat → Nat) (S : hw_St) (z : Nat) (hA : hw_al nb) (x : Int32) (hx : x < 0 ∨ 4 ≤ x) : hw_M l yH_wrongTries cH_wrongTries 3 (some .int) ({ frames := 1, cells := 0, slots := 0, locals := 21 }) B [.ref (hw_a B 0 0), .int x] nb S z (hw_p (.inl (some (.int (-1)))) nb S z) := by
  refine hw_M.of (by decide) (Nat.le_of_ble_eq_true rfl) ?_
  intro X fr hl hR G hr hnm
  refine hr_aload_n G dH_wrongTries_0 rfl rfl ?_
  refine hr_iload_n G dH_wrongTries_1 rfl rfl ?_
  refine hr_callVs (k := 0) (i := 0) G rfl rfl (hA.lt (show 0 < hw_n0 0 by decide)) kH_71 iH_findUser vH_findUser (m_H_findUser_n _ _ _ _ _ x hx) rfl rfl (Nat.le_of_ble_eq_true rfl) ⟨by rw [hR]; decide, by rw [hR]; decide⟩ ⟨by rw [hR]; decide, by rw [hR]; decide⟩ dH_wrongTries_2 ?_
  refine hr_astore_nN (i := 2) G dH_wrongTries_5 rfl (by decide) ?_
  refine hr_aload_nN G dH_wrongTries_6 rfl rfl ?_
  refine hr_ifnonnullN G dH_wrongTries_7 ?_
  refine hr_iconst (v := -1) G dH_wrongTries_10 (by decide) ?_
  refine hr_goto (tgt := 18) G dH_wrongTries_11 (by decide) ?_
  exact hr_iret G hr (fun _ h => h) dH_wrongTries_18 hw_pi
set_option maxRecDepth 100000 in
set_option maxHeartbeats 1000000 in
theorem m_H_message (l : Launch) (B : hw_B) (nb : Nat → Nat) (S : hw_St) (z : Nat) (x : Int32) (hI : ic nb S) : hw_M l yH_message cH_message 2 (some .int) ({ frames := 0, cells := 0, slots := 0, locals := 0 }) B [.ref (hw_a B 0 0), .int x] nb S z (hw_p (.inl (some (.int (if x < 0 then -1 else if S 0 0 10 ≤ x then -1 else S 12 0 x.toNatClampNeg)))) nb S z) := by
  refine hw_M.of (by decide) (Nat.le_of_ble_eq_true rfl) ?_
  intro X fr hl hR G hr hnm
  obtain ⟨hA, hF, ⟨hn9, hc9⟩, ⟨hn11, hc11⟩, ⟨nm, hnm1, hnm2⟩, hT, hSe, hTi, hU, hW0, hW⟩ := hI
  refine hr_iload_n G dH_message_0 rfl rfl ?_
  refine hr_if_lt (tgt := 21) G dH_message_1 (by decide) (fun h1 => ?_) (fun h1 => ?_)
  · skip
    refine hr_iconst (v := -1) G dH_message_21 (by decide) ?_
    exact hr_iret G hr (fun _ h => h) dH_message_22 ⟨by simp only [h1, ↓reduceIte, eq_self, true_or, or_true, or_self], rfl, (by first | rfl | simp only [h1, ↓reduceIte, eq_self, true_or, or_true, or_self]), rfl⟩
  · skip
    refine hr_iload_n G dH_message_4 rfl rfl ?_
    refine hr_aload_n G dH_message_5 rfl rfl ?_
    refine hr_get (v := .int (S 0 0 10)) G fH_239 (hA.lt (show 0 < hw_n0 0 by decide)) rfl dH_message_6 ?_
    refine hr_icmp_ge (tgt := 21) G dH_message_9 (by decide) (fun h9 => ?_) (fun h9 => ?_)
    · skip
      refine hr_iconst (v := -1) G dH_message_21 (by decide) ?_
      exact hr_iret G hr (fun _ h => h) dH_message_22 ⟨by simp only [h1, h9, ↓reduceIte, eq_self, true_or, or_true, or_self], rfl, (by first | rfl | simp only [h1, h9, ↓reduceIte, eq_self, true_or, or_true, or_self]), rfl⟩
    · skip
      obtain ⟨j, hj, hxj⟩ := nI_of h1
      have hjn : j < nm := Nat.not_le.mp fun q => h9 (by rw [hnm2, hxj]; exact nI_le q (by omega))
      refine hr_aload_n G dH_message_12 rfl rfl ?_
      refine hr_get (v := .ref (hw_a B 12 0)) G fH_35 (hA.lt (show 0 < hw_n0 0 by decide)) (hw_rfx hF (by decide) rfl (by decide)) dH_message_13 ?_
      refine hr_iload_n G dH_message_16 rfl rfl ?_
      refine hr_iald (n := j) (v := .int (S 12 0 j)) G rfl (by decide) rfl (hA.lt (show 0 < hw_n0 12 by decide)) hxj (show j < 150 by omega) rfl dH_message_17 ?_
      refine hr_goto (tgt := 22) G dH_message_18 (by decide) ?_
      exact hr_iret G hr (fun _ h => h) dH_message_22 ⟨by rw [if_neg h1, if_neg h9, hxj, nI_clamp (by omega)], rfl, rfl, rfl⟩
def hs_house (S : hw_St) (x : Int32) : Int32 := if x = 0 then S 0 0 11 else if x = 1 then S 0 0 8 else if x = 2 then S 0 0 9 else if x = 3 then S 0 0 10 else S 4 16 1
set_option maxRecDepth 100000 in
set_option maxHeartbeats 1000000 in
theorem m_H_house_y (l : Launch) (B : hw_B) (nb : Nat → Nat) (S : hw_St) (z : Nat) (x : Int32) (hI : ic nb S) (hx : x = 0 ∨ x = 1 ∨ x = 2 ∨ x = 3 ∨ x = 4) : hw_M l yH_house cH_house 2 (some .int) ({ frames := 2, cells := 0, slots := 0, locals := 43 }) B [.ref (hw_a B 0 0), .int x] nb S z (hw_p (.inl (some (.int (hs_house S x)))) nb S z) := by
  refine hw_M.of (by decide) (Nat.le_of_ble_eq_true rfl) ?_
  intro X fr hl hR G hr hnm
  obtain ⟨hA, hF, ⟨hn9, hc9⟩, ⟨hn11, hc11⟩, ⟨nm, hnm1, hnm2⟩, hT, hSe, hTi, hU, hW0, hW⟩ := hI
  refine hr_iload_n G dH_house_0 rfl rfl ?_
  by_cases e0 : x = 0
  · subst e0
    refine hr_tblIn (off := 35) (tgt := 36) G dH_house_1 (by decide) (by decide) (by decide) (by decide) ?_
    refine hr_aload_n G dH_house_36 rfl rfl ?_
    refine hr_get (v := .int (S 0 0 11)) G fH_106 (hA.lt (show 0 < hw_n0 0 by decide)) rfl dH_house_37 ?_
    exact hr_iret G hr (fun _ h => h) dH_house_40 ⟨by first | rfl | (simp only [hs_house, ↓reduceIte, eq_self, true_or, or_true, or_self]; done) | (simp only [hs_house, ↓reduceIte, eq_self, true_or, or_true, or_self]; rfl), rfl, rfl, rfl⟩
  by_cases e1 : x = 1
  · subst e1
    refine hr_tblIn (off := 40) (tgt := 41) G dH_house_1 (by decide) (by decide) (by decide) (by decide) ?_
    refine hr_aload_n G dH_house_41 rfl rfl ?_
    refine hr_get (v := .int (S 0 0 8)) G fH_101 (hA.lt (show 0 < hw_n0 0 by decide)) rfl dH_house_42 ?_
    exact hr_iret G hr (fun _ h => h) dH_house_45 ⟨by first | rfl | (simp only [hs_house, e0, ↓reduceIte, eq_self, true_or, or_true, or_self]; done) | (simp only [hs_house, e0, ↓reduceIte, eq_self, true_or, or_true, or_self]; rfl), rfl, rfl, rfl⟩
  by_cases e2 : x = 2
  · subst e2
    refine hr_tblIn (off := 45) (tgt := 46) G dH_house_1 (by decide) (by decide) (by decide) (by decide) ?_
    refine hr_aload_n G dH_house_46 rfl rfl ?_
    refine hr_get (v := .int (S 0 0 9)) G fH_125 (hA.lt (show 0 < hw_n0 0 by decide)) rfl dH_house_47 ?_
    exact hr_iret G hr (fun _ h => h) dH_house_50 ⟨by first | rfl | (simp only [hs_house, e0, e1, ↓reduceIte, eq_self, true_or, or_true, or_self]; done) | (simp only [hs_house, e0, e1, ↓reduceIte, eq_self, true_or, or_true, or_self]; rfl), rfl, rfl, rfl⟩
  by_cases e3 : x = 3
  · subst e3
    refine hr_tblIn (off := 50) (tgt := 51) G dH_house_1 (by decide) (by decide) (by decide) (by decide) ?_
    refine hr_aload_n G dH_house_51 rfl rfl ?_
    refine hr_get (v := .int (S 0 0 10)) G fH_239 (hA.lt (show 0 < hw_n0 0 by decide)) rfl dH_house_52 ?_
    exact hr_iret G hr (fun _ h => h) dH_house_55 ⟨by first | rfl | (simp only [hs_house, e0, e1, e2, ↓reduceIte, eq_self, true_or, or_true, or_self]; done) | (simp only [hs_house, e0, e1, e2, ↓reduceIte, eq_self, true_or, or_true, or_self]; rfl), rfl, rfl, rfl⟩
  by_cases e4 : x = 4
  · subst e4
    refine hr_tblIn (off := 55) (tgt := 56) G dH_house_1 (by decide) (by decide) (by decide) (by decide) ?_
    refine hr_aload_n G dH_house_56 rfl rfl ?_
    refine hr_get (v := .ref (hw_a B 4 16)) G fH_43 (hA.lt (show 0 < hw_n0 0 by decide)) (hw_rfx hF (by decide) rfl (by decide)) dH_house_57 ?_
    refine hr_get (v := .int (S 4 16 1)) G fH_58 (hA.lt (show 16 < hw_n0 4 by decide)) rfl dH_house_60 ?_
    exact hr_iret G hr (fun _ h => h) dH_house_63 ⟨by first | rfl | (simp only [hs_house, e0, e1, e2, e3, ↓reduceIte, eq_self, true_or, or_true, or_self]; done) | (simp only [hs_house, e0, e1, e2, e3, ↓reduceIte, eq_self, true_or, or_true, or_self]; rfl), rfl, rfl, rfl⟩
  refine hr_tblOut (tgt := 64) G dH_house_1 (ib_sw4 e0 e1 e2 e3 e4) (by decide) ?_
  refine hr_aload_n G dH_house_64 rfl rfl ?_
  refine hr_iload_n G dH_house_65 rfl rfl ?_
  refine hr_iconst (v := 5) G dH_house_66 (by decide) ?_
  refine hr_isub G dH_house_67 ?_
  exact absurd hx (by simp only [e0, e1, e2, e3, e4, or_self, not_false_eq_true])
set_option maxRecDepth 100000 in
set_option maxHeartbeats 1000000 in
theorem m_H_house_u (l : Launch) (B : hw_B) (nb : Nat → Nat) (S : hw_St) (z : Nat) (hA : hw_al nb) (hF : hw_Fx S) (x : Int32) (u : Nat) (hu : u < 4) (hx : x - 5 = nI u) (e0 : ¬ x = 0) (e1 : ¬ x = 1) (e2 : ¬ x = 2) (e3 : ¬ x = 3) (e4 : ¬ x = 4) : hw_M l yH_house cH_house 2 (some .int) ({ frames := 2, cells := 0, slots := 0, locals := 43 }) B [.ref (hw_a B 0 0), .int x] nb S z (hw_p (.inl (some (.int (S 2 u 4)))) nb S z) := by
  refine hw_M.of (by decide) (Nat.le_of_ble_eq_true rfl) ?_
  intro X fr hl hR G hr hnm
  refine hr_iload_n G dH_house_0 rfl rfl ?_
  refine hr_tblOut (tgt := 64) G dH_house_1 (ib_sw4 e0 e1 e2 e3 e4) (by decide) ?_
  refine hr_aload_n G dH_house_64 rfl rfl ?_
  refine hr_iload_n G dH_house_65 rfl rfl ?_
  refine hr_iconst (v := 5) G dH_house_66 (by decide) ?_
  refine hr_isub G dH_house_67 ?_
  rw [hx]
  refine hr_callVs (k := 0) (i := 0) G rfl rfl (hA.lt (show 0 < hw_n0 0 by decide)) kH_242 iH_wrongTries vH_wrongTries (m_H_wrongTries_y _ _ _ _ _ hA hF u hu) rfl rfl (Nat.le_of_ble_eq_true rfl) ⟨by rw [hR]; decide, by rw [hR]; decide⟩ ⟨by rw [hR]; decide, by rw [hR]; decide⟩ dH_house_68 ?_
  exact hr_iret G hr (fun _ h => h) dH_house_71 hw_pi
set_option maxRecDepth 100000 in
set_option maxHeartbeats 1000000 in
theorem m_H_house_n (l : Launch) (B : hw_B) (nb : Nat → Nat) (S : hw_St) (z : Nat) (hA : hw_al nb) (x : Int32) (hx : x - 5 < 0 ∨ 4 ≤ x - 5) (e0 : ¬ x = 0) (e1 : ¬ x = 1) (e2 : ¬ x = 2) (e3 : ¬ x = 3) (e4 : ¬ x = 4) : hw_M l yH_house cH_house 2 (some .int) ({ frames := 2, cells := 0, slots := 0, locals := 43 }) B [.ref (hw_a B 0 0), .int x] nb S z (hw_p (.inl (some (.int (-1)))) nb S z) := by
  refine hw_M.of (by decide) (Nat.le_of_ble_eq_true rfl) ?_
  intro X fr hl hR G hr hnm
  refine hr_iload_n G dH_house_0 rfl rfl ?_
  refine hr_tblOut (tgt := 64) G dH_house_1 (ib_sw4 e0 e1 e2 e3 e4) (by decide) ?_
  refine hr_aload_n G dH_house_64 rfl rfl ?_
  refine hr_iload_n G dH_house_65 rfl rfl ?_
  refine hr_iconst (v := 5) G dH_house_66 (by decide) ?_
  refine hr_isub G dH_house_67 ?_
  refine hr_callVs (k := 0) (i := 0) G rfl rfl (hA.lt (show 0 < hw_n0 0 by decide)) kH_242 iH_wrongTries vH_wrongTries (m_H_wrongTries_n _ _ _ _ _ hA (x - 5) hx) rfl rfl (Nat.le_of_ble_eq_true rfl) ⟨by rw [hR]; decide, by rw [hR]; decide⟩ ⟨by rw [hR]; decide, by rw [hR]; decide⟩ dH_house_68 ?_
  exact hr_iret G hr (fun _ h => h) dH_house_71 hw_pi
def hs_ses (S : hw_St) (i : Nat) (x : Int32) : Int32 := if x = 0 then S 9 i 1 else if x = 1 then ib_o (S 9 i 5) else if x = 2 then S 9 i 2 else if x = 3 then S 9 i 4 else if x = 4 then ib_o (S 9 i 3) else -1
set_option maxRecDepth 100000 in
set_option maxHeartbeats 1000000 in
theorem m_H_session_y (l : Launch) (B : hw_B) (nb : Nat → Nat) (S : hw_St) (z : Nat) (i : Nat) (x : Int32) (hI : ic nb S) (hi : i < nb 9) : hw_M l yH_session cH_session 4 (some .int) ({ frames := 1, cells := 0, slots := 0, locals := 21 }) B [.ref (hw_a B 0 0), .int (nI i), .int x] nb S z (hw_p (.inl (some (.int (hs_ses S i x)))) nb S z) := by
  refine hw_M.of (by decide) (Nat.le_of_ble_eq_true rfl) ?_
  intro X fr hl hR G hr hnm
  obtain ⟨hA, hF, ⟨hn9, hc9⟩, ⟨hn11, hc11⟩, ⟨nm, hnm1, hnm2⟩, hT, hSe, hTi, hU, hW0, hW⟩ := hI
  obtain ⟨hs1, hs2, ⟨u, hu, hs4⟩, hs5, hs6⟩ := hSe i hi
  refine hr_aload_n G dH_session_0 rfl rfl ?_
  refine hr_iload_n G dH_session_1 rfl rfl ?_
  refine hr_callVs (k := 0) (i := 0) G rfl rfl (hA.lt (show 0 < hw_n0 0 by decide)) kH_139 iH_findSession vH_findSession (m_H_findSession_y _ _ _ _ _ hA hF i (nb 9) hc9 hn9 hi hs1) rfl rfl (Nat.le_of_ble_eq_true rfl) ⟨by rw [hR]; decide, by rw [hR]; decide⟩ ⟨by rw [hR]; decide, by rw [hR]; decide⟩ dH_session_2 ?_
  refine hr_astore_n (i := 3) G dH_session_5 rfl (by decide) ?_
  refine hr_aload_n G dH_session_6 rfl rfl ?_
  refine hr_ifnonnull (tgt := 12) G dH_session_7 (by decide) ?_
  refine hr_iload_n G dH_session_12 rfl rfl ?_
  by_cases e0 : x = 0
  · subst e0
    refine hr_tblIn (off := 35) (tgt := 48) G dH_session_13 (by decide) (by decide) (by decide) (by decide) ?_
    refine hr_aload_n G dH_session_48 rfl rfl ?_
    refine hr_get (v := .ref (hw_a B 2 u)) G fH_211 hi (hw_rdy hs4 (by omega)) dH_session_49 ?_
    refine hr_get (v := .int (S 2 u 0)) G fH_215 (hA.lt hu) rfl dH_session_52 ?_
    exact hr_iret G hr (fun _ h => h) dH_session_55 ⟨by rw [hF 2 u 0 u hu rfl, ← hs4]; rfl, rfl, rfl, rfl⟩
  by_cases e1 : x = 1
  · subst e1
    refine hr_tblIn (off := 43) (tgt := 56) G dH_session_13 (by decide) (by decide) (by decide) (by decide) ?_
    refine hr_aload_n G dH_session_56 rfl rfl ?_
    refine hr_get (v := .int (S 9 i 5)) G fH_145 hi rfl dH_session_57 ?_
    refine hr_callSs G kH_216 sH_oneIf (m_H_oneIf _ _ _ _ _ (S 9 i 5)) rfl rfl (Nat.le_of_ble_eq_true rfl) ⟨by rw [hR]; decide, by rw [hR]; decide⟩ ⟨by rw [hR]; decide, by rw [hR]; decide⟩ dH_session_60 ?_
    exact hr_iret G hr (fun _ h => h) dH_session_63 ⟨by first | rfl | (simp only [hs_ses, ib_o, e0, ↓reduceIte, eq_self, true_or, or_true, or_self]; done) | (simp only [hs_ses, ib_o, e0, ↓reduceIte, eq_self, true_or, or_true, or_self]; rfl), rfl, rfl, rfl⟩
  by_cases e2 : x = 2
  · subst e2
    refine hr_tblIn (off := 51) (tgt := 64) G dH_session_13 (by decide) (by decide) (by decide) (by decide) ?_
    refine hr_aload_n G dH_session_64 rfl rfl ?_
    refine hr_get (v := .int (S 9 i 2)) G fH_220 hi rfl dH_session_65 ?_
    exact hr_iret G hr (fun _ h => h) dH_session_68 ⟨by first | rfl | (simp only [hs_ses, ib_o, e0, e1, ↓reduceIte, eq_self, true_or, or_true, or_self]; done) | (simp only [hs_ses, ib_o, e0, e1, ↓reduceIte, eq_self, true_or, or_true, or_self]; rfl), rfl, rfl, rfl⟩
  by_cases e3 : x = 3
  · subst e3
    refine hr_tblIn (off := 56) (tgt := 69) G dH_session_13 (by decide) (by decide) (by decide) (by decide) ?_
    refine hr_aload_n G dH_session_69 rfl rfl ?_
    refine hr_get (v := .int (S 9 i 4)) G fH_150 hi rfl dH_session_70 ?_
    exact hr_iret G hr (fun _ h => h) dH_session_73 ⟨by first | rfl | (simp only [hs_ses, ib_o, e0, e1, e2, ↓reduceIte, eq_self, true_or, or_true, or_self]; done) | (simp only [hs_ses, ib_o, e0, e1, e2, ↓reduceIte, eq_self, true_or, or_true, or_self]; rfl), rfl, rfl, rfl⟩
  by_cases e4 : x = 4
  · subst e4
    refine hr_tblIn (off := 61) (tgt := 74) G dH_session_13 (by decide) (by decide) (by decide) (by decide) ?_
    refine hr_aload_n G dH_session_74 rfl rfl ?_
    refine hr_get (v := .int (S 9 i 3)) G fH_223 hi rfl dH_session_75 ?_
    refine hr_callSs G kH_216 sH_oneIf (m_H_oneIf _ _ _ _ _ (S 9 i 3)) rfl rfl (Nat.le_of_ble_eq_true rfl) ⟨by rw [hR]; decide, by rw [hR]; decide⟩ ⟨by rw [hR]; decide, by rw [hR]; decide⟩ dH_session_78 ?_
    exact hr_iret G hr (fun _ h => h) dH_session_81 ⟨by first | rfl | (simp only [hs_ses, ib_o, e0, e1, e2, e3, ↓reduceIte, eq_self, true_or, or_true, or_self]; done) | (simp only [hs_ses, ib_o, e0, e1, e2, e3, ↓reduceIte, eq_self, true_or, or_true, or_self]; rfl), rfl, rfl, rfl⟩
  refine hr_tblOut (tgt := 82) G dH_session_13 (ib_sw4 e0 e1 e2 e3 e4) (by decide) ?_
  refine hr_iconst (v := -1) G dH_session_82 (by decide) ?_
  exact hr_iret G hr (fun _ h => h) dH_session_83 ⟨by first | rfl | (simp only [hs_ses, ib_o, e0, e1, e2, e3, e4, ↓reduceIte, eq_self, true_or, or_true, or_self]; done) | (simp only [hs_ses, ib_o, e0, e1, e2, e3, e4, ↓reduceIte, eq_self, true_or, or_true, or_self]; rfl), rfl, rfl, rfl⟩
set_option maxRecDepth 100000 in
set_option maxHeartbeats 1000000 in
theorem m_H_session_n (l : Launch) (B : hw_B) (nb : Nat → Nat) (S : hw_St) (z : Nat) (hA : hw_al nb) (hF : hw_Fx S) (x y : Int32) (hx : x < 0 ∨ (S 0 0 8) ≤ x) : hw_M l yH_session cH_session 4 (some .int) ({ frames := 1, cells := 0, slots := 0, locals := 21 }) B [.ref (hw_a B 0 0), .int x, .int y] nb S z (hw_p (.inl (some (.int (-1)))) nb S z) := by
  refine hw_M.of (by decide) (Nat.le_of_ble_eq_true rfl) ?_
  intro X fr hl hR G hr hnm
  refine hr_aload_n G dH_session_0 rfl rfl ?_
  refine hr_iload_n G dH_session_1 rfl rfl ?_
  refine hr_callVs (k := 0) (i := 0) G rfl rfl (hA.lt (show 0 < hw_n0 0 by decide)) kH_139 iH_findSession vH_findSession (m_H_findSession_n _ _ _ _ _ hA hF x hx) rfl rfl (Nat.le_of_ble_eq_true rfl) ⟨by rw [hR]; decide, by rw [hR]; decide⟩ ⟨by rw [hR]; decide, by rw [hR]; decide⟩ dH_session_2 ?_
  refine hr_astore_nN (i := 3) G dH_session_5 rfl (by decide) ?_
  refine hr_aload_nN G dH_session_6 rfl rfl ?_
  refine hr_ifnonnullN G dH_session_7 ?_
  refine hr_iconst (v := -1) G dH_session_10 (by decide) ?_
  exact hr_iret G hr (fun _ h => h) dH_session_11 hw_pi
def hs_abt (S : hw_St) (i s : Nat) (x : Int32) : Int32 := if x = 0 then S 11 i 1 else if x = 1 then ib_o (tk_good S i s (S 0 0 11)) else if x = 2 then S 11 i 2 else if x = 3 then S 11 i 3 else if x = 4 then S 11 i 4 else if x = 5 then ib_o (S 11 i 7) else if x = 6 then S 11 i 5 else if x = 7 then S 11 i 6 else -1
set_option maxRecDepth 100000 in
set_option maxHeartbeats 1000000 in
theorem m_H_about_y (l : Launch) (B : hw_B) (nb : Nat → Nat) (S : hw_St) (z : Nat) (i : Nat) (x : Int32) (s : Nat) (hI : ic nb S) (hi : i < nb 11) (hs : s < nb 9) (hts : S 11 i 2 = nI s) : hw_M l yH_about cH_about 4 (some .int) ({ frames := 1, cells := 0, slots := 0, locals := 22 }) B [.ref (hw_a B 0 0), .int (nI i), .int x] nb S z (hw_p (.inl (some (.int (hs_abt S i s x)))) nb S z) := by
  refine hw_M.of (by decide) (Nat.le_of_ble_eq_true rfl) ?_
  intro X fr hl hR G hr hnm
  obtain ⟨hA, hF, ⟨hn9, hc9⟩, ⟨hn11, hc11⟩, ⟨nm, hnm1, hnm2⟩, hT, hSe, hTi, hU, hW0, hW⟩ := hI
  obtain ⟨ht1, ht2, -, ht4, ht5, ht6, ht7, ht8⟩ := hTi i hi
  refine hr_aload_n G dH_about_0 rfl rfl ?_
  refine hr_iload_n G dH_about_1 rfl rfl ?_
  refine hr_callVs (k := 0) (i := 0) G rfl rfl (hA.lt (show 0 < hw_n0 0 by decide)) kH_153 iH_findTicket vH_findTicket (m_H_findTicket_y _ _ _ _ _ hA hF i (nb 11) hc11 hn11 hi ht1) rfl rfl (Nat.le_of_ble_eq_true rfl) ⟨by rw [hR]; decide, by rw [hR]; decide⟩ ⟨by rw [hR]; decide, by rw [hR]; decide⟩ dH_about_2 ?_
  refine hr_astore_n (i := 3) G dH_about_5 rfl (by decide) ?_
  refine hr_aload_n G dH_about_6 rfl rfl ?_
  refine hr_ifnonnull (tgt := 12) G dH_about_7 (by decide) ?_
  refine hr_iload_n G dH_about_12 rfl rfl ?_
  by_cases e0 : x = 0
  · subst e0
    refine hr_tblIn (off := 47) (tgt := 60) G dH_about_13 (by decide) (by decide) (by decide) (by decide) ?_
    refine hr_aload_n G dH_about_60 rfl rfl ?_
    refine hr_get (v := .int (S 11 i 1)) G fH_157 hi rfl dH_about_61 ?_
    exact hr_iret G hr (fun _ h => h) dH_about_64 ⟨by first | rfl | (simp only [hs_abt, ib_o, ↓reduceIte, eq_self, true_or, or_true, or_self]; done) | (simp only [hs_abt, ib_o, ↓reduceIte, eq_self, true_or, or_true, or_self]; rfl), rfl, rfl, rfl⟩
  by_cases e1 : x = 1
  · subst e1
    refine hr_tblIn (off := 52) (tgt := 65) G dH_about_13 (by decide) (by decide) (by decide) (by decide) ?_
    refine hr_aload_n G dH_about_65 rfl rfl ?_
    refine hr_aload_n G dH_about_66 rfl rfl ?_
    refine hr_get (v := .int (S 0 0 11)) G fH_106 (hA.lt (show 0 < hw_n0 0 by decide)) rfl dH_about_67 ?_
    refine hr_callVs (k := 11) (i := i) G rfl rfl hi kH_162 iK_isGood vK_isGood (m_K_isGood _ _ _ _ _ i s hi hs (by omega) hts (S 0 0 11)) rfl rfl (Nat.le_of_ble_eq_true rfl) ⟨by rw [hR]; decide, by rw [hR]; decide⟩ ⟨by rw [hR]; decide, by rw [hR]; decide⟩ dH_about_70 ?_
    refine hr_callSs G kH_216 sH_oneIf (m_H_oneIf _ _ _ _ _ (tk_good S i s (S 0 0 11))) rfl rfl (Nat.le_of_ble_eq_true rfl) ⟨by rw [hR]; decide, by rw [hR]; decide⟩ ⟨by rw [hR]; decide, by rw [hR]; decide⟩ dH_about_73 ?_
    exact hr_iret G hr (fun _ h => h) dH_about_76 ⟨by first | rfl | (simp only [hs_abt, ib_o, e0, ↓reduceIte, eq_self, true_or, or_true, or_self]; done) | (simp only [hs_abt, ib_o, e0, ↓reduceIte, eq_self, true_or, or_true, or_self]; rfl), rfl, rfl, rfl⟩
  by_cases e2 : x = 2
  · subst e2
    refine hr_tblIn (off := 64) (tgt := 77) G dH_about_13 (by decide) (by decide) (by decide) (by decide) ?_
    refine hr_aload_n G dH_about_77 rfl rfl ?_
    refine hr_get (v := .ref (hw_a B 9 s)) G fH_167 hi (hw_rdy hts (by omega)) dH_about_78 ?_
    refine hr_get (v := .int (S 9 s 0)) G fH_117 hs rfl dH_about_81 ?_
    exact hr_iret G hr (fun _ h => h) dH_about_84 ⟨by rw [(hSe s hs).2.1, ← hts]; rfl, rfl, rfl, rfl⟩
  by_cases e3 : x = 3
  · subst e3
    refine hr_tblIn (off := 72) (tgt := 85) G dH_about_13 (by decide) (by decide) (by decide) (by decide) ?_
    refine hr_aload_n G dH_about_85 rfl rfl ?_
    refine hr_get (v := .int (S 11 i 3)) G fH_226 hi rfl dH_about_86 ?_
    exact hr_iret G hr (fun _ h => h) dH_about_89 ⟨by first | rfl | (simp only [hs_abt, ib_o, e0, e1, e2, ↓reduceIte, eq_self, true_or, or_true, or_self]; done) | (simp only [hs_abt, ib_o, e0, e1, e2, ↓reduceIte, eq_self, true_or, or_true, or_self]; rfl), rfl, rfl, rfl⟩
  by_cases e4 : x = 4
  · subst e4
    refine hr_tblIn (off := 77) (tgt := 90) G dH_about_13 (by decide) (by decide) (by decide) (by decide) ?_
    refine hr_aload_n G dH_about_90 rfl rfl ?_
    refine hr_get (v := .int (S 11 i 4)) G fH_229 hi rfl dH_about_91 ?_
    exact hr_iret G hr (fun _ h => h) dH_about_94 ⟨by first | rfl | (simp only [hs_abt, ib_o, e0, e1, e2, e3, ↓reduceIte, eq_self, true_or, or_true, or_self]; done) | (simp only [hs_abt, ib_o, e0, e1, e2, e3, ↓reduceIte, eq_self, true_or, or_true, or_self]; rfl), rfl, rfl, rfl⟩
  by_cases e5 : x = 5
  · subst e5
    refine hr_tblIn (off := 82) (tgt := 95) G dH_about_13 (by decide) (by decide) (by decide) (by decide) ?_
    refine hr_aload_n G dH_about_95 rfl rfl ?_
    refine hr_get (v := .int (S 11 i 7)) G fH_134 hi rfl dH_about_96 ?_
    refine hr_callSs G kH_216 sH_oneIf (m_H_oneIf _ _ _ _ _ (S 11 i 7)) rfl rfl (Nat.le_of_ble_eq_true rfl) ⟨by rw [hR]; decide, by rw [hR]; decide⟩ ⟨by rw [hR]; decide, by rw [hR]; decide⟩ dH_about_99 ?_
    exact hr_iret G hr (fun _ h => h) dH_about_102 ⟨by first | rfl | (simp only [hs_abt, ib_o, e0, e1, e2, e3, e4, ↓reduceIte, eq_self, true_or, or_true, or_self]; done) | (simp only [hs_abt, ib_o, e0, e1, e2, e3, e4, ↓reduceIte, eq_self, true_or, or_true, or_self]; rfl), rfl, rfl, rfl⟩
  by_cases e6 : x = 6
  · subst e6
    refine hr_tblIn (off := 90) (tgt := 103) G dH_about_13 (by decide) (by decide) (by decide) (by decide) ?_
    rcases ht4 with hp | ⟨p, hp1, hp2⟩
    · skip
      refine hr_aload_n G dH_about_103 rfl rfl ?_
      refine hr_get (v := .null) G fH_232 hi (hw_rdz (show S 11 i 5 < 0 by rw [hp]; decide)) dH_about_104 ?_
      refine hr_ifnonnullN G dH_about_107 ?_
      refine hr_iconst (v := -1) G dH_about_110 (by decide) ?_
      refine hr_goto (tgt := 121) G dH_about_111 (by decide) ?_
      exact hr_iret G hr (fun _ h => h) dH_about_121 ⟨by rw [show hs_abt S i s 6 = S 11 i 5 from rfl, hp], rfl, rfl, rfl⟩
    · skip
      refine hr_aload_n G dH_about_103 rfl rfl ?_
      refine hr_get (v := .ref (hw_a B 11 p)) G fH_232 hi (hw_rdy hp2 (by omega)) dH_about_104 ?_
      refine hr_ifnonnull (tgt := 114) G dH_about_107 (by decide) ?_
      refine hr_aload_n G dH_about_114 rfl rfl ?_
      refine hr_get (v := .ref (hw_a B 11 p)) G fH_232 hi (hw_rdy hp2 (by omega)) dH_about_115 ?_
      refine hr_get (v := .int (S 11 p 0)) G fH_138 (show p < nb 11 by omega) rfl dH_about_118 ?_
      exact hr_iret G hr (fun _ h => h) dH_about_121 ⟨by rw [(hTi p (by omega)).2.1, ← hp2]; rfl, rfl, rfl, rfl⟩
  by_cases e7 : x = 7
  · subst e7
    refine hr_tblIn (off := 109) (tgt := 122) G dH_about_13 (by decide) (by decide) (by decide) (by decide) ?_
    refine hr_aload_n G dH_about_122 rfl rfl ?_
    refine hr_get (v := .int (S 11 i 6)) G fH_236 hi rfl dH_about_123 ?_
    exact hr_iret G hr (fun _ h => h) dH_about_126 ⟨by first | rfl | (simp only [hs_abt, ib_o, e0, e1, e2, e3, e4, e5, e6, ↓reduceIte, eq_self, true_or, or_true, or_self]; done) | (simp only [hs_abt, ib_o, e0, e1, e2, e3, e4, e5, e6, ↓reduceIte, eq_self, true_or, or_true, or_self]; rfl), rfl, rfl, rfl⟩
  refine hr_tblOut (tgt := 127) G dH_about_13 (ib_sw7 e0 e1 e2 e3 e4 e5 e6 e7) (by decide) ?_
  refine hr_iconst (v := -1) G dH_about_127 (by decide) ?_
  exact hr_iret G hr (fun _ h => h) dH_about_128 ⟨by first | rfl | (simp only [hs_abt, ib_o, e0, e1, e2, e3, e4, e5, e6, e7, ↓reduceIte, eq_self, true_or, or_true, or_self]; done) | (simp only [hs_abt, ib_o, e0, e1, e2, e3, e4, e5, e6, e7, ↓reduceIte, eq_self, true_or, or_true, or_self]; rfl), rfl, rfl, rfl⟩
set_option maxRecDepth 100000 in
set_option maxHeartbeats 1000000 in
theorem m_H_about_n (l : Launch) (B : hw_B) (nb : Nat → Nat) (S : hw_St) (z : Nat) (hA : hw_al nb) (hF : hw_Fx S) (x y : Int32) (hx : x < 0 ∨ (S 0 0 9) ≤ x) : hw_M l yH_about cH_about 4 (some .int) ({ frames := 1, cells := 0, slots := 0, locals := 22 }) B [.ref (hw_a B 0 0), .int x, .int y] nb S z (hw_p (.inl (some (.int (-1)))) nb S z) := by
  refine hw_M.of (by decide) (Nat.le_of_ble_eq_true rfl) ?_
  intro X fr hl hR G hr hnm
  refine hr_aload_n G dH_about_0 rfl rfl ?_
  refine hr_iload_n G dH_about_1 rfl rfl ?_
  refine hr_callVs (k := 0) (i := 0) G rfl rfl (hA.lt (show 0 < hw_n0 0 by decide)) kH_153 iH_findTicket vH_findTicket (m_H_findTicket_n _ _ _ _ _ hA hF x hx) rfl rfl (Nat.le_of_ble_eq_true rfl) ⟨by rw [hR]; decide, by rw [hR]; decide⟩ ⟨by rw [hR]; decide, by rw [hR]; decide⟩ dH_about_2 ?_
  refine hr_astore_nN (i := 3) G dH_about_5 rfl (by decide) ?_
  refine hr_aload_nN G dH_about_6 rfl rfl ?_
  refine hr_ifnonnullN G dH_about_7 ?_
  refine hr_iconst (v := -1) G dH_about_10 (by decide) ?_
  exact hr_iret G hr (fun _ h => h) dH_about_11 hw_pi
def tk_jrest (S : hw_St) (i s : Nat) (x y t : Int32) : Int32 := if tk_good S i s t = 0 then 3 else if S 11 i 3 = x then (if y &&& 1 = 0 then 0 else if S 11 i 7 = 0 then 5 else 0) else 4
def tk_judge (S : hw_St) (i s : Nat) (x y t : Int32) : Int32 := if S 11 i 1 = 2 then 2 else if S 11 i 1 = 1 then (if y &&& 2 = 0 then 2 else tk_jrest S i s x y t) else tk_jrest S i s x y t
set_option maxRecDepth 100000 in
set_option maxHeartbeats 1000000 in
theorem m_K_judge (l : Launch) (B : hw_B) (nb : Nat → Nat) (S : hw_St) (z : Nat) (i s : Nat) (hi : i < nb 11) (hs : s < nb 9) (h31 : s < 2 ^ 31) (hS : S 11 i 2 = nI s) (x y t : Int32) : hw_M l yK_judge cK_judge 4 (some .int) ({ frames := 1, cells := 0, slots := 0, locals := 22 }) B [.ref (hw_a B 11 i), .int x, .int y, .int t] nb S z (hw_p (.inl (some (.int (tk_judge S i s x y t)))) nb S z) := by
  refine hw_M.of (by decide) (Nat.le_of_ble_eq_true rfl) ?_
  intro X fr hl hR G hr hnm
  refine hr_aload_n G dK_judge_0 rfl rfl ?_
  refine hr_get (v := .int (S 11 i 1)) G fK_15 hi rfl dK_judge_1 ?_
  refine hr_iconst (v := 2) G dK_judge_4 (by decide) ?_
  refine hr_icmp_eq (tgt := 22) G dK_judge_5 (by decide) (fun h5 => ?_) (fun h5 => ?_)
  · skip
    refine hr_iconst (v := 2) G dK_judge_22 (by decide) ?_
    exact hr_iret G hr (fun _ h => h) dK_judge_23 ⟨by first | rfl | (simp only [tk_judge, tk_jrest, h5, ↓reduceIte, eq_self, true_or, or_true, or_self]; done) | (simp only [tk_judge, tk_jrest, h5, ↓reduceIte, eq_self, true_or, or_true, or_self]; rfl), rfl, rfl, rfl⟩
  · skip
    refine hr_aload_n G dK_judge_8 rfl rfl ?_
    refine hr_get (v := .int (S 11 i 1)) G fK_15 hi rfl dK_judge_9 ?_
    refine hr_iconst (v := 1) G dK_judge_12 (by decide) ?_
    refine hr_icmp_ne (tgt := 24) G dK_judge_13 (by decide) (fun h13 => ?_) (fun h13 => ?_)
    · skip
      refine hr_aload_n G dK_judge_24 rfl rfl ?_
      refine hr_iload_n G dK_judge_25 rfl rfl ?_
      refine hr_callVs (k := 11) (i := i) G rfl rfl hi kK_44 iK_isGood vK_isGood (m_K_isGood _ _ _ _ _ i s hi hs h31 hS t) rfl rfl (Nat.le_of_ble_eq_true rfl) ⟨by rw [hR]; decide, by rw [hR]; decide⟩ ⟨by rw [hR]; decide, by rw [hR]; decide⟩ dK_judge_26 ?_
      refine hr_if_ne (tgt := 34) G dK_judge_29 (by decide) (fun h29 => ?_) (fun h29 => ?_)
      · skip
        refine hr_aload_n G dK_judge_34 rfl rfl ?_
        refine hr_get (v := .int (S 11 i 3)) G fK_22 hi rfl dK_judge_35 ?_
        refine hr_iload_n G dK_judge_38 rfl rfl ?_
        refine hr_icmp_eq (tgt := 44) G dK_judge_39 (by decide) (fun h39 => ?_) (fun h39 => ?_)
        · skip
          refine hr_iload_n G dK_judge_44 rfl rfl ?_
          refine hr_iconst (v := 1) G dK_judge_45 (by decide) ?_
          refine hr_iand G dK_judge_46 ?_
          refine hr_if_eq (tgt := 59) G dK_judge_47 (by decide) (fun h47 => ?_) (fun h47 => ?_)
          · skip
            refine hr_iconst (v := 0) G dK_judge_59 (by decide) ?_
            exact hr_iret G hr (fun _ h => h) dK_judge_60 ⟨by first | rfl | (simp only [tk_judge, tk_jrest, h5, h13, h29, h39, h47, ↓reduceIte, eq_self, true_or, or_true, or_self]; done) | (simp only [tk_judge, tk_jrest, h5, h13, h29, h39, h47, ↓reduceIte, eq_self, true_or, or_true, or_self]; rfl), rfl, rfl, rfl⟩
          · skip
            refine hr_aload_n G dK_judge_50 rfl rfl ?_
            refine hr_get (v := .int (S 11 i 7)) G fK_48 hi rfl dK_judge_51 ?_
            refine hr_if_ne (tgt := 59) G dK_judge_54 (by decide) (fun h54 => ?_) (fun h54 => ?_)
            · skip
              refine hr_iconst (v := 0) G dK_judge_59 (by decide) ?_
              exact hr_iret G hr (fun _ h => h) dK_judge_60 ⟨by first | rfl | (simp only [tk_judge, tk_jrest, h5, h13, h29, h39, h47, h54, ↓reduceIte, eq_self, true_or, or_true, or_self]; done) | (simp only [tk_judge, tk_jrest, h5, h13, h29, h39, h47, h54, ↓reduceIte, eq_self, true_or, or_true, or_self]; rfl), rfl, rfl, rfl⟩
            · skip
              refine hr_iconst (v := 5) G dK_judge_57 (by decide) ?_
              exact hr_iret G hr (fun _ h => h) dK_judge_58 ⟨by first | rfl | (simp only [tk_judge, tk_jrest, h5, h13, h29, h39, h47, h54, ↓reduceIte, eq_self, true_or, or_true, or_self]; done) | (simp only [tk_judge, tk_jrest, h5, h13, h29, h39, h47, h54, ↓reduceIte, eq_self, true_or, or_true, or_self]; rfl), rfl, rfl, rfl⟩
        · skip
          refine hr_iconst (v := 4) G dK_judge_42 (by decide) ?_
          exact hr_iret G hr (fun _ h => h) dK_judge_43 ⟨by first | rfl | (simp only [tk_judge, tk_jrest, h5, h13, h29, h39, ↓reduceIte, eq_self, true_or, or_true, or_self]; done) | (simp only [tk_judge, tk_jrest, h5, h13, h29, h39, ↓reduceIte, eq_self, true_or, or_true, or_self]; rfl), rfl, rfl, rfl⟩
      · skip
        refine hr_iconst (v := 3) G dK_judge_32 (by decide) ?_
        exact hr_iret G hr (fun _ h => h) dK_judge_33 ⟨by first | rfl | (simp only [tk_judge, tk_jrest, h5, h13, h29, ↓reduceIte, eq_self, true_or, or_true, or_self]; done) | (simp only [tk_judge, tk_jrest, h5, h13, h29, ↓reduceIte, eq_self, true_or, or_true, or_self]; rfl), rfl, rfl, rfl⟩
    · skip
      refine hr_iload_n G dK_judge_16 rfl rfl ?_
      refine hr_iconst (v := 2) G dK_judge_17 (by decide) ?_
      refine hr_iand G dK_judge_18 ?_
      refine hr_if_ne (tgt := 24) G dK_judge_19 (by decide) (fun h19 => ?_) (fun h19 => ?_)
      · skip
        refine hr_aload_n G dK_judge_24 rfl rfl ?_
        refine hr_iload_n G dK_judge_25 rfl rfl ?_
        refine hr_callVs (k := 11) (i := i) G rfl rfl hi kK_44 iK_isGood vK_isGood (m_K_isGood _ _ _ _ _ i s hi hs h31 hS t) rfl rfl (Nat.le_of_ble_eq_true rfl) ⟨by rw [hR]; decide, by rw [hR]; decide⟩ ⟨by rw [hR]; decide, by rw [hR]; decide⟩ dK_judge_26 ?_
        refine hr_if_ne (tgt := 34) G dK_judge_29 (by decide) (fun h29 => ?_) (fun h29 => ?_)
        · skip
          refine hr_aload_n G dK_judge_34 rfl rfl ?_
          refine hr_get (v := .int (S 11 i 3)) G fK_22 hi rfl dK_judge_35 ?_
          refine hr_iload_n G dK_judge_38 rfl rfl ?_
          refine hr_icmp_eq (tgt := 44) G dK_judge_39 (by decide) (fun h39 => ?_) (fun h39 => ?_)
          · skip
            refine hr_iload_n G dK_judge_44 rfl rfl ?_
            refine hr_iconst (v := 1) G dK_judge_45 (by decide) ?_
            refine hr_iand G dK_judge_46 ?_
            refine hr_if_eq (tgt := 59) G dK_judge_47 (by decide) (fun h47 => ?_) (fun h47 => ?_)
            · skip
              refine hr_iconst (v := 0) G dK_judge_59 (by decide) ?_
              exact hr_iret G hr (fun _ h => h) dK_judge_60 ⟨by first | rfl | (simp only [tk_judge, tk_jrest, h5, h13, h19, h29, h39, h47, ↓reduceIte, eq_self, true_or, or_true, or_self]; done) | (simp only [tk_judge, tk_jrest, h5, h13, h19, h29, h39, h47, ↓reduceIte, eq_self, true_or, or_true, or_self]; rfl), rfl, rfl, rfl⟩
            · skip
              refine hr_aload_n G dK_judge_50 rfl rfl ?_
              refine hr_get (v := .int (S 11 i 7)) G fK_48 hi rfl dK_judge_51 ?_
              refine hr_if_ne (tgt := 59) G dK_judge_54 (by decide) (fun h54 => ?_) (fun h54 => ?_)
              · skip
                refine hr_iconst (v := 0) G dK_judge_59 (by decide) ?_
                exact hr_iret G hr (fun _ h => h) dK_judge_60 ⟨by first | rfl | (simp only [tk_judge, tk_jrest, h5, h13, h19, h29, h39, h47, h54, ↓reduceIte, eq_self, true_or, or_true, or_self]; done) | (simp only [tk_judge, tk_jrest, h5, h13, h19, h29, h39, h47, h54, ↓reduceIte, eq_self, true_or, or_true, or_self]; rfl), rfl, rfl, rfl⟩
              · skip
                refine hr_iconst (v := 5) G dK_judge_57 (by decide) ?_
                exact hr_iret G hr (fun _ h => h) dK_judge_58 ⟨by first | rfl | (simp only [tk_judge, tk_jrest, h5, h13, h19, h29, h39, h47, h54, ↓reduceIte, eq_self, true_or, or_true, or_self]; done) | (simp only [tk_judge, tk_jrest, h5, h13, h19, h29, h39, h47, h54, ↓reduceIte, eq_self, true_or, or_true, or_self]; rfl), rfl, rfl, rfl⟩
          · skip
            refine hr_iconst (v := 4) G dK_judge_42 (by decide) ?_
            exact hr_iret G hr (fun _ h => h) dK_judge_43 ⟨by first | rfl | (simp only [tk_judge, tk_jrest, h5, h13, h19, h29, h39, ↓reduceIte, eq_self, true_or, or_true, or_self]; done) | (simp only [tk_judge, tk_jrest, h5, h13, h19, h29, h39, ↓reduceIte, eq_self, true_or, or_true, or_self]; rfl), rfl, rfl, rfl⟩
        · skip
          refine hr_iconst (v := 3) G dK_judge_32 (by decide) ?_
          exact hr_iret G hr (fun _ h => h) dK_judge_33 ⟨by first | rfl | (simp only [tk_judge, tk_jrest, h5, h13, h19, h29, ↓reduceIte, eq_self, true_or, or_true, or_self]; done) | (simp only [tk_judge, tk_jrest, h5, h13, h19, h29, ↓reduceIte, eq_self, true_or, or_true, or_self]; rfl), rfl, rfl, rfl⟩
      · skip
        refine hr_iconst (v := 2) G dK_judge_22 (by decide) ?_
        exact hr_iret G hr (fun _ h => h) dK_judge_23 ⟨by first | rfl | (simp only [tk_judge, tk_jrest, h5, h13, h19, ↓reduceIte, eq_self, true_or, or_true, or_self]; done) | (simp only [tk_judge, tk_jrest, h5, h13, h19, ↓reduceIte, eq_self, true_or, or_true, or_self]; rfl), rfl, rfl, rfl⟩
end
section
/-! Writing texts. -/
/-- the text t has changed, nothing else -/
def tx_r (t : Nat) (S S' : hw_St) : Prop := (∀ k i j, ¬ (k = 5 ∧ i = t) → ¬ (k = 4 ∧ i = t ∧ j = 1) → S' k i j = S k i j) ∧ tx_ok S' t
theorem tx_r.rf {t : Nat} {S : hw_St} (h : tx_ok S t) : tx_r t S S := ⟨fun _ _ _ _ _ => rfl, h⟩
theorem tx_r.tr {t : Nat} {S S1 S2 : hw_St} (h1 : tx_r t S S1) (h2 : tx_r t S1 S2) : tx_r t S S2 := ⟨fun k i j a b => (h2.1 k i j a b).trans (h1.1 k i j a b), h2.2⟩
theorem tx_r.fx {t : Nat} {S S' : hw_St} (h : tx_r t S S') (hF : hw_Fx S) : hw_Fx S' := fun k i j v hi hv => by
  rw [h.1 k i j (fun e => by rw [e.1] at hv; exact nomatch hv) (fun e => by rw [e.1, e.2.2] at hv; exact nomatch hv)]
  exact hF k i j v hi hv
theorem tx_r.ot {t u : Nat} {S S' : hw_St} (h : tx_r t S S') (hu : u ≠ t) (ho : tx_ok S u) : tx_ok S' u := by
  obtain ⟨⟨n, h1, h2⟩, h3⟩ := ho
  exact ⟨⟨n, h1, by rw [h.1 4 u 1 (by omega) (by omega)]; exact h2⟩, fun j => by rw [h.1 5 u j (by omega) (by omega)]; exact h3 j⟩
theorem tx_r.add {t n : Nat} {S : hw_St} {c : Int32} (hn : S 4 t 1 = nI n) (hle : n ≤ hw_ln 5 t) (hc : ib_c c) (ho : ∀ j, ib_c (S 5 t j)) : tx_r t S (tx_add S t n c) := by
  unfold tx_add
  by_cases h : n < hw_ln 5 t
  · rw [if_pos h]
    refine ⟨fun k i j a b => ?_, ⟨n + 1, h, hw_sv_same⟩, fun j => ?_⟩
    · unfold hw_sv
      rw [if_neg (fun e => b ⟨e.1, e.2.1, e.2.2⟩), if_neg (fun e => a ⟨e.1, e.2.1⟩)]
    · unfold hw_sv
      rw [if_neg (by omega)]
      split
      · exact hc
      · exact ho j
  · rw [if_neg h]
    exact ⟨fun _ _ _ _ _ => rfl, ⟨n, hle, hn⟩, ho⟩
theorem tx_r.len {t : Nat} {S : hw_St} (n : Nat) (hn : n ≤ hw_ln 5 t) (ho : ∀ j, ib_c (S 5 t j)) : tx_r t S (hw_sv S 4 t 1 (nI n)) :=
  ⟨fun k i j a b => by unfold hw_sv; rw [if_neg (fun e => b ⟨e.1, e.2.1, e.2.2⟩)], ⟨n, hn, hw_sv_same⟩, fun j => by unfold hw_sv; rw [if_neg (by omega)]; exact ho j⟩
theorem tx_r.chr {t : Nat} {S : hw_St} {m : Nat} {c : Int32} (hc : ib_c c) (ho : tx_ok S t) : tx_r t S (hw_sv S 5 t m c) :=
  ⟨fun k i j a b => by unfold hw_sv; rw [if_neg (fun e => a ⟨e.1, e.2.1⟩)], by
    obtain ⟨⟨n, h1, h2⟩, h3⟩ := ho
    exact ⟨⟨n, h1, by unfold hw_sv; rw [if_neg (by omega)]; exact h2⟩, fun j => by unfold hw_sv; split; exact hc; exact h3 j⟩⟩
def hw_pt (t : Nat) (nb : Nat → Nat) (S : hw_St) (z : Nat) : hw_T := fun oc nb' S' z' => oc = .inl none ∧ nb' = nb ∧ tx_r t S S' ∧ z' = z
theorem hr_callVt {X : hw_X} {B : hw_B} {fr : Nat → Prop} {nb : Nat → Nat} {S : hw_St} {z c sl t : Nat} {Q : State → Prop} {cc : ByteArray} {nL pc : Nat} {own : String} {L : List (Nat × Value)} {st : List Value} (G : hw_G X B fr cc nL own) {index maxL n : Nat} {y : MethodName} {bytes : ByteArray} {rm : Room} {As st0 : List Value} (hy : y.cls = "TicketHouse$Text") (hi : t < nb 4) (cw : hw_C own index y bytes maxL none n) (w1 : Cond.instanceMethod y ∈ hw_TS) (w2 : Cond.selects y.cls y y ∈ hw_TS) (hM : hw_M X.2.1 y bytes maxL none rm B (.ref (hw_a B 4 t) :: As) nb S z (hw_pt t nb S z)) (hn : As.length = n) (hst : st0 = As.reverse ++ .ref (hw_a B 4 t) :: st) (hW : (st.map fun v => v.category).sum ≤ 8) (hR : rm.frames + 1 ≤ (xR X).frames ∧ 8 + (maxL + 11) + rm.locals ≤ (xR X).locals) (hcs : c + rm.cells ≤ (xR X).cells ∧ sl + rm.slots ≤ (xR X).slots) (d : decode cc pc = .ok (.invokevirtual index, 3))
    (K : ∀ S' : hw_St, tx_r t S S' → hw_V X B fr nb S' z (c + rm.cells) (sl + rm.slots) Q nL (pc + 3) L st) : hw_V X B fr nb S z c sl Q nL pc L st0 :=
  hr_callV (k := 4) (i := t) (ci := 2) (T := FT) (N := 2) G rfl (by rw [hy]; rfl) hi cw w1 w2 hM hn hst hW hR hcs d (fun r nb' S' z' hp => by
    obtain ⟨h1, rfl, h3, rfl⟩ := hp
    have h2 := Sum.inl.inj h1
    subst h2
    exact K S' h3)
theorem m_T_addw (l : Launch) (B : hw_B) (nb : Nat → Nat) (S : hw_St) (z : Nat) (t : Nat) (hA : hw_al nb) (hF : hw_Fx S) (ht : t < 18) (c : Int32) (hc : ib_c c) (ho : tx_ok S t) : hw_M l yT_add cT_add 2 none ({ frames := 0, cells := 0, slots := 0, locals := 0 }) B [.ref (hw_a B 4 t), .int c] nb S z (hw_pt t nb S z) := by
  obtain ⟨⟨n, h1, h2⟩, h3⟩ := ho
  exact (m_T_add l B nb S z t hA hF ht n c h2 h1 hc).mono (fun oc nb' S' z' h => ⟨h.1, h.2.1, by rw [h.2.2.1]; exact tx_r.add h2 h1 hc h3, h.2.2.2⟩)
theorem m_T_clearw (l : Launch) (B : hw_B) (nb : Nat → Nat) (S : hw_St) (z : Nat) (t : Nat) (hA : hw_al nb) (hF : hw_Fx S) (ht : t < 18) (ho : tx_ok S t) : hw_M l yT_clear cT_clear 1 none ({ frames := 0, cells := 0, slots := 0, locals := 0 }) B [.ref (hw_a B 4 t)] nb S z (hw_pt t nb S z) :=
  (m_T_clear l B nb S z t hA hF ht).mono (fun oc nb' S' z' h => ⟨h.1, h.2.1, by rw [h.2.2.1]; exact tx_r.len 0 (Nat.zero_le _) ho.2, h.2.2.2⟩)
set_option maxRecDepth 100000 in
theorem m_T_addAll (l : Launch) (B : hw_B) (nb : Nat → Nat) (S : hw_St) (z : Nat) (t : Nat) (hA : hw_al nb) (hF : hw_Fx S) (ht : t < 18) (ho : tx_ok S t) (si : Nat) (q : String × Nat × String) (hq : hw_strs[si]? = some q) : hw_M l yT_addAll cT_addAll 3 none ({ frames := 4, cells := 0, slots := 0, locals := 85 }) B [.ref (hw_a B 4 t), .ref (hw_a B 60 si)] nb S z (hw_pt t nb S z) := by
  refine hw_M.of (by decide) (Nat.le_of_ble_eq_true rfl) ?_
  intro X fr hl hR G hr hnm
  refine hr_iconst (v := 0) G dT_addAll_0 (by decide) ?_
  refine hr_istore_n (i := 2) G dT_addAll_1 rfl (by decide) ?_
  refine hr_L (L' := [(0, .ref (hw_a B 4 t)), (1, .ref (hw_a B 60 si)), (2, .int (nI 0))]) (hw_s1 rfl (hw_s1 rfl (hw_s1 rfl hw_s0))) ?_
  suffices H : ∀ (m i : Nat) (S1 : hw_St), tx_r t S S1 → hw_sln si - i = m → i ≤ hw_sln si → hw_V X B fr nb S1 z 0 0 (hw_MQ X B fr (hw_pt t nb S z) 0 0) 3 2 [(0, .ref (hw_a B 4 t)), (1, .ref (hw_a B 60 si)), (2, .int (nI i))] [] from H _ 0 S (tx_r.rf ho) rfl (Nat.zero_le _)
  have hlt := hw_sln_lt si
  intro m
  induction m with
  | zero =>
    intro i S1 h1 hm hle
    obtain rfl : i = hw_sln si := by omega
    refine hr_iload_n G dT_addAll_2 rfl rfl ?_
    refine hr_aload_n G dT_addAll_3 rfl rfl ?_
    refine hr_callO G (hw_strK G hq).2.1 xT_19 iJs_length vJs_length (m_Js_length _ _ _ _ _ si q hq) rfl rfl (Nat.le_of_ble_eq_true rfl) ⟨by rw [hR]; decide, by rw [hR]; decide⟩ ⟨by rw [hR]; decide, by rw [hR]; decide⟩ dT_addAll_4 ?_
    refine hr_icmp_ge (tgt := 25) G dT_addAll_7 (by decide) (fun _ => ?_) (fun h => absurd (nI_le (Nat.le_refl _) hlt) h)
    exact hr_vret G hr (fun _ h => h) dT_addAll_25 ⟨rfl, rfl, h1, rfl⟩
  | succ m ih =>
    intro i S1 h1 hm hle
    have hi : i < hw_sln si := by omega
    refine hr_iload_n G dT_addAll_2 rfl rfl ?_
    refine hr_aload_n G dT_addAll_3 rfl rfl ?_
    refine hr_callO G (hw_strK G hq).2.1 xT_19 iJs_length vJs_length (m_Js_length _ _ _ _ _ si q hq) rfl rfl (Nat.le_of_ble_eq_true rfl) ⟨by rw [hR]; decide, by rw [hR]; decide⟩ ⟨by rw [hR]; decide, by rw [hR]; decide⟩ dT_addAll_4 ?_
    refine hr_icmp_ge (tgt := 25) G dT_addAll_7 (by decide) (fun h => absurd h (nI_ge hi hlt)) (fun _ => ?_)
    refine hr_aload_n G dT_addAll_10 rfl rfl ?_
    refine hr_aload_n G dT_addAll_11 rfl rfl ?_
    refine hr_iload_n G dT_addAll_12 rfl rfl ?_
    refine hr_callOc G (hw_strK G hq).2.1 xT_24 iJs_charAt vJs_charAt (m_Js_charAt _ _ _ _ _ si i q hq hi) rfl rfl (Nat.le_of_ble_eq_true rfl) ⟨by rw [hR]; decide, by rw [hR]; decide⟩ ⟨by rw [hR]; decide, by rw [hR]; decide⟩ dT_addAll_13 (fun r hrc => ?_)
    refine hr_callVt (t := t) G rfl (hA.lt ht) kT_28 iT_add vT_add (m_T_addw _ _ _ _ _ t hA (h1.fx hF) ht r hrc h1.2) rfl rfl (Nat.le_of_ble_eq_true rfl) ⟨by rw [hR]; decide, by rw [hR]; decide⟩ ⟨by rw [hR]; decide, by rw [hR]; decide⟩ dT_addAll_16 (fun S2 h2 => ?_)
    refine hr_iinc (v := nI (i + 1)) G dT_addAll_19 rfl (nI_succ i).symm (by decide) ?_
    refine hr_goto (tgt := 2) G dT_addAll_22 (by decide) ?_
    refine hr_L (L' := [(0, .ref (hw_a B 4 t)), (1, .ref (hw_a B 60 si)), (2, .int (nI (i + 1)))]) (hw_s1 rfl (hw_s1 rfl (hw_s1 rfl hw_s0))) ?_
    exact ih (i + 1) S2 (h1.tr h2) (by omega) (by omega)
theorem ib_rev {a b : Nat} (h : b ≤ a + 1) (ha : a < 2 ^ 31) : nI b - 1 ≤ nI a := by
  cases b with
  | zero =>
    have e : nI 0 - 1 = -1 := by decide
    rw [e, Int32.le_iff_toInt_le, nI_toInt ha]
    have e2 : (-1 : Int32).toInt = -1 := by decide
    rw [e2]; omega
  | succ k => rw [nI_pred]; exact nI_le (by omega) ha
set_option maxRecDepth 100000 in
set_option maxHeartbeats 1000000 in
theorem m_T_turnRound (l : Launch) (B : hw_B) (nb : Nat → Nat) (S : hw_St) (z : Nat) (t : Nat) (hA : hw_al nb) (hF : hw_Fx S) (ht : t < 18) (ho : tx_ok S t) (a : Nat) (ha : a ≤ hw_ln 5 t) : hw_M l yT_turnRound cT_turnRound 5 none ({ frames := 0, cells := 0, slots := 0, locals := 0 }) B [.ref (hw_a B 4 t), .int (nI a)] nb S z (hw_pt t nb S z) := by
  refine hw_M.of (by decide) (Nat.le_of_ble_eq_true rfl) ?_
  intro X fr hl hR G hr hnm
  obtain ⟨n, hle, hn⟩ := ho.1
  have hlt := hw_ln_lt 5 t
  refine hr_iload_n G dT_turnRound_0 rfl rfl ?_
  refine hr_istore_n (i := 2) G dT_turnRound_1 rfl (by decide) ?_
  refine hr_aload_n G dT_turnRound_2 rfl rfl ?_
  refine hr_get (v := .int (S 4 t 1)) G fT_15 (hA.lt ht) rfl dT_turnRound_3 ?_
  refine hr_iconst (v := 1) G dT_turnRound_6 (by decide) ?_
  refine hr_isub G dT_turnRound_7 ?_
  refine hr_istore_n (i := 3) G dT_turnRound_8 rfl (by decide) ?_
  rw [hn]
  refine hr_L (L' := [(0, .ref (hw_a B 4 t)), (2, .int (nI a)), (3, .int (nI n - 1))]) (hw_s1 rfl (hw_s1 rfl (hw_s1 rfl (hw_s0)))) ?_
  suffices H : ∀ (m a b : Nat) (S1 : hw_St), tx_r t S S1 → b ≤ hw_ln 5 t → a ≤ hw_ln 5 t → b - a ≤ m → hw_V X B fr nb S1 z 0 0 (hw_MQ X B fr (hw_pt t nb S z) 0 0) 5 9 [(0, .ref (hw_a B 4 t)), (2, .int (nI a)), (3, .int (nI b - 1))] [] from H _ a n S (tx_r.rf ho) hle ha (Nat.le_refl _)
  clear hn hle n
  intro m
  induction m with
  | zero =>
    intro a b S1 h1 hb ha hm
    refine hr_iload_n G dT_turnRound_9 rfl rfl ?_
    refine hr_iload_n G dT_turnRound_10 rfl rfl ?_
    refine hr_icmp_ge (tgt := 51) G dT_turnRound_11 (by decide) (fun _ => ?_) (fun h => absurd (ib_rev (by omega) (by omega)) h)
    exact hr_vret G hr (fun _ h => h) dT_turnRound_51 ⟨rfl, rfl, h1, rfl⟩
  | succ m ih =>
    intro a b S1 h1 hb ha hm
    refine hr_iload_n G dT_turnRound_9 rfl rfl ?_
    refine hr_iload_n G dT_turnRound_10 rfl rfl ?_
    by_cases hab : b ≤ a + 1
    · refine hr_icmp_ge (tgt := 51) G dT_turnRound_11 (by decide) (fun _ => ?_) (fun h => absurd (ib_rev hab (by omega)) h)
      exact hr_vret G hr (fun _ h => h) dT_turnRound_51 ⟨rfl, rfl, h1, rfl⟩
    · obtain ⟨k, rfl⟩ : ∃ k, b = k + 1 := ⟨b - 1, by omega⟩
      rw [nI_pred]
      refine hr_icmp_ge (tgt := 51) G dT_turnRound_11 (by decide) (fun h => absurd h (nI_ge (by omega) (by omega))) (fun _ => ?_)
      have hF1 := h1.fx hF
      have ho1 := h1.2
      refine hr_aload_n G dT_turnRound_14 rfl rfl ?_
      refine hr_get (v := .ref (hw_a B 5 t)) G fT_9 (hA.lt ht) (hw_rfx hF1 ht rfl (by omega)) dT_turnRound_15 ?_
      refine hr_iload_n G dT_turnRound_18 rfl rfl ?_
      refine hr_cald (n := a) (v := .int (S1 5 t a)) G rfl (by decide) rfl (hA.lt ht) rfl (show a < hw_ln 5 t by omega) rfl dT_turnRound_19 ?_
      refine hr_istore (i := 4) G dT_turnRound_20 (by decide) ?_
      refine hr_aload_n G dT_turnRound_22 rfl rfl ?_
      refine hr_get (v := .ref (hw_a B 5 t)) G fT_9 (hA.lt ht) (hw_rfx hF1 ht rfl (by omega)) dT_turnRound_23 ?_
      refine hr_iload_n G dT_turnRound_26 rfl rfl ?_
      refine hr_aload_n G dT_turnRound_27 rfl rfl ?_
      refine hr_get (v := .ref (hw_a B 5 t)) G fT_9 (hA.lt ht) (hw_rfx hF1 ht rfl (by omega)) dT_turnRound_28 ?_
      refine hr_iload_n G dT_turnRound_31 rfl rfl ?_
      refine hr_cald (n := k) (v := .int (S1 5 t k)) G rfl (by decide) rfl (hA.lt ht) rfl (show k < hw_ln 5 t by omega) rfl dT_turnRound_32 ?_
      refine hr_cast (n := a) (y := (S1 5 t k)) G rfl (by decide) rfl (hA.lt ht) rfl (show a < hw_ln 5 t by omega) rfl (ho1.2 _) dT_turnRound_33 ?_
      refine hr_aload_n G dT_turnRound_34 rfl rfl ?_
      refine hr_get (v := .ref (hw_a B 5 t)) G fT_9 (hA.lt ht) (hw_rfx (hF1.sv rfl) ht rfl (by omega)) dT_turnRound_35 ?_
      refine hr_iload_n G dT_turnRound_38 rfl rfl ?_
      refine hr_iload G dT_turnRound_39 rfl ?_
      refine hr_cast (n := k) (y := (S1 5 t a)) G rfl (by decide) rfl (hA.lt ht) rfl (show k < hw_ln 5 t by omega) rfl (ho1.2 _) dT_turnRound_41 ?_
      refine hr_iinc (v := nI (a + 1)) G dT_turnRound_42 rfl (nI_succ a).symm (by decide) ?_
      refine hr_iinc (v := nI k - 1) G dT_turnRound_45 rfl (by rw [Int32.sub_eq_add_neg]; rfl) (by decide) ?_
      refine hr_goto (tgt := 9) G dT_turnRound_48 (by decide) ?_
      refine hr_L (L' := [(0, .ref (hw_a B 4 t)), (2, .int (nI (a + 1))), (3, .int (nI k - 1))]) (hw_s1 rfl (hw_s1 rfl (hw_s1 rfl (hw_s0)))) ?_
      have h2 : tx_r t S1 (hw_sv S1 5 t a (S1 5 t k)) := tx_r.chr (ho1.2 _) ho1
      exact ih (a + 1) k _ (h1.tr (h2.tr (tx_r.chr (ho1.2 _) h2.2))) (by omega) (by omega) (by omega)
set_option maxRecDepth 100000 in
set_option maxHeartbeats 1000000 in
theorem m_T_addNumber (l : Launch) (B : hw_B) (nb : Nat → Nat) (S : hw_St) (z : Nat) (t : Nat) (hA : hw_al nb) (hF : hw_Fx S) (ht : t < 18) (ho : tx_ok S t) (x : Int32) : hw_M l yT_addNumber cT_addNumber 5 none ({ frames := 1, cells := 0, slots := 0, locals := 24 }) B [.ref (hw_a B 4 t), .int x] nb S z (hw_pt t nb S z) := by
  refine hw_M.of (by decide) (Nat.le_of_ble_eq_true rfl) ?_
  intro X fr hl hR G hr hnm
  suffices H : ∀ (m i : Nat) (y : Int32) (a : Nat) (S1 : hw_St), tx_r t S S1 → a ≤ hw_ln 5 t → 10 - i = m → i ≤ 10 → hw_V X B fr nb S1 z 0 0 (hw_MQ X B fr (hw_pt t nb S z) 0 0) 5 29 [(0, .ref (hw_a B 4 t)), (2, .int y), (3, .int (nI a)), (4, .int (nI i))] [] by
    have fin : ∀ (y : Int32) (S1 : hw_St), tx_r t S S1 → hw_V X B fr nb S1 z 0 0 (hw_MQ X B fr (hw_pt t nb S z) 0 0) 5 21 [(0, .ref (hw_a B 4 t)), (2, .int y)] [] := by
      intro y S1 h1
      obtain ⟨n, hle, hn⟩ := h1.2.1
      refine hr_aload_n G dT_addNumber_21 rfl rfl ?_
      refine hr_get (v := .int (S1 4 t 1)) G fT_15 (hA.lt ht) rfl dT_addNumber_22 ?_
      refine hr_istore_n (i := 3) G dT_addNumber_25 rfl (by decide) ?_
      refine hr_iconst (v := 0) G dT_addNumber_26 (by decide) ?_
      refine hr_istore (i := 4) G dT_addNumber_27 (by decide) ?_
      rw [hn]
      refine hr_L (L' := [(0, .ref (hw_a B 4 t)), (2, .int y), (3, .int (nI n)), (4, .int (nI 0))]) (hw_s1 rfl (hw_s1 rfl (hw_s1 rfl (hw_s1 rfl (hw_s0))))) ?_
      exact H _ 0 y n S1 h1 hle rfl (Nat.zero_le _)
    refine hr_iload_n G dT_addNumber_0 rfl rfl ?_
    refine hr_if_ge (tgt := 8) G dT_addNumber_1 (by decide) (fun h1 => ?_) (fun h1 => ?_)
    · skip
      refine hr_iload_n G dT_addNumber_8 rfl rfl ?_
      refine hr_ineg G dT_addNumber_9 ?_
      refine hr_istore_n (i := 2) G dT_addNumber_10 rfl (by decide) ?_
      refine hr_iload_n G dT_addNumber_11 rfl rfl ?_
      refine hr_if_ge (tgt := 21) G dT_addNumber_12 (by decide) (fun _ => ?_) (fun h => absurd h1 h)
      refine hr_L (L' := [(0, .ref (hw_a B 4 t)), (2, .int (-x))]) (hw_s1 rfl (hw_s1 rfl (hw_s0))) ?_
      exact fin (-x) S (tx_r.rf ho)
    · skip
      refine hr_iload_n G dT_addNumber_4 rfl rfl ?_
      refine hr_goto (tgt := 10) G dT_addNumber_5 (by decide) ?_
      refine hr_istore_n (i := 2) G dT_addNumber_10 rfl (by decide) ?_
      refine hr_iload_n G dT_addNumber_11 rfl rfl ?_
      refine hr_if_ge (tgt := 21) G dT_addNumber_12 (by decide) (fun h => absurd h h1) (fun _ => ?_)
      refine hr_aload_n G dT_addNumber_15 rfl rfl ?_
      refine hr_bipush (v := 45) G dT_addNumber_16 (by decide) ?_
      refine hr_callVt (t := t) G rfl (hA.lt ht) kT_28 iT_add vT_add (m_T_addw _ _ _ _ _ t hA hF ht 45 (show ib_c 45 from rfl) ho) rfl rfl (Nat.le_of_ble_eq_true rfl) ⟨by rw [hR]; decide, by rw [hR]; decide⟩ ⟨by rw [hR]; decide, by rw [hR]; decide⟩ dT_addNumber_18 (fun S1 h1 => ?_)
      refine hr_L (L' := [(0, .ref (hw_a B 4 t)), (2, .int x)]) (hw_s1 rfl (hw_s1 rfl (hw_s0))) ?_
      exact fin x S1 h1
  intro m
  induction m with
  | zero =>
    intro i y a S1 h1 ha hm hi
    obtain rfl : i = 10 := by omega
    have hF1 := h1.fx hF
    refine hr_iload G dT_addNumber_29 rfl ?_
    refine hr_bipush (v := 10) G dT_addNumber_31 (by decide) ?_
    refine hr_icmp_ge (tgt := 68) G dT_addNumber_33 (by decide) (fun _ => ?_) (fun h => absurd (show (10 : Int32) ≤ nI 10 by decide) h)
    refine hr_aload_n G dT_addNumber_68 rfl rfl ?_
    refine hr_iload_n G dT_addNumber_69 rfl rfl ?_
    refine hr_callVt (t := t) G rfl (hA.lt ht) kT_32 iT_turnRound vT_turnRound (m_T_turnRound _ _ _ _ _ t hA hF1 ht h1.2 a ha) rfl rfl (Nat.le_of_ble_eq_true rfl) ⟨by rw [hR]; decide, by rw [hR]; decide⟩ ⟨by rw [hR]; decide, by rw [hR]; decide⟩ dT_addNumber_70 (fun S2 h2 => ?_)
    exact hr_vret G hr (fun _ h => h) dT_addNumber_73 ⟨rfl, rfl, h1.tr h2, rfl⟩
  | succ m ih =>
    intro i y a S1 h1 ha hm hi
    have hF1 := h1.fx hF
    refine hr_iload G dT_addNumber_29 rfl ?_
    refine hr_bipush (v := 10) G dT_addNumber_31 (by decide) ?_
    refine hr_icmp_ge (tgt := 68) G dT_addNumber_33 (by decide) (fun h => absurd h (show ¬ (10 : Int32) ≤ nI i from nI_ge (b := 10) (by omega) (by decide))) (fun _ => ?_)
    refine hr_iload G dT_addNumber_36 rfl ?_
    refine hr_if_eq (tgt := 45) G dT_addNumber_38 (by decide) (fun h38 => ?_) (fun h38 => ?_)
    · skip
      refine hr_aload_n G dT_addNumber_45 rfl rfl ?_
      refine hr_bipush (v := 48) G dT_addNumber_46 (by decide) ?_
      refine hr_iload_n G dT_addNumber_48 rfl rfl ?_
      refine hr_bipush (v := 10) G dT_addNumber_49 (by decide) ?_
      refine hr_irem G dT_addNumber_51 (by decide) ?_
      refine hr_isub G dT_addNumber_52 ?_
      refine hr_i2c G dT_addNumber_53 ?_
      refine hr_callVt (t := t) G rfl (hA.lt ht) kT_28 iT_add vT_add (m_T_addw _ _ _ _ _ t hA hF1 ht ((48 - (y - y / 10 * 10)).toUInt32 % 65536).toInt32 (pk_nc _) h1.2) rfl rfl (Nat.le_of_ble_eq_true rfl) ⟨by rw [hR]; decide, by rw [hR]; decide⟩ ⟨by rw [hR]; decide, by rw [hR]; decide⟩ dT_addNumber_54 (fun S2 h2 => ?_)
      refine hr_iload_n G dT_addNumber_57 rfl rfl ?_
      refine hr_bipush (v := 10) G dT_addNumber_58 (by decide) ?_
      refine hr_idiv G dT_addNumber_60 (by decide) ?_
      refine hr_istore_n (i := 2) G dT_addNumber_61 rfl (by decide) ?_
      refine hr_iinc (v := nI (i + 1)) G dT_addNumber_62 rfl (nI_succ i).symm (by decide) ?_
      refine hr_goto (tgt := 29) G dT_addNumber_65 (by decide) ?_
      refine hr_L (L' := [(0, .ref (hw_a B 4 t)), (2, .int (y / 10)), (3, .int (nI a)), (4, .int (nI (i + 1)))]) (hw_s1 rfl (hw_s1 rfl (hw_s1 rfl (hw_s1 rfl (hw_s0))))) ?_
      exact ih (i + 1) (y / 10) a S2 (h1.tr h2) ha (by omega) (by omega)
    · skip
      refine hr_iload_n G dT_addNumber_41 rfl rfl ?_
      refine hr_if_eq (tgt := 68) G dT_addNumber_42 (by decide) (fun h42 => ?_) (fun h42 => ?_)
      · skip
        refine hr_aload_n G dT_addNumber_68 rfl rfl ?_
        refine hr_iload_n G dT_addNumber_69 rfl rfl ?_
        refine hr_callVt (t := t) G rfl (hA.lt ht) kT_32 iT_turnRound vT_turnRound (m_T_turnRound _ _ _ _ _ t hA hF1 ht h1.2 a ha) rfl rfl (Nat.le_of_ble_eq_true rfl) ⟨by rw [hR]; decide, by rw [hR]; decide⟩ ⟨by rw [hR]; decide, by rw [hR]; decide⟩ dT_addNumber_70 (fun S2 h2 => ?_)
        exact hr_vret G hr (fun _ h => h) dT_addNumber_73 ⟨rfl, rfl, h1.tr h2, rfl⟩
      · skip
        refine hr_aload_n G dT_addNumber_45 rfl rfl ?_
        refine hr_bipush (v := 48) G dT_addNumber_46 (by decide) ?_
        refine hr_iload_n G dT_addNumber_48 rfl rfl ?_
        refine hr_bipush (v := 10) G dT_addNumber_49 (by decide) ?_
        refine hr_irem G dT_addNumber_51 (by decide) ?_
        refine hr_isub G dT_addNumber_52 ?_
        refine hr_i2c G dT_addNumber_53 ?_
        refine hr_callVt (t := t) G rfl (hA.lt ht) kT_28 iT_add vT_add (m_T_addw _ _ _ _ _ t hA hF1 ht ((48 - (y - y / 10 * 10)).toUInt32 % 65536).toInt32 (pk_nc _) h1.2) rfl rfl (Nat.le_of_ble_eq_true rfl) ⟨by rw [hR]; decide, by rw [hR]; decide⟩ ⟨by rw [hR]; decide, by rw [hR]; decide⟩ dT_addNumber_54 (fun S2 h2 => ?_)
        refine hr_iload_n G dT_addNumber_57 rfl rfl ?_
        refine hr_bipush (v := 10) G dT_addNumber_58 (by decide) ?_
        refine hr_idiv G dT_addNumber_60 (by decide) ?_
        refine hr_istore_n (i := 2) G dT_addNumber_61 rfl (by decide) ?_
        refine hr_iinc (v := nI (i + 1)) G dT_addNumber_62 rfl (nI_succ i).symm (by decide) ?_
        refine hr_goto (tgt := 29) G dT_addNumber_65 (by decide) ?_
        refine hr_L (L' := [(0, .ref (hw_a B 4 t)), (2, .int (y / 10)), (3, .int (nI a)), (4, .int (nI (i + 1)))]) (hw_s1 rfl (hw_s1 rfl (hw_s1 rfl (hw_s1 rfl (hw_s0))))) ?_
        exact ih (i + 1) (y / 10) a S2 (h1.tr h2) ha (by omega) (by omega)
theorem hr_ldcS {X : hw_X} {B : hw_B} {fr : Nat → Prop} {nb : Nat → Nat} {S : hw_St} {z c sl : Nat} {Q : State → Prop} {cc : ByteArray} {nL pc : Nat} {own : String} {L : List (Nat × Value)} {st : List Value} (G : hw_G X B fr cc nL own) {index si : Nat} {tx : String} (hq : hw_strs[si]? = some (own, index, tx)) (d : decode cc pc = .ok (.ldc index, 2)) (K : hw_V X B fr nb S z c sl Q nL (pc + 2) L (.ref (hw_a B 60 si) :: st)) : hw_V X B fr nb S z c sl Q nL pc L st :=
  fun ls H locs hl hP hz hf => va_ldcS G.1 G.2.1 G.2.2.2.1 (hw_strK G hq).1 d (K ls H locs hl hP hz hf)
set_option maxRecDepth 100000 in
set_option maxHeartbeats 1000000 in
theorem m_T_addElement (l : Launch) (B : hw_B) (nb : Nat → Nat) (S : hw_St) (z : Nat) (t : Nat) (hA : hw_al nb) (hF : hw_Fx S) (ht : t < 18) (ho : tx_ok S t) (c x : Int32) (hc : ib_c c) : hw_M l yT_addElement cT_addElement 3 none ({ frames := 5, cells := 0, slots := 0, locals := 107 }) B [.ref (hw_a B 4 t), .int c, .int x] nb S z (hw_pt t nb S z) := by
  refine hw_M.of (by decide) (Nat.le_of_ble_eq_true rfl) ?_
  intro X fr hl hR G hr hnm
  refine hr_aload_n G dT_addElement_0 rfl rfl ?_
  refine hr_bipush (v := 60) G dT_addElement_1 (by decide) ?_
  refine hr_callVt (t := t) G rfl (hA.lt ht) kT_28 iT_add vT_add (m_T_addw _ _ _ _ _ t hA hF ht 60 (show ib_c 60 from rfl) ho) rfl rfl (Nat.le_of_ble_eq_true rfl) ⟨by rw [hR]; decide, by rw [hR]; decide⟩ ⟨by rw [hR]; decide, by rw [hR]; decide⟩ dT_addElement_3 (fun S3 q3 => ?_)
  have hF3 := q3.fx hF
  refine hr_aload_n G dT_addElement_6 rfl rfl ?_
  refine hr_iload_n G dT_addElement_7 rfl rfl ?_
  refine hr_callVt (t := t) G rfl (hA.lt ht) kT_28 iT_add vT_add (m_T_addw _ _ _ _ _ t hA hF3 ht c hc q3.2) rfl rfl (Nat.le_of_ble_eq_true rfl) ⟨by rw [hR]; decide, by rw [hR]; decide⟩ ⟨by rw [hR]; decide, by rw [hR]; decide⟩ dT_addElement_8 (fun S8 q8 => ?_)
  have hF8 := q8.fx hF3
  refine hr_aload_n G dT_addElement_11 rfl rfl ?_
  refine hr_bipush (v := 62) G dT_addElement_12 (by decide) ?_
  refine hr_callVt (t := t) G rfl (hA.lt ht) kT_28 iT_add vT_add (m_T_addw _ _ _ _ _ t hA hF8 ht 62 (show ib_c 62 from rfl) q8.2) rfl rfl (Nat.le_of_ble_eq_true rfl) ⟨by rw [hR]; decide, by rw [hR]; decide⟩ ⟨by rw [hR]; decide, by rw [hR]; decide⟩ dT_addElement_14 (fun S14 q14 => ?_)
  have hF14 := q14.fx hF8
  refine hr_aload_n G dT_addElement_17 rfl rfl ?_
  refine hr_iload_n G dT_addElement_18 rfl rfl ?_
  refine hr_callVt (t := t) G rfl (hA.lt ht) kT_36 iT_addNumber vT_addNumber (m_T_addNumber _ _ _ _ _ t hA hF14 ht q14.2 x) rfl rfl (Nat.le_of_ble_eq_true rfl) ⟨by rw [hR]; decide, by rw [hR]; decide⟩ ⟨by rw [hR]; decide, by rw [hR]; decide⟩ dT_addElement_19 (fun S19 q19 => ?_)
  have hF19 := q19.fx hF14
  refine hr_aload_n G dT_addElement_22 rfl rfl ?_
  refine hr_ldcS (si := 24) G rfl dT_addElement_23 ?_
  refine hr_callVt (t := t) G rfl (hA.lt ht) kT_41 iT_addAll vT_addAll (m_T_addAll _ _ _ _ _ t hA hF19 ht q19.2 24 _ rfl) rfl rfl (Nat.le_of_ble_eq_true rfl) ⟨by rw [hR]; decide, by rw [hR]; decide⟩ ⟨by rw [hR]; decide, by rw [hR]; decide⟩ dT_addElement_25 (fun S25 q25 => ?_)
  have hF25 := q25.fx hF19
  refine hr_aload_n G dT_addElement_28 rfl rfl ?_
  refine hr_iload_n G dT_addElement_29 rfl rfl ?_
  refine hr_callVt (t := t) G rfl (hA.lt ht) kT_28 iT_add vT_add (m_T_addw _ _ _ _ _ t hA hF25 ht c hc q25.2) rfl rfl (Nat.le_of_ble_eq_true rfl) ⟨by rw [hR]; decide, by rw [hR]; decide⟩ ⟨by rw [hR]; decide, by rw [hR]; decide⟩ dT_addElement_30 (fun S30 q30 => ?_)
  have hF30 := q30.fx hF25
  refine hr_aload_n G dT_addElement_33 rfl rfl ?_
  refine hr_bipush (v := 62) G dT_addElement_34 (by decide) ?_
  refine hr_callVt (t := t) G rfl (hA.lt ht) kT_28 iT_add vT_add (m_T_addw _ _ _ _ _ t hA hF30 ht 62 (show ib_c 62 from rfl) q30.2) rfl rfl (Nat.le_of_ble_eq_true rfl) ⟨by rw [hR]; decide, by rw [hR]; decide⟩ ⟨by rw [hR]; decide, by rw [hR]; decide⟩ dT_addElement_36 (fun S36 q36 => ?_)
  have hF36 := q36.fx hF30
  exact hr_vret G hr (fun _ h => h) dT_addElement_39 ⟨rfl, rfl, ((((((q3.tr q8).tr q14).tr q19).tr q25).tr q30).tr q36), rfl⟩
set_option maxRecDepth 100000 in
set_option maxHeartbeats 1000000 in
theorem m_T_addEscapedC (l : Launch) (B : hw_B) (nb : Nat → Nat) (S : hw_St) (z : Nat) (t : Nat) (hA : hw_al nb) (hF : hw_Fx S) (ht : t < 18) (ho : tx_ok S t) (c : Int32) (hc : ib_c c) : hw_M l yT_addEscapedC cT_addEscapedC 2 none ({ frames := 5, cells := 0, slots := 0, locals := 107 }) B [.ref (hw_a B 4 t), .int c] nb S z (hw_pt t nb S z) := by
  refine hw_M.of (by decide) (Nat.le_of_ble_eq_true rfl) ?_
  intro X fr hl hR G hr hnm
  refine hr_iload_n G dT_addEscapedC_0 rfl rfl ?_
  by_cases e0 : c = 34
  · subst e0
    refine hr_lookup (off := 70) (tgt := 71) G dT_addEscapedC_1 (by decide) (by decide) (by decide) ?_
    refine hr_aload_n G dT_addEscapedC_71 rfl rfl ?_
    refine hr_ldcS (si := 21) G rfl dT_addEscapedC_72 ?_
    refine hr_callVt (t := t) G rfl (hA.lt ht) kT_41 iT_addAll vT_addAll (m_T_addAll _ _ _ _ _ t hA hF ht ho 21 _ rfl) rfl rfl (Nat.le_of_ble_eq_true rfl) ⟨by rw [hR]; decide, by rw [hR]; decide⟩ ⟨by rw [hR]; decide, by rw [hR]; decide⟩ dT_addEscapedC_74 (fun S74 q74 => ?_)
    have hF74 := q74.fx hF
    refine hr_goto (tgt := 85) G dT_addEscapedC_77 (by decide) ?_
    exact hr_vret G hr (fun _ h => h) dT_addEscapedC_85 ⟨rfl, rfl, q74, rfl⟩
  by_cases e1 : c = 38
  · subst e1
    refine hr_lookup (off := 43) (tgt := 44) G dT_addEscapedC_1 (by decide) (by decide) (by decide) ?_
    refine hr_aload_n G dT_addEscapedC_44 rfl rfl ?_
    refine hr_ldcS (si := 18) G rfl dT_addEscapedC_45 ?_
    refine hr_callVt (t := t) G rfl (hA.lt ht) kT_41 iT_addAll vT_addAll (m_T_addAll _ _ _ _ _ t hA hF ht ho 18 _ rfl) rfl rfl (Nat.le_of_ble_eq_true rfl) ⟨by rw [hR]; decide, by rw [hR]; decide⟩ ⟨by rw [hR]; decide, by rw [hR]; decide⟩ dT_addEscapedC_47 (fun S47 q47 => ?_)
    have hF47 := q47.fx hF
    refine hr_goto (tgt := 85) G dT_addEscapedC_50 (by decide) ?_
    exact hr_vret G hr (fun _ h => h) dT_addEscapedC_85 ⟨rfl, rfl, q47, rfl⟩
  by_cases e2 : c = 60
  · subst e2
    refine hr_lookup (off := 52) (tgt := 53) G dT_addEscapedC_1 (by decide) (by decide) (by decide) ?_
    refine hr_aload_n G dT_addEscapedC_53 rfl rfl ?_
    refine hr_ldcS (si := 19) G rfl dT_addEscapedC_54 ?_
    refine hr_callVt (t := t) G rfl (hA.lt ht) kT_41 iT_addAll vT_addAll (m_T_addAll _ _ _ _ _ t hA hF ht ho 19 _ rfl) rfl rfl (Nat.le_of_ble_eq_true rfl) ⟨by rw [hR]; decide, by rw [hR]; decide⟩ ⟨by rw [hR]; decide, by rw [hR]; decide⟩ dT_addEscapedC_56 (fun S56 q56 => ?_)
    have hF56 := q56.fx hF
    refine hr_goto (tgt := 85) G dT_addEscapedC_59 (by decide) ?_
    exact hr_vret G hr (fun _ h => h) dT_addEscapedC_85 ⟨rfl, rfl, q56, rfl⟩
  by_cases e3 : c = 62
  · subst e3
    refine hr_lookup (off := 61) (tgt := 62) G dT_addEscapedC_1 (by decide) (by decide) (by decide) ?_
    refine hr_aload_n G dT_addEscapedC_62 rfl rfl ?_
    refine hr_ldcS (si := 20) G rfl dT_addEscapedC_63 ?_
    refine hr_callVt (t := t) G rfl (hA.lt ht) kT_41 iT_addAll vT_addAll (m_T_addAll _ _ _ _ _ t hA hF ht ho 20 _ rfl) rfl rfl (Nat.le_of_ble_eq_true rfl) ⟨by rw [hR]; decide, by rw [hR]; decide⟩ ⟨by rw [hR]; decide, by rw [hR]; decide⟩ dT_addEscapedC_65 (fun S65 q65 => ?_)
    have hF65 := q65.fx hF
    refine hr_goto (tgt := 85) G dT_addEscapedC_68 (by decide) ?_
    exact hr_vret G hr (fun _ h => h) dT_addEscapedC_85 ⟨rfl, rfl, q65, rfl⟩
  refine hr_lookup (off := 79) (tgt := 80) G dT_addEscapedC_1 (by decide) (by show Op.lookupswitch.offset [(34, 70), (38, 43), (60, 52), (62, 61)] 79 _ = _; rw [lv_osw e0 (by decide), lv_osw e1 (by decide), lv_osw e2 (by decide), lv_osw e3 (by decide)]; rfl) (by decide) ?_
  refine hr_aload_n G dT_addEscapedC_80 rfl rfl ?_
  refine hr_iload_n G dT_addEscapedC_81 rfl rfl ?_
  refine hr_callVt (t := t) G rfl (hA.lt ht) kT_28 iT_add vT_add (m_T_addw _ _ _ _ _ t hA hF ht c hc ho) rfl rfl (Nat.le_of_ble_eq_true rfl) ⟨by rw [hR]; decide, by rw [hR]; decide⟩ ⟨by rw [hR]; decide, by rw [hR]; decide⟩ dT_addEscapedC_82 (fun S82 q82 => ?_)
  have hF82 := q82.fx hF
  exact hr_vret G hr (fun _ h => h) dT_addEscapedC_85 ⟨rfl, rfl, q82, rfl⟩
set_option maxRecDepth 100000 in
set_option maxHeartbeats 1000000 in
theorem m_T_addEscapedT (l : Launch) (B : hw_B) (nb : Nat → Nat) (S : hw_St) (z : Nat) (t : Nat) (hA : hw_al nb) (hF : hw_Fx S) (ht : t < 18) (ho : tx_ok S t) (u n : Nat) (hu : u < 18) (hut : u ≠ t) (hn : S 4 u 1 = nI n) (hnl : n ≤ hw_ln 5 u) (hch : ∀ j, ib_c (S 5 u j)) : hw_M l yT_addEscapedT cT_addEscapedT 3 none ({ frames := 6, cells := 0, slots := 0, locals := 128 }) B [.ref (hw_a B 4 t), .ref (hw_a B 4 u)] nb S z (hw_pt t nb S z) := by
  refine hw_M.of (by decide) (Nat.le_of_ble_eq_true rfl) ?_
  intro X fr hl hR G hr hnm
  have hlt := hw_ln_lt 5 u
  refine hr_iconst (v := 0) G dT_addEscapedT_0 (by decide) ?_
  refine hr_istore_n (i := 2) G dT_addEscapedT_1 rfl (by decide) ?_
  refine hr_L (L' := [(0, .ref (hw_a B 4 t)), (1, .ref (hw_a B 4 u)), (2, .int (nI 0))]) (hw_s1 rfl (hw_s1 rfl (hw_s1 rfl (hw_s0)))) ?_
  suffices H : ∀ (m i : Nat) (S1 : hw_St), tx_r t S S1 → n - i = m → i ≤ n → hw_V X B fr nb S1 z 0 0 (hw_MQ X B fr (hw_pt t nb S z) 0 0) 3 2 [(0, .ref (hw_a B 4 t)), (1, .ref (hw_a B 4 u)), (2, .int (nI i))] [] from H _ 0 S (tx_r.rf ho) rfl (Nat.zero_le _)
  intro m
  induction m with
  | zero =>
    intro i S1 h1 hm hle
    obtain rfl : i = n := by omega
    have hF1 := h1.fx hF
    have e1 : S1 4 u 1 = nI i := by rw [h1.1 4 u 1 (by omega) (by omega)]; exact hn
    refine hr_iload_n G dT_addEscapedT_2 rfl rfl ?_
    refine hr_aload_n G dT_addEscapedT_3 rfl rfl ?_
    refine hr_get (v := .int (S1 4 u 1)) G fT_15 (hA.lt hu) rfl dT_addEscapedT_4 ?_
    refine hr_icmp_ge (tgt := 26) G dT_addEscapedT_7 (by decide) (fun _ => ?_) (fun h => absurd (show S1 4 u 1 ≤ nI i by rw [e1]; exact nI_le (Nat.le_refl _) (by omega)) h)
    exact hr_vret G hr (fun _ h => h) dT_addEscapedT_26 ⟨rfl, rfl, h1, rfl⟩
  | succ m ih =>
    intro i S1 h1 hm hle
    have hF1 := h1.fx hF
    have e1 : S1 4 u 1 = nI n := by rw [h1.1 4 u 1 (by omega) (by omega)]; exact hn
    have e2 : ib_c (S1 5 u i) := by rw [h1.1 5 u i (by omega) (by omega)]; exact hch i
    refine hr_iload_n G dT_addEscapedT_2 rfl rfl ?_
    refine hr_aload_n G dT_addEscapedT_3 rfl rfl ?_
    refine hr_get (v := .int (S1 4 u 1)) G fT_15 (hA.lt hu) rfl dT_addEscapedT_4 ?_
    refine hr_icmp_ge (tgt := 26) G dT_addEscapedT_7 (by decide) (fun h => absurd h (show ¬ S1 4 u 1 ≤ nI i by rw [e1]; exact nI_ge (by omega) (by omega))) (fun _ => ?_)
    refine hr_aload_n G dT_addEscapedT_10 rfl rfl ?_
    refine hr_aload_n G dT_addEscapedT_11 rfl rfl ?_
    refine hr_get (v := .ref (hw_a B 5 u)) G fT_9 (hA.lt hu) (hw_rfx hF1 hu rfl (by omega)) dT_addEscapedT_12 ?_
    refine hr_iload_n G dT_addEscapedT_15 rfl rfl ?_
    refine hr_cald (n := i) (v := .int (S1 5 u i)) G rfl (by decide) rfl (hA.lt hu) rfl (show i < hw_ln 5 u by omega) rfl dT_addEscapedT_16 ?_
    refine hr_callVt (t := t) G rfl (hA.lt ht) kT_45 iT_addEscapedC vT_addEscapedC (m_T_addEscapedC _ _ _ _ _ t hA hF1 ht h1.2 (S1 5 u i) e2) rfl rfl (Nat.le_of_ble_eq_true rfl) ⟨by rw [hR]; decide, by rw [hR]; decide⟩ ⟨by rw [hR]; decide, by rw [hR]; decide⟩ dT_addEscapedT_17 (fun S2 h2 => ?_)
    refine hr_iinc (v := nI (i + 1)) G dT_addEscapedT_20 rfl (nI_succ i).symm (by decide) ?_
    refine hr_goto (tgt := 2) G dT_addEscapedT_23 (by decide) ?_
    refine hr_L (L' := [(0, .ref (hw_a B 4 t)), (1, .ref (hw_a B 4 u)), (2, .int (nI (i + 1)))]) (hw_s1 rfl (hw_s1 rfl (hw_s1 rfl (hw_s0)))) ?_
    exact ih (i + 1) S2 (h1.tr h2) (by omega) (by omega)
def hw_pb (t n : Nat) (nb : Nat → Nat) (S : hw_St) (z : Nat) : hw_T := fun oc nb' S' z' => oc = .inl none ∧ nb' = nb ∧ (tx_r t S S' ∧ S' 4 t 1 = nI n) ∧ z' = z
theorem tx_add_len {S : hw_St} {t n : Nat} {c : Int32} (h : n < hw_ln 5 t) : tx_add S t n c 4 t 1 = nI (n + 1) := by
  unfold tx_add; rw [if_pos h]; exact hw_sv_same
set_option maxRecDepth 100000 in
set_option maxHeartbeats 1000000 in
theorem m_T_become (l : Launch) (B : hw_B) (nb : Nat → Nat) (S : hw_St) (z : Nat) (t : Nat) (hA : hw_al nb) (hF : hw_Fx S) (ht : t < 18) (ho : tx_ok S t) (u n : Nat) (hu : u < 18) (hut : u ≠ t) (hn : S 4 u 1 = nI n) (hnl : n ≤ hw_ln 5 u) (hch : ∀ j, ib_c (S 5 u j)) (hnt : n ≤ hw_ln 5 t) : hw_M l yT_become cT_become 3 none ({ frames := 1, cells := 0, slots := 0, locals := 21 }) B [.ref (hw_a B 4 t), .ref (hw_a B 4 u)] nb S z (hw_pb t n nb S z) := by
  refine hw_M.of (by decide) (Nat.le_of_ble_eq_true rfl) ?_
  intro X fr hl hR G hr hnm
  have hlt := hw_ln_lt 5 u
  have hltt := hw_ln_lt 5 t
  refine hr_aload_n G dT_become_0 rfl rfl ?_
  refine hr_callVn (k := 4) (i := t) G rfl rfl (hA.lt ht) kT_56 iT_clear vT_clear (m_T_clear _ _ _ _ _ t hA hF ht) rfl rfl (Nat.le_of_ble_eq_true rfl) ⟨by rw [hR]; decide, by rw [hR]; decide⟩ ⟨by rw [hR]; decide, by rw [hR]; decide⟩ dT_become_1 ?_
  refine hr_iconst (v := 0) G dT_become_4 (by decide) ?_
  refine hr_istore_n (i := 2) G dT_become_5 rfl (by decide) ?_
  refine hr_L (L' := [(0, .ref (hw_a B 4 t)), (1, .ref (hw_a B 4 u)), (2, .int (nI 0))]) (hw_s1 rfl (hw_s1 rfl (hw_s1 rfl (hw_s0)))) ?_
  suffices H : ∀ (m i : Nat) (S1 : hw_St), tx_r t S S1 → S1 4 t 1 = nI i → n - i = m → i ≤ n → hw_V X B fr nb S1 z 0 0 (hw_MQ X B fr (hw_pb t n nb S z) 0 0) 3 6 [(0, .ref (hw_a B 4 t)), (1, .ref (hw_a B 4 u)), (2, .int (nI i))] [] from H _ 0 _ (tx_r.len 0 (Nat.zero_le _) ho.2) hw_sv_same rfl (Nat.zero_le _)
  intro m
  induction m with
  | zero =>
    intro i S1 h1 h0 hm hle
    obtain rfl : i = n := by omega
    have hF1 := h1.fx hF
    have e1 : S1 4 u 1 = nI i := by rw [h1.1 4 u 1 (by omega) (by omega)]; exact hn
    refine hr_iload_n G dT_become_6 rfl rfl ?_
    refine hr_aload_n G dT_become_7 rfl rfl ?_
    refine hr_get (v := .int (S1 4 u 1)) G fT_15 (hA.lt hu) rfl dT_become_8 ?_
    refine hr_icmp_ge (tgt := 30) G dT_become_11 (by decide) (fun _ => ?_) (fun h => absurd (show S1 4 u 1 ≤ nI i by rw [e1]; exact nI_le (Nat.le_refl _) (by omega)) h)
    exact hr_vret G hr (fun _ h => h) dT_become_30 ⟨rfl, rfl, ⟨h1, h0⟩, rfl⟩
  | succ m ih =>
    intro i S1 h1 h0 hm hle
    have hF1 := h1.fx hF
    have e1 : S1 4 u 1 = nI n := by rw [h1.1 4 u 1 (by omega) (by omega)]; exact hn
    have e2 : ib_c (S1 5 u i) := by rw [h1.1 5 u i (by omega) (by omega)]; exact hch i
    refine hr_iload_n G dT_become_6 rfl rfl ?_
    refine hr_aload_n G dT_become_7 rfl rfl ?_
    refine hr_get (v := .int (S1 4 u 1)) G fT_15 (hA.lt hu) rfl dT_become_8 ?_
    refine hr_icmp_ge (tgt := 30) G dT_become_11 (by decide) (fun h => absurd h (show ¬ S1 4 u 1 ≤ nI i by rw [e1]; exact nI_ge (by omega) (by omega))) (fun _ => ?_)
    refine hr_aload_n G dT_become_14 rfl rfl ?_
    refine hr_aload_n G dT_become_15 rfl rfl ?_
    refine hr_get (v := .ref (hw_a B 5 u)) G fT_9 (hA.lt hu) (hw_rfx hF1 hu rfl (by omega)) dT_become_16 ?_
    refine hr_iload_n G dT_become_19 rfl rfl ?_
    refine hr_cald (n := i) (v := .int (S1 5 u i)) G rfl (by decide) rfl (hA.lt hu) rfl (show i < hw_ln 5 u by omega) rfl dT_become_20 ?_
    refine hr_callVn (k := 4) (i := t) G rfl rfl (hA.lt ht) kT_28 iT_add vT_add (m_T_add _ _ _ _ _ t hA hF1 ht i (S1 5 u i) h0 (by omega) e2) rfl rfl (Nat.le_of_ble_eq_true rfl) ⟨by rw [hR]; decide, by rw [hR]; decide⟩ ⟨by rw [hR]; decide, by rw [hR]; decide⟩ dT_become_21 ?_
    refine hr_iinc (v := nI (i + 1)) G dT_become_24 rfl (nI_succ i).symm (by decide) ?_
    refine hr_goto (tgt := 6) G dT_become_27 (by decide) ?_
    refine hr_L (L' := [(0, .ref (hw_a B 4 t)), (1, .ref (hw_a B 4 u)), (2, .int (nI (i + 1)))]) (hw_s1 rfl (hw_s1 rfl (hw_s1 rfl (hw_s0)))) ?_
    exact ih (i + 1) _ (h1.tr (tx_r.add h0 (by omega) e2 h1.2.2)) (tx_add_len (by omega)) (by omega) (by omega)
end
section
/-! Sessions and tickets. -/
theorem ib_ft {x : Int32} (h : x = 0 ∨ x = 1) : fits .boolean (.int x) = true := by
  rcases h with rfl | rfl <;> rfl
theorem hw_nbs {nb : Nat → Nat} {k : Nat} : nb k < hw_nb nb k k := by
  unfold hw_nb; rw [if_pos rfl]; exact Nat.lt_succ_self _
def se_new (S : hw_St) (n : Nat) (x : Int32) (u : Nat) (t r : Int32) : hw_St := hw_sv (hw_sv (hw_sv (hw_sv (hw_sv (hw_sv S 9 n 5 1) 9 n 0 x) 9 n 1 (nI u)) 9 n 2 t) 9 n 3 r) 9 n 4 t
set_option maxRecDepth 100000 in
set_option maxHeartbeats 1000000 in
theorem m_S_init (l : Launch) (B : hw_B) (nb : Nat → Nat) (S : hw_St) (z : Nat) (n : Nat) (hi : n < nb 9) (x : Int32) (u : Nat) (hu : u < 4) (t r : Int32) (hr1 : ib_b r) : hw_M l yS_init cS_init 5 none ({ frames := 1, cells := 0, slots := 0, locals := 12 }) B [.ref (hw_a B 9 n), .int x, .ref (hw_a B 2 u), .int t, .int r] nb S z (hw_p (.inl none) nb (se_new S n x u t r) z) := by
  refine hw_M.of (by decide) (Nat.le_of_ble_eq_true rfl) ?_
  intro X fr hl hR G hr hnm
  refine hr_aload_n G dS_init_0 rfl rfl ?_
  refine hr_objInit G oS.1 oS.2.1 oS.2.2 dS_init_1 (by rw [hR]; decide) (by rw [hR]; decide) ?_
  refine hr_aload_n G dS_init_4 rfl rfl ?_
  refine hr_iconst (v := 1) G dS_init_5 (by decide) ?_
  refine hr_put (x := 1) G fS_7 hi rfl (rfl) rfl dS_init_6 ?_
  refine hr_aload_n G dS_init_9 rfl rfl ?_
  refine hr_iload_n G dS_init_10 rfl rfl ?_
  refine hr_putF (x := x) G fS_13 (fun _ _ _ _ h1 h2 => by cases h1; cases h2; rfl) hnm hi rfl (rfl) rfl dS_init_11 ?_
  refine hr_aload_n G dS_init_14 rfl rfl ?_
  refine hr_aload_n G dS_init_15 rfl rfl ?_
  refine hr_putF (x := nI u) (v := .ref (hw_a B 2 u)) G fS_17 (fun _ _ _ _ h1 h2 => by cases h1; cases h2; rfl) hnm hi (hw_rdr (by omega)) rfl rfl dS_init_16 ?_
  refine hr_aload_n G dS_init_19 rfl rfl ?_
  refine hr_iload_n G dS_init_20 rfl rfl ?_
  refine hr_putF (x := t) G fS_21 (fun _ _ _ _ h1 h2 => by cases h1; cases h2; rfl) hnm hi rfl (rfl) rfl dS_init_21 ?_
  refine hr_aload_n G dS_init_24 rfl rfl ?_
  refine hr_iload G dS_init_25 rfl ?_
  refine hr_putF (x := r) G fS_24 (fun _ _ _ _ h1 h2 => by cases h1; cases h2; rfl) hnm hi rfl (ib_01 hr1) (ib_ft hr1) dS_init_27 ?_
  refine hr_aload_n G dS_init_30 rfl rfl ?_
  refine hr_iload_n G dS_init_31 rfl rfl ?_
  refine hr_put (x := t) G fS_27 hi rfl (rfl) rfl dS_init_32 ?_
  exact hr_vret G hr (fun _ h => h) dS_init_35 ⟨rfl, rfl, rfl, rfl⟩
def hs_opn (S : hw_St) (n u : Nat) (r : Int32) : hw_St := hw_sv (hw_sv (se_new (hw_nw S 9 n) n (S 0 0 8) u (S 0 0 11) r) 8 0 n (nI n)) 0 0 8 (S 0 0 8 + 1)
theorem se_new_fx {S : hw_St} {n : Nat} {x : Int32} {u : Nat} {t r : Int32} (h : hw_Fx S) : hw_Fx (se_new S n x u t r) := (((((h.sv rfl).sv rfl).sv rfl).sv rfl).sv rfl).sv rfl
set_option maxRecDepth 100000 in
set_option maxHeartbeats 1000000 in
theorem m_H_openSession (l : Launch) (B : hw_B) (nb : Nat → Nat) (S : hw_St) (z : Nat) (hA : hw_al nb) (hF : hw_Fx S) (u : Nat) (hu : u < 4) (r : Int32) (hr1 : ib_b r) (hc9 : S 0 0 8 = nI (nb 9)) (hn9 : nb 9 < 40) (hz : hw_a B 9 (nb 9) = z) : hw_M l yH_openSession cH_openSession 4 (some (.object "TicketHouse$Session")) ({ frames := 2, cells := 1, slots := 6, locals := 36 }) B [.ref (hw_a B 0 0), .ref (hw_a B 2 u), .int r] nb S z (hw_p (.inl (some (.ref (hw_a B 9 (nb 9))))) (hw_nb nb 9) (hs_opn S (nb 9) u r) (z + 1)) := by
  refine hw_M.of (by decide) (Nat.le_of_ble_eq_true rfl) ?_
  intro X fr hl hR G hr hnm
  refine hr_new G wH_23 hz (by rw [hR]; decide) (by rw [hR]; decide) dH_openSession_0 ?_
  refine hr_dup G dH_openSession_3 rfl ?_
  refine hr_aload_n G dH_openSession_4 rfl rfl ?_
  refine hr_get (v := .int (S 0 0 8)) G fH_101 ((hA.nb (k := 9) rfl).lt (show 0 < hw_n0 0 by decide)) rfl dH_openSession_5 ?_
  refine hr_aload_n G dH_openSession_8 rfl rfl ?_
  refine hr_aload_n G dH_openSession_9 rfl rfl ?_
  refine hr_get (v := .int (S 0 0 11)) G fH_106 ((hA.nb (k := 9) rfl).lt (show 0 < hw_n0 0 by decide)) rfl dH_openSession_10 ?_
  refine hr_iload_n G dH_openSession_13 rfl rfl ?_
  refine hr_callIn (k := 9) (i := (nb 9)) G kH_251 iS_init rfl (m_S_init _ _ _ _ _ (nb 9) hw_nbs (S 0 0 8) u hu (S 0 0 11) r hr1) rfl rfl (Nat.le_of_ble_eq_true rfl) ⟨by rw [hR]; decide, by rw [hR]; decide⟩ ⟨by rw [hR]; decide, by rw [hR]; decide⟩ dH_openSession_14 ?_
  refine hr_astore_n (i := 3) G dH_openSession_17 rfl (by decide) ?_
  refine hr_aload_n G dH_openSession_18 rfl rfl ?_
  refine hr_get (v := .ref (hw_a B 8 0)) G fH_25 ((hA.nb (k := 9) rfl).lt (show 0 < hw_n0 0 by decide)) (hw_rfx (se_new_fx (hF.nw (k := 9) rfl)) (by decide) rfl (by decide)) dH_openSession_19 ?_
  refine hr_aload_n G dH_openSession_22 rfl rfl ?_
  refine hr_get (v := .int (S 0 0 8)) G fH_101 ((hA.nb (k := 9) rfl).lt (show 0 < hw_n0 0 by decide)) rfl dH_openSession_23 ?_
  refine hr_aload_n G dH_openSession_26 rfl rfl ?_
  refine hr_aast (n := (nb 9)) (v := (nb 9)) G rfl (by decide) rfl rfl rfl ((hA.nb (k := 9) rfl).lt (show 0 < hw_n0 8 by decide)) hw_nbs (by omega) hc9 hn9 rfl dH_openSession_27 ?_
  refine hr_aload_n G dH_openSession_28 rfl rfl ?_
  refine hr_dup G dH_openSession_29 rfl ?_
  refine hr_get (v := .int (S 0 0 8)) G fH_101 ((hA.nb (k := 9) rfl).lt (show 0 < hw_n0 0 by decide)) rfl dH_openSession_30 ?_
  refine hr_iconst (v := 1) G dH_openSession_33 (by decide) ?_
  refine hr_iadd G dH_openSession_34 ?_
  refine hr_put (x := ((S 0 0 8) + 1)) G fH_101 ((hA.nb (k := 9) rfl).lt (show 0 < hw_n0 0 by decide)) rfl (rfl) rfl dH_openSession_35 ?_
  refine hr_aload_n G dH_openSession_38 rfl rfl ?_
  exact hr_aret G hr (Or.inr ⟨_, rfl⟩) (fun _ h => h) dH_openSession_39 ⟨rfl, rfl, rfl, rfl⟩
def tk_new (S : hw_St) (n : Nat) (x k : Int32) (s : Nat) (w t f c : Int32) : hw_St := hw_sv (hw_sv (hw_sv (hw_sv (hw_sv (hw_sv (hw_sv S 11 n 0 x) 11 n 1 k) 11 n 2 (nI s)) 11 n 3 w) 11 n 4 t) 11 n 5 f) 11 n 6 c
theorem tk_new_fx {S : hw_St} {n : Nat} {x k : Int32} {s : Nat} {w t f c : Int32} (h : hw_Fx S) : hw_Fx (tk_new S n x k s w t f c) := ((((((h.sv rfl).sv rfl).sv rfl).sv rfl).sv rfl).sv rfl).sv rfl
def hs_giv (S : hw_St) (n : Nat) (k : Int32) (s : Nat) (w f c : Int32) : hw_St := hw_sv (hw_sv (tk_new (hw_nw S 11 n) n (S 0 0 9) k s w (S 0 0 11) f c) 10 0 n (nI n)) 0 0 9 (S 0 0 9 + 1)
set_option maxRecDepth 100000 in
set_option maxHeartbeats 1000000 in
theorem m_K_init_n (l : Launch) (B : hw_B) (nb : Nat → Nat) (S : hw_St) (z : Nat) (n : Nat) (hi : n < nb 11) (x k : Int32) (s : Nat) (hs : s < 2 ^ 31) (w t : Int32) : hw_M l yK_init cK_init 8 none ({ frames := 1, cells := 0, slots := 0, locals := 12 }) B [.ref (hw_a B 11 n), .int x, .int k, .ref (hw_a B 9 s), .int w, .int t, .null] nb S z (hw_p (.inl none) nb (tk_new S n x k s w t (-1) (if k = 2 then 0 + 1 else 0)) z) := by
  refine hw_M.of (by decide) (Nat.le_of_ble_eq_true rfl) ?_
  intro X fr hl hR G hr hnm
  refine hr_aload_n G dK_init_0 rfl rfl ?_
  refine hr_objInit G oK.1 oK.2.1 oK.2.2 dK_init_1 (by rw [hR]; decide) (by rw [hR]; decide) ?_
  refine hr_aload_n G dK_init_4 rfl rfl ?_
  refine hr_iload_n G dK_init_5 rfl rfl ?_
  refine hr_putF (x := x) G fK_9 (fun _ _ _ _ h1 h2 => by cases h1; cases h2; rfl) hnm hi rfl (rfl) rfl dK_init_6 ?_
  refine hr_aload_n G dK_init_9 rfl rfl ?_
  refine hr_iload_n G dK_init_10 rfl rfl ?_
  refine hr_putF (x := k) G fK_15 (fun _ _ _ _ h1 h2 => by cases h1; cases h2; rfl) hnm hi rfl (rfl) rfl dK_init_11 ?_
  refine hr_aload_n G dK_init_14 rfl rfl ?_
  refine hr_aload_n G dK_init_15 rfl rfl ?_
  refine hr_putF (x := nI s) (v := .ref (hw_a B 9 s)) G fK_18 (fun _ _ _ _ h1 h2 => by cases h1; cases h2; rfl) hnm hi (hw_rdr (by omega)) rfl rfl dK_init_16 ?_
  refine hr_aload_n G dK_init_19 rfl rfl ?_
  refine hr_iload G dK_init_20 rfl ?_
  refine hr_putF (x := w) G fK_22 (fun _ _ _ _ h1 h2 => by cases h1; cases h2; rfl) hnm hi rfl (rfl) rfl dK_init_22 ?_
  refine hr_aload_n G dK_init_25 rfl rfl ?_
  refine hr_iload G dK_init_26 rfl ?_
  refine hr_putF (x := t) G fK_25 (fun _ _ _ _ h1 h2 => by cases h1; cases h2; rfl) hnm hi rfl (rfl) rfl dK_init_28 ?_
  refine hr_aload_n G dK_init_31 rfl rfl ?_
  refine hr_aloadN G dK_init_32 rfl ?_
  refine hr_putF (x := -1) G fK_28 (fun _ _ _ _ h1 h2 => by cases h1; cases h2; rfl) hnm hi (hw_rdn (by decide)) rfl rfl dK_init_34 ?_
  refine hr_aloadN G dK_init_37 rfl ?_
  refine hr_ifnonnullN G dK_init_39 ?_
  refine hr_iconst (v := 0) G dK_init_42 (by decide) ?_
  refine hr_goto (tgt := 51) G dK_init_43 (by decide) ?_
  refine hr_istore (i := 7) G dK_init_51 (by decide) ?_
  refine hr_aload_n G dK_init_53 rfl rfl ?_
  refine hr_iload_n G dK_init_54 rfl rfl ?_
  refine hr_iconst (v := 2) G dK_init_55 (by decide) ?_
  refine hr_icmp_ne (tgt := 66) G dK_init_56 (by decide) (fun h56 => ?_) (fun h56 => ?_)
  · skip
    refine hr_iload G dK_init_66 rfl ?_
    refine hr_putF (x := 0) G fK_32 (fun _ _ _ _ h1 h2 => by cases h1; cases h2; rfl) hnm hi rfl (rfl) rfl dK_init_68 ?_
    exact hr_vret G hr (fun _ h => h) dK_init_71 ⟨rfl, rfl, by first | (rw [if_pos h56]; rfl) | (rw [if_neg h56]; rfl), rfl⟩
  · skip
    refine hr_iload G dK_init_59 rfl ?_
    refine hr_iconst (v := 1) G dK_init_61 (by decide) ?_
    refine hr_iadd G dK_init_62 ?_
    refine hr_goto (tgt := 68) G dK_init_63 (by decide) ?_
    refine hr_putF (x := (0 + 1)) G fK_32 (fun _ _ _ _ h1 h2 => by cases h1; cases h2; rfl) hnm hi rfl (rfl) rfl dK_init_68 ?_
    exact hr_vret G hr (fun _ h => h) dK_init_71 ⟨rfl, rfl, by first | (rw [if_pos h56]; rfl) | (rw [if_neg h56]; rfl), rfl⟩
set_option maxRecDepth 100000 in
set_option maxHeartbeats 1000000 in
theorem m_K_init_p (l : Launch) (B : hw_B) (nb : Nat → Nat) (S : hw_St) (z : Nat) (n : Nat) (hi : n < nb 11) (x k : Int32) (s : Nat) (hs : s < 2 ^ 31) (w t : Int32) (p : Nat) (hp : p < n) (h31 : n < 2 ^ 31) (c : Int32) (hc : S 11 p 6 = c) : hw_M l yK_init cK_init 8 none ({ frames := 1, cells := 0, slots := 0, locals := 12 }) B [.ref (hw_a B 11 n), .int x, .int k, .ref (hw_a B 9 s), .int w, .int t, .ref (hw_a B 11 p)] nb S z (hw_p (.inl none) nb (tk_new S n x k s w t (nI p) (if k = 2 then c + 1 else c)) z) := by
  refine hw_M.of (by decide) (Nat.le_of_ble_eq_true rfl) ?_
  intro X fr hl hR G hr hnm
  have hpn : ¬ p = n := Nat.ne_of_lt hp
  refine hr_aload_n G dK_init_0 rfl rfl ?_
  refine hr_objInit G oK.1 oK.2.1 oK.2.2 dK_init_1 (by rw [hR]; decide) (by rw [hR]; decide) ?_
  refine hr_aload_n G dK_init_4 rfl rfl ?_
  refine hr_iload_n G dK_init_5 rfl rfl ?_
  refine hr_putF (x := x) G fK_9 (fun _ _ _ _ h1 h2 => by cases h1; cases h2; rfl) hnm hi rfl (rfl) rfl dK_init_6 ?_
  refine hr_aload_n G dK_init_9 rfl rfl ?_
  refine hr_iload_n G dK_init_10 rfl rfl ?_
  refine hr_putF (x := k) G fK_15 (fun _ _ _ _ h1 h2 => by cases h1; cases h2; rfl) hnm hi rfl (rfl) rfl dK_init_11 ?_
  refine hr_aload_n G dK_init_14 rfl rfl ?_
  refine hr_aload_n G dK_init_15 rfl rfl ?_
  refine hr_putF (x := nI s) (v := .ref (hw_a B 9 s)) G fK_18 (fun _ _ _ _ h1 h2 => by cases h1; cases h2; rfl) hnm hi (hw_rdr (by omega)) rfl rfl dK_init_16 ?_
  refine hr_aload_n G dK_init_19 rfl rfl ?_
  refine hr_iload G dK_init_20 rfl ?_
  refine hr_putF (x := w) G fK_22 (fun _ _ _ _ h1 h2 => by cases h1; cases h2; rfl) hnm hi rfl (rfl) rfl dK_init_22 ?_
  refine hr_aload_n G dK_init_25 rfl rfl ?_
  refine hr_iload G dK_init_26 rfl ?_
  refine hr_putF (x := t) G fK_25 (fun _ _ _ _ h1 h2 => by cases h1; cases h2; rfl) hnm hi rfl (rfl) rfl dK_init_28 ?_
  refine hr_aload_n G dK_init_31 rfl rfl ?_
  refine hr_aload G dK_init_32 rfl ?_
  refine hr_putF (x := nI p) (v := .ref (hw_a B 11 p)) G fK_28 (fun _ _ _ _ h1 h2 => by cases h1; cases h2; rfl) hnm hi (hw_rdr (by omega)) rfl rfl dK_init_34 ?_
  refine hr_aload G dK_init_37 rfl ?_
  refine hr_ifnonnull (tgt := 46) G dK_init_39 (by decide) ?_
  refine hr_aload G dK_init_46 rfl ?_
  refine hr_get (v := .int c) G fK_32 (show p < nb 11 by omega) (by show Value.int _ = Value.int _; rw [← hc]; simp [hw_sv, hpn]) dK_init_48 ?_
  refine hr_istore (i := 7) G dK_init_51 (by decide) ?_
  refine hr_aload_n G dK_init_53 rfl rfl ?_
  refine hr_iload_n G dK_init_54 rfl rfl ?_
  refine hr_iconst (v := 2) G dK_init_55 (by decide) ?_
  refine hr_icmp_ne (tgt := 66) G dK_init_56 (by decide) (fun h56 => ?_) (fun h56 => ?_)
  · skip
    refine hr_iload G dK_init_66 rfl ?_
    refine hr_putF (x := c) G fK_32 (fun _ _ _ _ h1 h2 => by cases h1; cases h2; rfl) hnm hi rfl (rfl) rfl dK_init_68 ?_
    exact hr_vret G hr (fun _ h => h) dK_init_71 ⟨rfl, rfl, by first | (rw [if_pos h56]; rfl) | (rw [if_neg h56]; rfl), rfl⟩
  · skip
    refine hr_iload G dK_init_59 rfl ?_
    refine hr_iconst (v := 1) G dK_init_61 (by decide) ?_
    refine hr_iadd G dK_init_62 ?_
    refine hr_goto (tgt := 68) G dK_init_63 (by decide) ?_
    refine hr_putF (x := (c + 1)) G fK_32 (fun _ _ _ _ h1 h2 => by cases h1; cases h2; rfl) hnm hi rfl (rfl) rfl dK_init_68 ?_
    exact hr_vret G hr (fun _ h => h) dK_init_71 ⟨rfl, rfl, by first | (rw [if_pos h56]; rfl) | (rw [if_neg h56]; rfl), rfl⟩
set_option maxRecDepth 100000 in
set_option maxHeartbeats 1000000 in
theorem m_H_giveTicket_n (l : Launch) (B : hw_B) (nb : Nat → Nat) (S : hw_St) (z : Nat) (hA : hw_al nb) (hF : hw_Fx S) (k : Int32) (s : Nat) (hs : s < nb 9) (hs31 : s < 2 ^ 31) (w : Int32) (hc11 : S 0 0 9 = nI (nb 11)) (hn11 : nb 11 < 150) (hz : hw_a B 11 (nb 11) = z) : hw_M l yH_giveTicket cH_giveTicket 6 (some (.object "TicketHouse$Ticket")) ({ frames := 2, cells := 1, slots := 9, locals := 39 }) B [.ref (hw_a B 0 0), .int k, .ref (hw_a B 9 s), .int w, .null] nb S z (hw_p (.inl (some (.ref (hw_a B 11 (nb 11))))) (hw_nb nb 11) (hs_giv S (nb 11) k s w (-1) (if k = 2 then 0 + 1 else 0)) (z + 1)) := by
  refine hw_M.of (by decide) (Nat.le_of_ble_eq_true rfl) ?_
  intro X fr hl hR G hr hnm
  refine hr_new G wH_29 hz (by rw [hR]; decide) (by rw [hR]; decide) dH_giveTicket_0 ?_
  refine hr_dup G dH_giveTicket_3 rfl ?_
  refine hr_aload_n G dH_giveTicket_4 rfl rfl ?_
  refine hr_get (v := .int (S 0 0 9)) G fH_125 ((hA.nb (k := 11) rfl).lt (show 0 < hw_n0 0 by decide)) rfl dH_giveTicket_5 ?_
  refine hr_iload_n G dH_giveTicket_8 rfl rfl ?_
  refine hr_aload_n G dH_giveTicket_9 rfl rfl ?_
  refine hr_iload_n G dH_giveTicket_10 rfl rfl ?_
  refine hr_aload_n G dH_giveTicket_11 rfl rfl ?_
  refine hr_get (v := .int (S 0 0 11)) G fH_106 ((hA.nb (k := 11) rfl).lt (show 0 < hw_n0 0 by decide)) rfl dH_giveTicket_12 ?_
  refine hr_aloadN G dH_giveTicket_15 rfl ?_
  refine hr_callIn (k := 11) (i := (nb 11)) G kH_254 iK_init rfl (m_K_init_n _ _ _ _ _ (nb 11) hw_nbs (S 0 0 9) k s hs31 w (S 0 0 11)) rfl rfl (Nat.le_of_ble_eq_true rfl) ⟨by rw [hR]; decide, by rw [hR]; decide⟩ ⟨by rw [hR]; decide, by rw [hR]; decide⟩ dH_giveTicket_17 ?_
  refine hr_astore (i := 5) G dH_giveTicket_20 (by decide) ?_
  refine hr_aload_n G dH_giveTicket_22 rfl rfl ?_
  refine hr_get (v := .ref (hw_a B 10 0)) G fH_31 ((hA.nb (k := 11) rfl).lt (show 0 < hw_n0 0 by decide)) (hw_rfx (tk_new_fx (hF.nw (k := 11) rfl)) (by decide) rfl (by decide)) dH_giveTicket_23 ?_
  refine hr_aload_n G dH_giveTicket_26 rfl rfl ?_
  refine hr_get (v := .int (S 0 0 9)) G fH_125 ((hA.nb (k := 11) rfl).lt (show 0 < hw_n0 0 by decide)) rfl dH_giveTicket_27 ?_
  refine hr_aload G dH_giveTicket_30 rfl ?_
  refine hr_aast (n := (nb 11)) (v := (nb 11)) G rfl (by decide) rfl rfl rfl ((hA.nb (k := 11) rfl).lt (show 0 < hw_n0 10 by decide)) hw_nbs (by omega) hc11 hn11 rfl dH_giveTicket_32 ?_
  refine hr_aload_n G dH_giveTicket_33 rfl rfl ?_
  refine hr_dup G dH_giveTicket_34 rfl ?_
  refine hr_get (v := .int (S 0 0 9)) G fH_125 ((hA.nb (k := 11) rfl).lt (show 0 < hw_n0 0 by decide)) rfl dH_giveTicket_35 ?_
  refine hr_iconst (v := 1) G dH_giveTicket_38 (by decide) ?_
  refine hr_iadd G dH_giveTicket_39 ?_
  refine hr_put (x := ((S 0 0 9) + 1)) G fH_125 ((hA.nb (k := 11) rfl).lt (show 0 < hw_n0 0 by decide)) rfl (rfl) rfl dH_giveTicket_40 ?_
  refine hr_aload G dH_giveTicket_43 rfl ?_
  exact hr_aret G hr (Or.inr ⟨_, rfl⟩) (fun _ h => h) dH_giveTicket_45 ⟨rfl, rfl, rfl, rfl⟩
set_option maxRecDepth 100000 in
set_option maxHeartbeats 1000000 in
theorem m_H_giveTicket_p (l : Launch) (B : hw_B) (nb : Nat → Nat) (S : hw_St) (z : Nat) (hA : hw_al nb) (hF : hw_Fx S) (k : Int32) (s : Nat) (hs : s < nb 9) (hs31 : s < 2 ^ 31) (w : Int32) (hc11 : S 0 0 9 = nI (nb 11)) (hn11 : nb 11 < 150) (hz : hw_a B 11 (nb 11) = z) (p : Nat) (hp : p < nb 11) : hw_M l yH_giveTicket cH_giveTicket 6 (some (.object "TicketHouse$Ticket")) ({ frames := 2, cells := 1, slots := 9, locals := 39 }) B [.ref (hw_a B 0 0), .int k, .ref (hw_a B 9 s), .int w, .ref (hw_a B 11 p)] nb S z (hw_p (.inl (some (.ref (hw_a B 11 (nb 11))))) (hw_nb nb 11) (hs_giv S (nb 11) k s w (nI p) (if k = 2 then S 11 p 6 + 1 else S 11 p 6)) (z + 1)) := by
  refine hw_M.of (by decide) (Nat.le_of_ble_eq_true rfl) ?_
  intro X fr hl hR G hr hnm
  have hpc : hw_nw S 11 (nb 11) 11 p 6 = S 11 p 6 := by
    unfold hw_nw; rw [if_neg (by omega)]
  refine hr_new G wH_29 hz (by rw [hR]; decide) (by rw [hR]; decide) dH_giveTicket_0 ?_
  refine hr_dup G dH_giveTicket_3 rfl ?_
  refine hr_aload_n G dH_giveTicket_4 rfl rfl ?_
  refine hr_get (v := .int (S 0 0 9)) G fH_125 ((hA.nb (k := 11) rfl).lt (show 0 < hw_n0 0 by decide)) rfl dH_giveTicket_5 ?_
  refine hr_iload_n G dH_giveTicket_8 rfl rfl ?_
  refine hr_aload_n G dH_giveTicket_9 rfl rfl ?_
  refine hr_iload_n G dH_giveTicket_10 rfl rfl ?_
  refine hr_aload_n G dH_giveTicket_11 rfl rfl ?_
  refine hr_get (v := .int (S 0 0 11)) G fH_106 ((hA.nb (k := 11) rfl).lt (show 0 < hw_n0 0 by decide)) rfl dH_giveTicket_12 ?_
  refine hr_aload G dH_giveTicket_15 rfl ?_
  refine hr_callIn (k := 11) (i := (nb 11)) G kH_254 iK_init rfl (m_K_init_p _ _ _ _ _ (nb 11) hw_nbs (S 0 0 9) k s hs31 w (S 0 0 11) p hp (by omega) (S 11 p 6) hpc) rfl rfl (Nat.le_of_ble_eq_true rfl) ⟨by rw [hR]; decide, by rw [hR]; decide⟩ ⟨by rw [hR]; decide, by rw [hR]; decide⟩ dH_giveTicket_17 ?_
  refine hr_astore (i := 5) G dH_giveTicket_20 (by decide) ?_
  refine hr_aload_n G dH_giveTicket_22 rfl rfl ?_
  refine hr_get (v := .ref (hw_a B 10 0)) G fH_31 ((hA.nb (k := 11) rfl).lt (show 0 < hw_n0 0 by decide)) (hw_rfx (tk_new_fx (hF.nw (k := 11) rfl)) (by decide) rfl (by decide)) dH_giveTicket_23 ?_
  refine hr_aload_n G dH_giveTicket_26 rfl rfl ?_
  refine hr_get (v := .int (S 0 0 9)) G fH_125 ((hA.nb (k := 11) rfl).lt (show 0 < hw_n0 0 by decide)) rfl dH_giveTicket_27 ?_
  refine hr_aload G dH_giveTicket_30 rfl ?_
  refine hr_aast (n := (nb 11)) (v := (nb 11)) G rfl (by decide) rfl rfl rfl ((hA.nb (k := 11) rfl).lt (show 0 < hw_n0 10 by decide)) hw_nbs (by omega) hc11 hn11 rfl dH_giveTicket_32 ?_
  refine hr_aload_n G dH_giveTicket_33 rfl rfl ?_
  refine hr_dup G dH_giveTicket_34 rfl ?_
  refine hr_get (v := .int (S 0 0 9)) G fH_125 ((hA.nb (k := 11) rfl).lt (show 0 < hw_n0 0 by decide)) rfl dH_giveTicket_35 ?_
  refine hr_iconst (v := 1) G dH_giveTicket_38 (by decide) ?_
  refine hr_iadd G dH_giveTicket_39 ?_
  refine hr_put (x := ((S 0 0 9) + 1)) G fH_125 ((hA.nb (k := 11) rfl).lt (show 0 < hw_n0 0 by decide)) rfl (rfl) rfl dH_giveTicket_40 ?_
  refine hr_aload G dH_giveTicket_43 rfl ?_
  exact hr_aret G hr (Or.inr ⟨_, rfl⟩) (fun _ h => h) dH_giveTicket_45 ⟨rfl, rfl, rfl, rfl⟩
set_option maxRecDepth 100000 in
set_option maxHeartbeats 1000000 in
theorem m_H_grantFor_y (l : Launch) (B : hw_B) (nb : Nat → Nat) (S : hw_St) (z : Nat) (hA : hw_al nb) (hF : hw_Fx S) (i s w c : Nat) (hi : i < nb 11) (hs : s < nb 9) (hs31 : s < 2 ^ 31) (hts : S 11 i 2 = nI s) (hw : w < 6) (htw : S 11 i 3 = nI w) (hcb : c < 6) (hc11 : S 0 0 9 = nI (nb 11)) (hn11 : nb 11 < 150) (hz : hw_a B 11 (nb 11) = z) (hd1 : ¬ S 7 0 c = 0) (hd2 : ¬ hs_fl S w 2 = 0) : hw_M l yH_grantFor cH_grantFor 4 (some (.object "TicketHouse$Ticket")) ({ frames := 3, cells := 1, slots := 9, locals := 64 }) B [.ref (hw_a B 0 0), .ref (hw_a B 11 i), .int (nI c)] nb S z (hw_p (.inl (some (.ref (hw_a B 11 (nb 11))))) (hw_nb nb 11) (hs_giv S (nb 11) 2 s (nI c) (nI i) (S 11 i 6 + 1)) (z + 1)) := by
  refine hw_M.of (by decide) (Nat.le_of_ble_eq_true rfl) ?_
  intro X fr hl hR G hr hnm
  refine hr_aload_n G dH_grantFor_0 rfl rfl ?_
  refine hr_get (v := .ref (hw_a B 7 0)) G fH_19 (hA.lt (show 0 < hw_n0 0 by decide)) (hw_rfx hF (by decide) rfl (by decide)) dH_grantFor_1 ?_
  refine hr_iload_n G dH_grantFor_4 rfl rfl ?_
  refine hr_zald (n := c) (v := .int (S 7 0 c)) G rfl (by decide) rfl (hA.lt (show 0 < hw_n0 7 by decide)) rfl hcb rfl dH_grantFor_5 ?_
  refine hr_if_eq (tgt := 35) G dH_grantFor_6 (by decide) (fun h => absurd h hd1) (fun _ => ?_)
  refine hr_aload_n G dH_grantFor_9 rfl rfl ?_
  refine hr_aload_n G dH_grantFor_10 rfl rfl ?_
  refine hr_get (v := .int (S 11 i 3)) G fH_226 hi rfl dH_grantFor_11 ?_
  refine hr_iconst (v := 2) G dH_grantFor_14 (by decide) ?_
  refine hr_st (st' := [.int 2, .int (nI w), .ref (hw_a B 0 0)]) (by rw [htw]) ?_
  refine hr_callVs (k := 0) (i := 0) G rfl rfl (hA.lt (show 0 < hw_n0 0 by decide)) kH_247 iH_hasFlag vH_hasFlag (m_H_hasFlag_y _ _ _ _ _ hA hF w 2 hw) rfl rfl (Nat.le_of_ble_eq_true rfl) ⟨by rw [hR]; decide, by rw [hR]; decide⟩ ⟨by rw [hR]; decide, by rw [hR]; decide⟩ dH_grantFor_15 ?_
  refine hr_if_eq (tgt := 35) G dH_grantFor_18 (by decide) (fun h => absurd h hd2) (fun _ => ?_)
  refine hr_aload_n G dH_grantFor_21 rfl rfl ?_
  refine hr_get (v := .int (S 0 0 9)) G fH_125 (hA.lt (show 0 < hw_n0 0 by decide)) rfl dH_grantFor_22 ?_
  refine hr_sipush (v := 150) G dH_grantFor_25 (by decide) ?_
  refine hr_icmp_ge (tgt := 35) G dH_grantFor_28 (by decide) (fun h => absurd h (show ¬ (150 : Int32) ≤ S 0 0 9 by rw [hc11]; exact nI_ge (b := 150) hn11 (by decide))) (fun _ => ?_)
  refine hr_iconst (v := 1) G dH_grantFor_31 (by decide) ?_
  refine hr_goto (tgt := 36) G dH_grantFor_32 (by decide) ?_
  refine hr_istore_n (i := 3) G dH_grantFor_36 rfl (by decide) ?_
  refine hr_iload_n G dH_grantFor_37 rfl rfl ?_
  refine hr_if_eq (tgt := 55) G dH_grantFor_38 (by decide) (fun h => absurd h (by decide)) (fun _ => ?_)
  refine hr_aload_n G dH_grantFor_41 rfl rfl ?_
  refine hr_iconst (v := 2) G dH_grantFor_42 (by decide) ?_
  refine hr_aload_n G dH_grantFor_43 rfl rfl ?_
  refine hr_get (v := .ref (hw_a B 9 s)) G fH_167 hi (hw_rdy hts (by omega)) dH_grantFor_44 ?_
  refine hr_iload_n G dH_grantFor_47 rfl rfl ?_
  refine hr_aload_n G dH_grantFor_48 rfl rfl ?_
  refine hr_callVs (k := 0) (i := 0) G rfl rfl (hA.lt (show 0 < hw_n0 0 by decide)) kH_130 iH_giveTicket vH_giveTicket (m_H_giveTicket_p _ _ _ _ _ hA hF 2 s hs hs31 (nI c) hc11 hn11 hz i hi) rfl rfl (Nat.le_of_ble_eq_true rfl) ⟨by rw [hR]; decide, by rw [hR]; decide⟩ ⟨by rw [hR]; decide, by rw [hR]; decide⟩ dH_grantFor_49 ?_
  refine hr_goto (tgt := 56) G dH_grantFor_52 (by decide) ?_
  exact hr_aret G hr (Or.inr ⟨_, rfl⟩) (fun _ h => h) dH_grantFor_56 ⟨rfl, rfl, rfl, rfl⟩
set_option maxRecDepth 100000 in
set_option maxHeartbeats 1000000 in
theorem m_H_grantFor_n (l : Launch) (B : hw_B) (nb : Nat → Nat) (S : hw_St) (z : Nat) (hA : hw_al nb) (hF : hw_Fx S) (i s w c : Nat) (hi : i < nb 11) (hs : s < nb 9) (hs31 : s < 2 ^ 31) (hts : S 11 i 2 = nI s) (hw : w < 6) (htw : S 11 i 3 = nI w) (hcb : c < 6) (hc11 : S 0 0 9 = nI (nb 11)) (hn11 : nb 11 ≤ 150) (hnd : ¬ (¬ S 7 0 c = 0 ∧ ¬ hs_fl S w 2 = 0 ∧ nb 11 < 150)) : hw_M l yH_grantFor cH_grantFor 4 (some (.object "TicketHouse$Ticket")) ({ frames := 3, cells := 1, slots := 9, locals := 64 }) B [.ref (hw_a B 0 0), .ref (hw_a B 11 i), .int (nI c)] nb S z (hw_p (.inl (some .null)) nb S z) := by
  refine hw_M.of (by decide) (Nat.le_of_ble_eq_true rfl) ?_
  intro X fr hl hR G hr hnm
  refine hr_aload_n G dH_grantFor_0 rfl rfl ?_
  refine hr_get (v := .ref (hw_a B 7 0)) G fH_19 (hA.lt (show 0 < hw_n0 0 by decide)) (hw_rfx hF (by decide) rfl (by decide)) dH_grantFor_1 ?_
  refine hr_iload_n G dH_grantFor_4 rfl rfl ?_
  refine hr_zald (n := c) (v := .int (S 7 0 c)) G rfl (by decide) rfl (hA.lt (show 0 < hw_n0 7 by decide)) rfl hcb rfl dH_grantFor_5 ?_
  refine hr_if_eq (tgt := 35) G dH_grantFor_6 (by decide) (fun h6 => ?_) (fun h6 => ?_)
  · skip
    refine hr_iconst (v := 0) G dH_grantFor_35 (by decide) ?_
    refine hr_istore_n (i := 3) G dH_grantFor_36 rfl (by decide) ?_
    refine hr_iload_n G dH_grantFor_37 rfl rfl ?_
    refine hr_if_eq (tgt := 55) G dH_grantFor_38 (by decide) (fun _ => ?_) (fun h => absurd (by decide) h)
    refine hr_null G dH_grantFor_55 ?_
    refine hr_wide (c' := 1) (sl' := 9) (Nat.le_of_ble_eq_true rfl) (Nat.le_of_ble_eq_true rfl) ?_
    exact hr_aret G hr (Or.inl rfl) (fun _ h => h) dH_grantFor_56 ⟨rfl, rfl, rfl, rfl⟩
  · skip
    refine hr_aload_n G dH_grantFor_9 rfl rfl ?_
    refine hr_aload_n G dH_grantFor_10 rfl rfl ?_
    refine hr_get (v := .int (S 11 i 3)) G fH_226 hi rfl dH_grantFor_11 ?_
    refine hr_iconst (v := 2) G dH_grantFor_14 (by decide) ?_
    refine hr_st (st' := [.int 2, .int (nI w), .ref (hw_a B 0 0)]) (by rw [htw]) ?_
    refine hr_callVs (k := 0) (i := 0) G rfl rfl (hA.lt (show 0 < hw_n0 0 by decide)) kH_247 iH_hasFlag vH_hasFlag (m_H_hasFlag_y _ _ _ _ _ hA hF w 2 hw) rfl rfl (Nat.le_of_ble_eq_true rfl) ⟨by rw [hR]; decide, by rw [hR]; decide⟩ ⟨by rw [hR]; decide, by rw [hR]; decide⟩ dH_grantFor_15 ?_
    refine hr_if_eq (tgt := 35) G dH_grantFor_18 (by decide) (fun h18 => ?_) (fun h18 => ?_)
    · skip
      refine hr_iconst (v := 0) G dH_grantFor_35 (by decide) ?_
      refine hr_istore_n (i := 3) G dH_grantFor_36 rfl (by decide) ?_
      refine hr_iload_n G dH_grantFor_37 rfl rfl ?_
      refine hr_if_eq (tgt := 55) G dH_grantFor_38 (by decide) (fun _ => ?_) (fun h => absurd (by decide) h)
      refine hr_null G dH_grantFor_55 ?_
      refine hr_wide (c' := 1) (sl' := 9) (Nat.le_of_ble_eq_true rfl) (Nat.le_of_ble_eq_true rfl) ?_
      exact hr_aret G hr (Or.inl rfl) (fun _ h => h) dH_grantFor_56 ⟨rfl, rfl, rfl, rfl⟩
    · skip
      refine hr_aload_n G dH_grantFor_21 rfl rfl ?_
      refine hr_get (v := .int (S 0 0 9)) G fH_125 (hA.lt (show 0 < hw_n0 0 by decide)) rfl dH_grantFor_22 ?_
      refine hr_sipush (v := 150) G dH_grantFor_25 (by decide) ?_
      refine hr_icmp_ge (tgt := 35) G dH_grantFor_28 (by decide) (fun h28 => ?_) (fun h28 => ?_)
      · skip
        refine hr_iconst (v := 0) G dH_grantFor_35 (by decide) ?_
        refine hr_istore_n (i := 3) G dH_grantFor_36 rfl (by decide) ?_
        refine hr_iload_n G dH_grantFor_37 rfl rfl ?_
        refine hr_if_eq (tgt := 55) G dH_grantFor_38 (by decide) (fun _ => ?_) (fun h => absurd (by decide) h)
        refine hr_null G dH_grantFor_55 ?_
        refine hr_wide (c' := 1) (sl' := 9) (Nat.le_of_ble_eq_true rfl) (Nat.le_of_ble_eq_true rfl) ?_
        exact hr_aret G hr (Or.inl rfl) (fun _ h => h) dH_grantFor_56 ⟨rfl, rfl, rfl, rfl⟩
      · skip
        exact absurd ⟨h6, h18, Nat.not_le.mp fun q => h28 (by rw [hc11]; exact nI_le (a := 150) q (by omega))⟩ hnd
def hs_tell (S : hw_St) (i w m : Nat) : hw_St := if S 11 i 1 = 0 then (if hs_fl S w 4 = 0 then S else if 150 ≤ S 0 0 10 then S else hw_sv (hw_sv S 12 0 m (1000 * S 11 i 3 + S 11 i 0)) 0 0 10 (S 0 0 10 + 1)) else S
set_option maxRecDepth 100000 in
set_option maxHeartbeats 1000000 in
theorem m_H_tellOfEnd (l : Launch) (B : hw_B) (nb : Nat → Nat) (S : hw_St) (z : Nat) (hA : hw_al nb) (hF : hw_Fx S) (i w m : Nat) (hi : i < nb 11) (hw : w < 6) (htw : S 11 i 3 = nI w) (hm : m ≤ 150) (hmc : S 0 0 10 = nI m) : hw_M l yH_tellOfEnd cH_tellOfEnd 2 none ({ frames := 2, cells := 0, slots := 0, locals := 42 }) B [.ref (hw_a B 0 0), .ref (hw_a B 11 i)] nb S z (hw_p (.inl none) nb (hs_tell S i w m) z) := by
  refine hw_M.of (by decide) (Nat.le_of_ble_eq_true rfl) ?_
  intro X fr hl hR G hr hnm
  refine hr_aload_n G dH_tellOfEnd_0 rfl rfl ?_
  refine hr_get (v := .int (S 11 i 1)) G fH_157 hi rfl dH_tellOfEnd_1 ?_
  refine hr_if_ne (tgt := 63) G dH_tellOfEnd_4 (by decide) (fun h4 => ?_) (fun h4 => ?_)
  · skip
    exact hr_vret G hr (fun _ h => h) dH_tellOfEnd_63 ⟨rfl, rfl, by simp only [hs_tell, h4, ↓reduceIte, eq_self, true_or, or_true, or_self], rfl⟩
  · skip
    refine hr_aload_n G dH_tellOfEnd_7 rfl rfl ?_
    refine hr_aload_n G dH_tellOfEnd_8 rfl rfl ?_
    refine hr_get (v := .int (S 11 i 3)) G fH_226 hi rfl dH_tellOfEnd_9 ?_
    refine hr_iconst (v := 4) G dH_tellOfEnd_12 (by decide) ?_
    refine hr_st (st' := [.int 4, .int (nI w), .ref (hw_a B 0 0)]) (by rw [htw]) ?_
    refine hr_callVs (k := 0) (i := 0) G rfl rfl (hA.lt (show 0 < hw_n0 0 by decide)) kH_247 iH_hasFlag vH_hasFlag (m_H_hasFlag_y _ _ _ _ _ hA hF w 4 hw) rfl rfl (Nat.le_of_ble_eq_true rfl) ⟨by rw [hR]; decide, by rw [hR]; decide⟩ ⟨by rw [hR]; decide, by rw [hR]; decide⟩ dH_tellOfEnd_13 ?_
    refine hr_if_eq (tgt := 63) G dH_tellOfEnd_16 (by decide) (fun h16 => ?_) (fun h16 => ?_)
    · skip
      exact hr_vret G hr (fun _ h => h) dH_tellOfEnd_63 ⟨rfl, rfl, by simp only [hs_tell, h4, h16, ↓reduceIte, eq_self, true_or, or_true, or_self], rfl⟩
    · skip
      refine hr_aload_n G dH_tellOfEnd_19 rfl rfl ?_
      refine hr_get (v := .int (S 0 0 10)) G fH_239 (hA.lt (show 0 < hw_n0 0 by decide)) rfl dH_tellOfEnd_20 ?_
      refine hr_aload_n G dH_tellOfEnd_23 rfl rfl ?_
      refine hr_get (v := .ref (hw_a B 12 0)) G fH_35 (hA.lt (show 0 < hw_n0 0 by decide)) (hw_rfx hF (by decide) rfl (by decide)) dH_tellOfEnd_24 ?_
      refine hr_alen (v := 150) G rfl (by decide) (hA.lt (show 0 < hw_n0 12 by decide)) (by decide) dH_tellOfEnd_27 ?_
      refine hr_icmp_ge (tgt := 63) G dH_tellOfEnd_28 (by decide) (fun h28 => ?_) (fun h28 => ?_)
      · skip
        exact hr_vret G hr (fun _ h => h) dH_tellOfEnd_63 ⟨rfl, rfl, by simp only [hs_tell, h4, h16, h28, ↓reduceIte, eq_self, true_or, or_true, or_self], rfl⟩
      · skip
        refine hr_aload_n G dH_tellOfEnd_31 rfl rfl ?_
        refine hr_get (v := .ref (hw_a B 12 0)) G fH_35 (hA.lt (show 0 < hw_n0 0 by decide)) (hw_rfx hF (by decide) rfl (by decide)) dH_tellOfEnd_32 ?_
        refine hr_aload_n G dH_tellOfEnd_35 rfl rfl ?_
        refine hr_get (v := .int (S 0 0 10)) G fH_239 (hA.lt (show 0 < hw_n0 0 by decide)) rfl dH_tellOfEnd_36 ?_
        refine hr_sipush (v := 1000) G dH_tellOfEnd_39 (by decide) ?_
        refine hr_aload_n G dH_tellOfEnd_42 rfl rfl ?_
        refine hr_get (v := .int (S 11 i 3)) G fH_226 hi rfl dH_tellOfEnd_43 ?_
        refine hr_imul G dH_tellOfEnd_46 ?_
        refine hr_aload_n G dH_tellOfEnd_47 rfl rfl ?_
        refine hr_get (v := .int (S 11 i 0)) G fH_138 hi rfl dH_tellOfEnd_48 ?_
        refine hr_iadd G dH_tellOfEnd_51 ?_
        refine hr_iast (n := m) (y := ((1000 * (S 11 i 3)) + (S 11 i 0))) G rfl (by decide) rfl (hA.lt (show 0 < hw_n0 12 by decide)) hmc (Nat.not_le.mp fun q => h28 (by rw [hmc]; exact nI_le (a := 150) q (by omega))) rfl dH_tellOfEnd_52 ?_
        refine hr_aload_n G dH_tellOfEnd_53 rfl rfl ?_
        refine hr_dup G dH_tellOfEnd_54 rfl ?_
        refine hr_get (v := .int (S 0 0 10)) G fH_239 (hA.lt (show 0 < hw_n0 0 by decide)) rfl dH_tellOfEnd_55 ?_
        refine hr_iconst (v := 1) G dH_tellOfEnd_58 (by decide) ?_
        refine hr_iadd G dH_tellOfEnd_59 ?_
        refine hr_put (x := ((S 0 0 10) + 1)) G fH_239 (hA.lt (show 0 < hw_n0 0 by decide)) rfl (rfl) rfl dH_tellOfEnd_60 ?_
        exact hr_vret G hr (fun _ h => h) dH_tellOfEnd_63 ⟨rfl, rfl, by simp only [hs_tell, h4, h16, h28, ↓reduceIte, eq_self, true_or, or_true, or_self], rfl⟩
end
section
/-! The end of a session. -/
theorem hr_acmpc {X : hw_X} {B : hw_B} {fr : Nat → Prop} {nb : Nat → Nat} {S : hw_St} {z c sl : Nat} {Q : State → Prop} {cc : ByteArray} {nL pc : Nat} {own : String} {L : List (Nat × Value)} {st : List Value} (G : hw_G X B fr cc nL own) {k i i' : Nat} {off : Int} {tgt : Nat} (hi : i < nb k) (hi' : i' < nb k) (d : decode cc pc = .ok (.if_acmp .ne off, 3)) (ht : (pc : Int) + off = (tgt : Int)) (kt : ¬ i = i' → hw_V X B fr nb S z c sl Q nL tgt L st) (kf : i = i' → hw_V X B fr nb S z c sl Q nL (pc + 3) L st) : hw_V X B fr nb S z c sl Q nL pc L (.ref (hw_a B k i') :: .ref (hw_a B k i) :: st) :=
  fun ls H locs hl hP hz hf => hr_acmp_ne G d ht (fun h => kt (fun e => h (by rw [e]))) (fun h => kf (hP.2.2 k i k i' hi hi' h).2) ls H locs hl hP hz hf
theorem hr_ldcSW {X : hw_X} {B : hw_B} {fr : Nat → Prop} {nb : Nat → Nat} {S : hw_St} {z c sl : Nat} {Q : State → Prop} {cc : ByteArray} {nL pc : Nat} {own : String} {L : List (Nat × Value)} {st : List Value} (G : hw_G X B fr cc nL own) {index si : Nat} {tx : String} (hq : hw_strs[si]? = some (own, index, tx)) (d : decode cc pc = .ok (.ldc_w index, 3)) (K : hw_V X B fr nb S z c sl Q nL (pc + 3) L (.ref (hw_a B 60 si) :: st)) : hw_V X B fr nb S z c sl Q nL pc L st := by
  intro ls H locs hl hP hz hf T hT XX
  obtain ⟨t, a1, b1⟩ := K ls H locs hl hP hz hf T hT XX
  have hZ := (hw_strK G hq).1
  exact ⟨t, XX.ldcStringW G.1 G.2.2.2.1 (text := tx) (a := hw_a B 60 si) hZ.1 hZ.2 (g := F0 (xm X) pc ls st) rfl (by rw [G.2.1]; exact d) t a1, b1⟩
/-- the messages have changed, nothing else -/
def ms_r (S S' : hw_St) : Prop := (∀ k i j, ¬ k = 12 → ¬ (k = 0 ∧ j = 10) → S' k i j = S k i j) ∧ ∃ m, m ≤ 150 ∧ S' 0 0 10 = nI m
theorem ms_r.tr {S S1 S2 : hw_St} (h1 : ms_r S S1) (h2 : ms_r S1 S2) : ms_r S S2 := ⟨fun k i j a b => (h2.1 k i j a b).trans (h1.1 k i j a b), h2.2⟩
theorem ms_r.fx {S S' : hw_St} (h : ms_r S S') (hF : hw_Fx S) : hw_Fx S' := fun k i j v hi hv => by
  rw [h.1 k i j (fun e => by rw [e] at hv; exact nomatch hv) (fun e => by rw [e.1, e.2] at hv; exact nomatch hv)]
  exact hF k i j v hi hv
theorem hs_tell_r {S : hw_St} {i w m : Nat} (hm : m ≤ 150) (hmc : S 0 0 10 = nI m) : ms_r S (hs_tell S i w m) := by
  have h0 : ms_r S S := ⟨fun _ _ _ _ _ => rfl, m, hm, hmc⟩
  unfold hs_tell
  split
  · split
    · exact h0
    · split
      · exact h0
      · rename_i h
        have hlt : m < 150 := Nat.not_le.mp fun q => h (by rw [hmc]; exact nI_le (a := 150) q (by omega))
        refine ⟨fun k i j a b => ?_, m + 1, hlt, by rw [hw_sv_same, hmc, nI_succ]⟩
        unfold hw_sv
        rw [if_neg (fun e => b ⟨e.1, e.2.2⟩), if_neg (fun e => a e.1)]
  · exact h0
def hs_endk (s : Nat) (S : hw_St) : Nat → hw_St
  | 0 => S
  | k + 1 => if S 11 k 2 = nI s then hs_tell (hs_endk s S k) k (S 11 k 3).toNatClampNeg (hs_endk s S k 0 0 10).toNatClampNeg else hs_endk s S k
theorem hs_endk_r {s : Nat} {S : hw_St} (h : ∃ m, m ≤ 150 ∧ S 0 0 10 = nI m) (k : Nat) : ms_r S (hs_endk s S k) := by
  induction k with
  | zero => exact ⟨fun _ _ _ _ _ => rfl, h⟩
  | succ k ih =>
    unfold hs_endk
    split
    · obtain ⟨m, h1, h2⟩ := ih.2
      refine ih.tr (hs_tell_r (m := _) ?_ ?_) <;> rw [h2, nI_clamp (by omega)]
      exact h1
    · exact ih
theorem nI_inj {a b : Nat} (ha : a < 2 ^ 31) (hb : b < 2 ^ 31) (h : nI a = nI b) : a = b := by
  have := congrArg Int32.toInt h
  rw [nI_toInt ha, nI_toInt hb] at this
  omega
set_option maxRecDepth 100000 in
set_option maxHeartbeats 1000000 in
theorem m_H_end (l : Launch) (B : hw_B) (nb : Nat → Nat) (S : hw_St) (z : Nat) (s : Nat) (hI : ic nb S) (hs : s < nb 9) : hw_M l yH_end cH_end 4 (some .int) ({ frames := 3, cells := 0, slots := 0, locals := 63 }) B [.ref (hw_a B 0 0), .ref (hw_a B 9 s)] nb S z (hw_p (.inl (some (.int (hs_endk s (hw_sv S 9 s 5 0) (nb 11) 0 0 10 - S 0 0 10)))) nb (hs_endk s (hw_sv S 9 s 5 0) (nb 11)) z) := by
  refine hw_M.of (by decide) (Nat.le_of_ble_eq_true rfl) ?_
  intro X fr hl hR G hr hnm
  obtain ⟨hA, hF, ⟨hn9, hc9⟩, ⟨hn11, hc11⟩, ⟨nm, hnm1, hnm2⟩, hT, hSe, hTi, hU, hW0, hW⟩ := hI
  refine hr_aload_n G dH_end_0 rfl rfl ?_
  refine hr_iconst (v := 0) G dH_end_1 (by decide) ?_
  refine hr_put (x := 0) G fH_145 hs rfl (rfl) rfl dH_end_2 ?_
  refine hr_aload_n G dH_end_5 rfl rfl ?_
  refine hr_get (v := .int (S 0 0 10)) G fH_239 (hA.lt (show 0 < hw_n0 0 by decide)) rfl dH_end_6 ?_
  refine hr_istore_n (i := 2) G dH_end_9 rfl (by decide) ?_
  refine hr_iconst (v := 0) G dH_end_10 (by decide) ?_
  refine hr_istore_n (i := 3) G dH_end_11 rfl (by decide) ?_
  refine hr_L (L' := [(0, .ref (hw_a B 0 0)), (1, .ref (hw_a B 9 s)), (2, .int (S 0 0 10)), (3, .int (nI 0))]) (hw_s1 rfl (hw_s1 rfl (hw_s1 rfl (hw_s1 rfl (hw_s0))))) ?_
  have h00 : ∃ m, m ≤ 150 ∧ (hw_sv S 9 s 5 0) 0 0 10 = nI m := ⟨nm, hnm1, hnm2⟩
  suffices H : ∀ (m k : Nat) (S1 : hw_St), S1 = hs_endk s (hw_sv S 9 s 5 0) k → nb 11 - k = m → k ≤ nb 11 → hw_V X B fr nb S1 z 0 0 (hw_MQ X B fr (hw_p (.inl (some (.int (hs_endk s (hw_sv S 9 s 5 0) (nb 11) 0 0 10 - S 0 0 10)))) nb (hs_endk s (hw_sv S 9 s 5 0) (nb 11)) z) 0 0) 4 12 [(0, .ref (hw_a B 0 0)), (1, .ref (hw_a B 9 s)), (2, .int (S 0 0 10)), (3, .int (nI k))] [] from H _ 0 _ rfl rfl (Nat.zero_le _)
  intro m
  induction m with
  | zero =>
    intro k S1 hS1 hm hk
    obtain rfl : k = nb 11 := by omega
    have h1 : ms_r (hw_sv S 9 s 5 0) S1 := by rw [hS1]; exact hs_endk_r h00 _
    have hF1 : hw_Fx S1 := h1.fx (hF.sv rfl)
    have e9 : S1 0 0 9 = nI (nb 11) := (h1.1 0 0 9 (by decide) (by decide)).trans hc11
    refine hr_iload_n G dH_end_12 rfl rfl ?_
    refine hr_aload_n G dH_end_13 rfl rfl ?_
    refine hr_get (v := .int (S1 0 0 9)) G fH_125 (hA.lt (show 0 < hw_n0 0 by decide)) rfl dH_end_14 ?_
    refine hr_icmp_ge (tgt := 49) G dH_end_17 (by decide) (fun _ => ?_) (fun h => absurd (show S1 0 0 9 ≤ nI (nb 11) by rw [e9]; exact nI_le (Nat.le_refl _) (by omega)) h)
    refine hr_aload_n G dH_end_49 rfl rfl ?_
    refine hr_get (v := .int (S1 0 0 10)) G fH_239 (hA.lt (show 0 < hw_n0 0 by decide)) rfl dH_end_50 ?_
    refine hr_iload_n G dH_end_53 rfl rfl ?_
    refine hr_isub G dH_end_54 ?_
    exact hr_iret G hr (fun _ h => h) dH_end_55 ⟨by rw [hS1], rfl, hS1, rfl⟩
  | succ m ih =>
    intro k S1 hS1 hm hk
    have h1 : ms_r (hw_sv S 9 s 5 0) S1 := by rw [hS1]; exact hs_endk_r h00 _
    have hF1 : hw_Fx S1 := h1.fx (hF.sv rfl)
    have e9 : S1 0 0 9 = nI (nb 11) := (h1.1 0 0 9 (by decide) (by decide)).trans hc11
    obtain ⟨ht1, ht2, ⟨sk, hsk, hsk2⟩, ht4, ht5, ht6, ⟨w, hw, htw⟩, ht8⟩ := hTi k (by omega)
    have e10 : S1 10 0 k = nI k := (h1.1 10 0 k (by decide) (by omega)).trans ht1
    have e2 : S1 11 k 2 = nI sk := (h1.1 11 k 2 (by decide) (by decide)).trans hsk2
    have e3 : S1 11 k 3 = nI w := (h1.1 11 k 3 (by decide) (by decide)).trans htw
    obtain ⟨m2, hm2, hmc2⟩ := h1.2
    refine hr_iload_n G dH_end_12 rfl rfl ?_
    refine hr_aload_n G dH_end_13 rfl rfl ?_
    refine hr_get (v := .int (S1 0 0 9)) G fH_125 (hA.lt (show 0 < hw_n0 0 by decide)) rfl dH_end_14 ?_
    refine hr_icmp_ge (tgt := 49) G dH_end_17 (by decide) (fun h => absurd h (show ¬ S1 0 0 9 ≤ nI k by rw [e9]; exact nI_ge (by omega) (by omega))) (fun _ => ?_)
    refine hr_aload_n G dH_end_20 rfl rfl ?_
    refine hr_get (v := .ref (hw_a B 10 0)) G fH_31 (hA.lt (show 0 < hw_n0 0 by decide)) (hw_rfx hF1 (by decide) rfl (by decide)) dH_end_21 ?_
    refine hr_iload_n G dH_end_24 rfl rfl ?_
    refine hr_aald (n := k) (v := .ref (hw_a B 11 k)) G rfl (by decide) rfl (hA.lt (show 0 < hw_n0 10 by decide)) rfl (show k < 150 by omega) (hw_rdy e10 (by omega)) dH_end_25 ?_
    refine hr_get (v := .ref (hw_a B 9 sk)) G fH_167 (show k < nb 11 by omega) (hw_rdy e2 (by omega)) dH_end_26 ?_
    refine hr_aload_n G dH_end_29 rfl rfl ?_
    refine hr_acmpc (k := 9) (tgt := 43) G hsk hs dH_end_30 (by decide) (fun e30 => ?_) (fun e30 => ?_)
    · skip
      refine hr_iinc (v := nI (k + 1)) G dH_end_43 rfl (nI_succ k).symm (by decide) ?_
      refine hr_goto (tgt := 12) G dH_end_46 (by decide) ?_
      refine hr_L (L' := [(0, .ref (hw_a B 0 0)), (1, .ref (hw_a B 9 s)), (2, .int (S 0 0 10)), (3, .int (nI (k + 1)))]) (hw_s1 rfl (hw_s1 rfl (hw_s1 rfl (hw_s1 rfl (hw_s0))))) ?_
      exact ih (k + 1) _ (by rw [hS1, hs_endk, if_neg (by show ¬ S 11 k 2 = nI s; rw [hsk2]; exact fun q => e30 (nI_inj (by omega) (by omega) q))]) (by omega) (by omega)
    · skip
      refine hr_aload_n G dH_end_33 rfl rfl ?_
      refine hr_aload_n G dH_end_34 rfl rfl ?_
      refine hr_get (v := .ref (hw_a B 10 0)) G fH_31 (hA.lt (show 0 < hw_n0 0 by decide)) (hw_rfx hF1 (by decide) rfl (by decide)) dH_end_35 ?_
      refine hr_iload_n G dH_end_38 rfl rfl ?_
      refine hr_aald (n := k) (v := .ref (hw_a B 11 k)) G rfl (by decide) rfl (hA.lt (show 0 < hw_n0 10 by decide)) rfl (show k < 150 by omega) (hw_rdy e10 (by omega)) dH_end_39 ?_
      refine hr_callVn (k := 0) (i := 0) G rfl rfl (hA.lt (show 0 < hw_n0 0 by decide)) kH_257 iH_tellOfEnd vH_tellOfEnd (m_H_tellOfEnd _ _ _ _ _ hA hF1 k w m2 (by omega) hw e3 hm2 hmc2) rfl rfl (Nat.le_of_ble_eq_true rfl) ⟨by rw [hR]; decide, by rw [hR]; decide⟩ ⟨by rw [hR]; decide, by rw [hR]; decide⟩ dH_end_40 ?_
      refine hr_iinc (v := nI (k + 1)) G dH_end_43 rfl (nI_succ k).symm (by decide) ?_
      refine hr_goto (tgt := 12) G dH_end_46 (by decide) ?_
      refine hr_L (L' := [(0, .ref (hw_a B 0 0)), (1, .ref (hw_a B 9 s)), (2, .int (S 0 0 10)), (3, .int (nI (k + 1)))]) (hw_s1 rfl (hw_s1 rfl (hw_s1 rfl (hw_s1 rfl (hw_s0))))) ?_
      exact ih (k + 1) _ (by rw [hs_endk, if_pos (by show S 11 k 2 = nI s; rw [hsk2, e30]), show (hw_sv S 9 s 5 0) 11 k 3 = nI w from htw, ← hS1, hmc2, nI_clamp (by omega), nI_clamp (by omega)]) (by omega) (by omega)
end
section
/-! The page. -/
theorem hr_callHt {X : hw_X} {B : hw_B} {fr : Nat → Prop} {nb : Nat → Nat} {S : hw_St} {z c sl t : Nat} {Q : State → Prop} {cc : ByteArray} {nL pc : Nat} {own : String} {L : List (Nat × Value)} {st : List Value} (G : hw_G X B fr cc nL own) {index maxL n : Nat} {y : MethodName} {bytes : ByteArray} {rm : Room} {As st0 : List Value} (hy : y.cls = "TicketHouse") (hi : 0 < nb 0) (cw : hw_C own index y bytes maxL none n) (w1 : Cond.instanceMethod y ∈ hw_TS) (w2 : Cond.selects y.cls y y ∈ hw_TS) (hM : hw_M X.2.1 y bytes maxL none rm B (.ref (hw_a B 0 0) :: As) nb S z (hw_pt t nb S z)) (hn : As.length = n) (hst : st0 = As.reverse ++ .ref (hw_a B 0 0) :: st) (hW : (st.map fun v => v.category).sum ≤ 8) (hR : rm.frames + 1 ≤ (xR X).frames ∧ 8 + (maxL + 11) + rm.locals ≤ (xR X).locals) (hcs : c + rm.cells ≤ (xR X).cells ∧ sl + rm.slots ≤ (xR X).slots) (d : decode cc pc = .ok (.invokevirtual index, 3))
    (K : ∀ S' : hw_St, tx_r t S S' → hw_V X B fr nb S' z (c + rm.cells) (sl + rm.slots) Q nL (pc + 3) L st) : hw_V X B fr nb S z c sl Q nL pc L st0 :=
  hr_callV (k := 0) (i := 0) (ci := 0) (T := FH) (N := 12) G rfl (by rw [hy]; rfl) hi cw w1 w2 hM hn hst hW hR hcs d (fun r nb' S' z' hp => by
    obtain ⟨h1, rfl, h3, rfl⟩ := hp
    have h2 := Sum.inl.inj h1
    subst h2
    exact K S' h3)
set_option maxRecDepth 100000 in
set_option maxHeartbeats 1000000 in
theorem m_H_refuse (l : Launch) (B : hw_B) (nb : Nat → Nat) (S : hw_St) (z : Nat) (x t : Int32) (hI : ic nb S) : hw_M l yH_refuse cH_refuse 3 (some .int) ({ frames := 5, cells := 0, slots := 0, locals := 107 }) B [.ref (hw_a B 0 0), .int x, .int t] nb S z (fun oc nb' S' z' => oc = .inl (some (.int x)) ∧ nb' = nb ∧ tx_r 17 S S' ∧ z' = z) := by
  refine hw_M.of (by decide) (Nat.le_of_ble_eq_true rfl) ?_
  intro X fr hl hR G hr hnm
  obtain ⟨hA, hF, ⟨hn9, hc9⟩, ⟨hn11, hc11⟩, ⟨nm, hnm1, hnm2⟩, hT, hSe, hTi, hU, hW0, hW⟩ := hI
  have ho : tx_ok S 17 := hT 17 (by decide)
  refine hr_aload_n G dH_refuse_0 rfl rfl ?_
  refine hr_get (v := .ref (hw_a B 4 17)) G fH_47 (hA.lt (show 0 < hw_n0 0 by decide)) (hw_rfx hF (by decide) rfl (by decide)) dH_refuse_1 ?_
  refine hr_callVt (t := 17) G rfl (hA.lt (show 17 < 18 by decide)) kH_85 iT_clear vT_clear (m_T_clearw _ _ _ _ _ 17 hA hF (show 17 < 18 by decide) ho ) rfl rfl (Nat.le_of_ble_eq_true rfl) ⟨by rw [hR]; decide, by rw [hR]; decide⟩ ⟨by rw [hR]; decide, by rw [hR]; decide⟩ dH_refuse_4 (fun S4 q4 => ?_)
  have hF4 := q4.fx hF
  refine hr_aload_n G dH_refuse_7 rfl rfl ?_
  refine hr_get (v := .ref (hw_a B 4 17)) G fH_47 (hA.lt (show 0 < hw_n0 0 by decide)) (hw_rfx hF4 (by decide) rfl (by decide)) dH_refuse_8 ?_
  refine hr_ldcSW (si := 14) G rfl dH_refuse_11 ?_
  refine hr_callVt (t := 17) G rfl (hA.lt (show 17 < 18 by decide)) kH_263 iT_addAll vT_addAll (m_T_addAll _ _ _ _ _ 17 hA hF4 (show 17 < 18 by decide) q4.2 14 _ rfl) rfl rfl (Nat.le_of_ble_eq_true rfl) ⟨by rw [hR]; decide, by rw [hR]; decide⟩ ⟨by rw [hR]; decide, by rw [hR]; decide⟩ dH_refuse_14 (fun S14 q14 => ?_)
  have hF14 := q14.fx hF4
  refine hr_aload_n G dH_refuse_17 rfl rfl ?_
  refine hr_get (v := .ref (hw_a B 4 17)) G fH_47 (hA.lt (show 0 < hw_n0 0 by decide)) (hw_rfx hF14 (by decide) rfl (by decide)) dH_refuse_18 ?_
  refine hr_iload_n G dH_refuse_21 rfl rfl ?_
  refine hr_callVt (t := 17) G rfl (hA.lt (show 17 < 18 by decide)) kH_266 iT_addNumber vT_addNumber (m_T_addNumber _ _ _ _ _ 17 hA hF14 (show 17 < 18 by decide) q14.2 x) rfl rfl (Nat.le_of_ble_eq_true rfl) ⟨by rw [hR]; decide, by rw [hR]; decide⟩ ⟨by rw [hR]; decide, by rw [hR]; decide⟩ dH_refuse_22 (fun S22 q22 => ?_)
  have hF22 := q22.fx hF14
  refine hr_aload_n G dH_refuse_25 rfl rfl ?_
  refine hr_get (v := .ref (hw_a B 4 17)) G fH_47 (hA.lt (show 0 < hw_n0 0 by decide)) (hw_rfx hF22 (by decide) rfl (by decide)) dH_refuse_26 ?_
  refine hr_ldcSW (si := 15) G rfl dH_refuse_29 ?_
  refine hr_callVt (t := 17) G rfl (hA.lt (show 17 < 18 by decide)) kH_263 iT_addAll vT_addAll (m_T_addAll _ _ _ _ _ 17 hA hF22 (show 17 < 18 by decide) q22.2 15 _ rfl) rfl rfl (Nat.le_of_ble_eq_true rfl) ⟨by rw [hR]; decide, by rw [hR]; decide⟩ ⟨by rw [hR]; decide, by rw [hR]; decide⟩ dH_refuse_32 (fun S32 q32 => ?_)
  have hF32 := q32.fx hF22
  refine hr_aload_n G dH_refuse_35 rfl rfl ?_
  refine hr_get (v := .ref (hw_a B 4 17)) G fH_47 (hA.lt (show 0 < hw_n0 0 by decide)) (hw_rfx hF32 (by decide) rfl (by decide)) dH_refuse_36 ?_
  refine hr_iload_n G dH_refuse_39 rfl rfl ?_
  refine hr_callVt (t := 17) G rfl (hA.lt (show 17 < 18 by decide)) kH_266 iT_addNumber vT_addNumber (m_T_addNumber _ _ _ _ _ 17 hA hF32 (show 17 < 18 by decide) q32.2 t) rfl rfl (Nat.le_of_ble_eq_true rfl) ⟨by rw [hR]; decide, by rw [hR]; decide⟩ ⟨by rw [hR]; decide, by rw [hR]; decide⟩ dH_refuse_40 (fun S40 q40 => ?_)
  have hF40 := q40.fx hF32
  refine hr_aload_n G dH_refuse_43 rfl rfl ?_
  refine hr_get (v := .ref (hw_a B 4 17)) G fH_47 (hA.lt (show 0 < hw_n0 0 by decide)) (hw_rfx hF40 (by decide) rfl (by decide)) dH_refuse_44 ?_
  refine hr_ldcSW (si := 16) G rfl dH_refuse_47 ?_
  refine hr_callVt (t := 17) G rfl (hA.lt (show 17 < 18 by decide)) kH_263 iT_addAll vT_addAll (m_T_addAll _ _ _ _ _ 17 hA hF40 (show 17 < 18 by decide) q40.2 16 _ rfl) rfl rfl (Nat.le_of_ble_eq_true rfl) ⟨by rw [hR]; decide, by rw [hR]; decide⟩ ⟨by rw [hR]; decide, by rw [hR]; decide⟩ dH_refuse_50 (fun S50 q50 => ?_)
  have hF50 := q50.fx hF40
  refine hr_iload_n G dH_refuse_53 rfl rfl ?_
  exact hr_iret G hr (fun _ h => h) dH_refuse_54 ⟨rfl, rfl, (((((q4.tr q14).tr q22).tr q32).tr q40).tr q50), rfl⟩
set_option maxRecDepth 100000 in
set_option maxHeartbeats 1000000 in
theorem m_H_writeAttributes (l : Launch) (B : hw_B) (nb : Nat → Nat) (S : hw_St) (z : Nat) (u w : Nat) (hI : ic nb S) (hu : u < 4) (hw : w < 6) : hw_M l yH_writeAttributes cH_writeAttributes 5 none ({ frames := 7, cells := 0, slots := 0, locals := 150 }) B [.ref (hw_a B 0 0), .ref (hw_a B 2 u), .int (nI w)] nb S z (hw_pt 17 nb S z) := by
  refine hw_M.of (by decide) (Nat.le_of_ble_eq_true rfl) ?_
  intro X fr hl hR G hr hnm
  obtain ⟨hA, hF, ⟨hn9, hc9⟩, ⟨hn11, hc11⟩, ⟨nm, hnm1, hnm2⟩, hT, hSe, hTi, hU, hW0, hW⟩ := hI
  have ho : tx_ok S 17 := hT 17 (by decide)
  refine hr_iconst (v := 0) G dH_writeAttributes_0 (by decide) ?_
  refine hr_istore_n (i := 3) G dH_writeAttributes_1 rfl (by decide) ?_
  refine hr_L (L' := [(0, .ref (hw_a B 0 0)), (1, .ref (hw_a B 2 u)), (2, .int (nI w)), (3, .int (nI 0))]) (hw_s1 rfl (hw_s1 rfl (hw_s1 rfl (hw_s1 rfl (hw_s0))))) ?_
  suffices H : ∀ (m i : Nat) (S1 : hw_St), tx_r 17 S S1 → 3 - i = m → i ≤ 3 → hw_V X B fr nb S1 z 0 0 (hw_MQ X B fr (hw_pt 17 nb S z) 0 0) 5 2 [(0, .ref (hw_a B 0 0)), (1, .ref (hw_a B 2 u)), (2, .int (nI w)), (3, .int (nI i))] [] from H _ 0 S (tx_r.rf ho) rfl (Nat.zero_le _)
  intro m
  induction m with
  | zero =>
    intro i S1 h1 hm hle
    obtain rfl : i = 3 := by omega
    have hF1 := h1.fx hF
    refine hr_iload_n G dH_writeAttributes_2 rfl rfl ?_
    refine hr_iconst (v := 3) G dH_writeAttributes_3 (by decide) ?_
    refine hr_icmp_ge (tgt := 104) G dH_writeAttributes_4 (by decide) (fun _ => ?_) (fun h => absurd (show (3 : Int32) ≤ nI 3 by decide) h)
    exact hr_vret G hr (fun _ h => h) dH_writeAttributes_104 ⟨rfl, rfl, h1, rfl⟩
  | succ m ih =>
    intro i S1 h1 hm hle
    have hF1 := h1.fx hF
    refine hr_iload_n G dH_writeAttributes_2 rfl rfl ?_
    refine hr_iconst (v := 3) G dH_writeAttributes_3 (by decide) ?_
    refine hr_icmp_ge (tgt := 104) G dH_writeAttributes_4 (by decide) (fun h => absurd h (show ¬ (3 : Int32) ≤ nI i from nI_ge (b := 3) (by omega) (by decide))) (fun _ => ?_)
    refine hr_aload_n G dH_writeAttributes_7 rfl rfl ?_
    refine hr_get (v := .ref (hw_a B 3 u)) G fH_77 (hA.lt hu) (hw_rfx hF1 hu rfl (by omega)) dH_writeAttributes_8 ?_
    refine hr_iload_n G dH_writeAttributes_11 rfl rfl ?_
    refine hr_aald (n := i) (v := .ref (hw_a B 4 (4 * u + i))) G rfl (by decide) rfl (hA.lt hu) rfl (show i < 4 by omega) (hw_rfx hF1 hu rfl (by omega)) dH_writeAttributes_12 ?_
    refine hr_astore (i := 4) G dH_writeAttributes_13 (by decide) ?_
    refine hr_aload_n G dH_writeAttributes_15 rfl rfl ?_
    refine hr_iload_n G dH_writeAttributes_16 rfl rfl ?_
    refine hr_bipush (v := 8) G dH_writeAttributes_17 (by decide) ?_
    refine hr_iload_n G dH_writeAttributes_19 rfl rfl ?_
    refine hr_ishl G dH_writeAttributes_20 ?_
    refine hr_callVs (k := 0) (i := 0) G rfl rfl (hA.lt (show 0 < hw_n0 0 by decide)) kH_247 iH_hasFlag vH_hasFlag (m_H_hasFlag_y _ _ _ _ _ hA hF1 w (8 <<< ((nI i) &&& 31)) hw) rfl rfl (Nat.le_of_ble_eq_true rfl) ⟨by rw [hR]; decide, by rw [hR]; decide⟩ ⟨by rw [hR]; decide, by rw [hR]; decide⟩ dH_writeAttributes_21 ?_
    refine hr_if_eq (tgt := 98) G dH_writeAttributes_24 (by decide) (fun h24 => ?_) (fun h24 => ?_)
    · skip
      refine hr_iinc (v := nI (i + 1)) G dH_writeAttributes_98 rfl (nI_succ i).symm (by decide) ?_
      refine hr_goto (tgt := 2) G dH_writeAttributes_101 (by decide) ?_
      refine hr_L (L' := [(0, .ref (hw_a B 0 0)), (1, .ref (hw_a B 2 u)), (2, .int (nI w)), (3, .int (nI (i + 1)))]) (hw_s1 rfl (hw_s1 rfl (hw_s1 rfl (hw_s1 rfl (hw_s0))))) ?_
      exact ih (i + 1) _ h1 (by omega) (by omega)
    · skip
      refine hr_aload G dH_writeAttributes_27 rfl ?_
      refine hr_get (v := .int (S1 4 (4 * u + i) 1)) G fH_58 (hA.lt (show 4 * u + i < 18 by omega)) rfl dH_writeAttributes_29 ?_
      refine hr_if_le (tgt := 98) G dH_writeAttributes_32 (by decide) (fun h32 => ?_) (fun h32 => ?_)
      · skip
        refine hr_iinc (v := nI (i + 1)) G dH_writeAttributes_98 rfl (nI_succ i).symm (by decide) ?_
        refine hr_goto (tgt := 2) G dH_writeAttributes_101 (by decide) ?_
        refine hr_L (L' := [(0, .ref (hw_a B 0 0)), (1, .ref (hw_a B 2 u)), (2, .int (nI w)), (3, .int (nI (i + 1)))]) (hw_s1 rfl (hw_s1 rfl (hw_s1 rfl (hw_s1 rfl (hw_s0))))) ?_
        exact ih (i + 1) _ h1 (by omega) (by omega)
      · skip
        refine hr_aload_n G dH_writeAttributes_35 rfl rfl ?_
        refine hr_get (v := .ref (hw_a B 4 17)) G fH_47 (hA.lt (show 0 < hw_n0 0 by decide)) (hw_rfx hF1 (by decide) rfl (by decide)) dH_writeAttributes_36 ?_
        refine hr_ldcSW (si := 22) G rfl dH_writeAttributes_39 ?_
        refine hr_callVt (t := 17) G rfl (hA.lt (show 17 < 18 by decide)) kH_263 iT_addAll vT_addAll (m_T_addAll _ _ _ _ _ 17 hA hF1 (show 17 < 18 by decide) h1.2 22 _ rfl) rfl rfl (Nat.le_of_ble_eq_true rfl) ⟨by rw [hR]; decide, by rw [hR]; decide⟩ ⟨by rw [hR]; decide, by rw [hR]; decide⟩ dH_writeAttributes_42 (fun S42 q42 => ?_)
        have hF42 := q42.fx hF1
        refine hr_aload_n G dH_writeAttributes_45 rfl rfl ?_
        refine hr_get (v := .ref (hw_a B 4 17)) G fH_47 (hA.lt (show 0 < hw_n0 0 by decide)) (hw_rfx hF42 (by decide) rfl (by decide)) dH_writeAttributes_46 ?_
        refine hr_iload_n G dH_writeAttributes_49 rfl rfl ?_
        refine hr_callVt (t := 17) G rfl (hA.lt (show 17 < 18 by decide)) kH_266 iT_addNumber vT_addNumber (m_T_addNumber _ _ _ _ _ 17 hA hF42 (show 17 < 18 by decide) q42.2 (nI i)) rfl rfl (Nat.le_of_ble_eq_true rfl) ⟨by rw [hR]; decide, by rw [hR]; decide⟩ ⟨by rw [hR]; decide, by rw [hR]; decide⟩ dH_writeAttributes_50 (fun S50 q50 => ?_)
        have hF50 := q50.fx hF42
        refine hr_aload_n G dH_writeAttributes_53 rfl rfl ?_
        refine hr_get (v := .ref (hw_a B 4 17)) G fH_47 (hA.lt (show 0 < hw_n0 0 by decide)) (hw_rfx hF50 (by decide) rfl (by decide)) dH_writeAttributes_54 ?_
        refine hr_bipush (v := 62) G dH_writeAttributes_57 (by decide) ?_
        refine hr_callVt (t := 17) G rfl (hA.lt (show 17 < 18 by decide)) kH_67 iT_add vT_add (m_T_addw _ _ _ _ _ 17 hA hF50 (show 17 < 18 by decide) 62 (show ib_c 62 from rfl) q50.2) rfl rfl (Nat.le_of_ble_eq_true rfl) ⟨by rw [hR]; decide, by rw [hR]; decide⟩ ⟨by rw [hR]; decide, by rw [hR]; decide⟩ dH_writeAttributes_59 (fun S59 q59 => ?_)
        have hF59 := q59.fx hF50
        refine hr_aload_n G dH_writeAttributes_62 rfl rfl ?_
        refine hr_get (v := .ref (hw_a B 4 17)) G fH_47 (hA.lt (show 0 < hw_n0 0 by decide)) (hw_rfx hF59 (by decide) rfl (by decide)) dH_writeAttributes_63 ?_
        refine hr_aload G dH_writeAttributes_66 rfl ?_
        obtain ⟨⟨n68, hl68, hn68⟩, hc68⟩ := (((h1.tr q42).tr q50).tr q59).ot (u := (4 * u + i)) (by omega) (hT _ (by omega))
        refine hr_callVt (t := 17) G rfl (hA.lt (show 17 < 18 by decide)) kH_275 iT_addEscapedT vT_addEscapedT (m_T_addEscapedT _ _ _ _ _ 17 hA hF59 (show 17 < 18 by decide) q59.2 (4 * u + i) n68 (by omega) (by omega) hn68 hl68 hc68) rfl rfl (Nat.le_of_ble_eq_true rfl) ⟨by rw [hR]; decide, by rw [hR]; decide⟩ ⟨by rw [hR]; decide, by rw [hR]; decide⟩ dH_writeAttributes_68 (fun S68 q68 => ?_)
        have hF68 := q68.fx hF59
        refine hr_aload_n G dH_writeAttributes_71 rfl rfl ?_
        refine hr_get (v := .ref (hw_a B 4 17)) G fH_47 (hA.lt (show 0 < hw_n0 0 by decide)) (hw_rfx hF68 (by decide) rfl (by decide)) dH_writeAttributes_72 ?_
        refine hr_ldcSW (si := 23) G rfl dH_writeAttributes_75 ?_
        refine hr_callVt (t := 17) G rfl (hA.lt (show 17 < 18 by decide)) kH_263 iT_addAll vT_addAll (m_T_addAll _ _ _ _ _ 17 hA hF68 (show 17 < 18 by decide) q68.2 23 _ rfl) rfl rfl (Nat.le_of_ble_eq_true rfl) ⟨by rw [hR]; decide, by rw [hR]; decide⟩ ⟨by rw [hR]; decide, by rw [hR]; decide⟩ dH_writeAttributes_78 (fun S78 q78 => ?_)
        have hF78 := q78.fx hF68
        refine hr_aload_n G dH_writeAttributes_81 rfl rfl ?_
        refine hr_get (v := .ref (hw_a B 4 17)) G fH_47 (hA.lt (show 0 < hw_n0 0 by decide)) (hw_rfx hF78 (by decide) rfl (by decide)) dH_writeAttributes_82 ?_
        refine hr_iload_n G dH_writeAttributes_85 rfl rfl ?_
        refine hr_callVt (t := 17) G rfl (hA.lt (show 17 < 18 by decide)) kH_266 iT_addNumber vT_addNumber (m_T_addNumber _ _ _ _ _ 17 hA hF78 (show 17 < 18 by decide) q78.2 (nI i)) rfl rfl (Nat.le_of_ble_eq_true rfl) ⟨by rw [hR]; decide, by rw [hR]; decide⟩ ⟨by rw [hR]; decide, by rw [hR]; decide⟩ dH_writeAttributes_86 (fun S86 q86 => ?_)
        have hF86 := q86.fx hF78
        refine hr_aload_n G dH_writeAttributes_89 rfl rfl ?_
        refine hr_get (v := .ref (hw_a B 4 17)) G fH_47 (hA.lt (show 0 < hw_n0 0 by decide)) (hw_rfx hF86 (by decide) rfl (by decide)) dH_writeAttributes_90 ?_
        refine hr_bipush (v := 62) G dH_writeAttributes_93 (by decide) ?_
        refine hr_callVt (t := 17) G rfl (hA.lt (show 17 < 18 by decide)) kH_67 iT_add vT_add (m_T_addw _ _ _ _ _ 17 hA hF86 (show 17 < 18 by decide) 62 (show ib_c 62 from rfl) q86.2) rfl rfl (Nat.le_of_ble_eq_true rfl) ⟨by rw [hR]; decide, by rw [hR]; decide⟩ ⟨by rw [hR]; decide, by rw [hR]; decide⟩ dH_writeAttributes_95 (fun S95 q95 => ?_)
        have hF95 := q95.fx hF86
        refine hr_iinc (v := nI (i + 1)) G dH_writeAttributes_98 rfl (nI_succ i).symm (by decide) ?_
        refine hr_goto (tgt := 2) G dH_writeAttributes_101 (by decide) ?_
        refine hr_L (L' := [(0, .ref (hw_a B 0 0)), (1, .ref (hw_a B 2 u)), (2, .int (nI w)), (3, .int (nI (i + 1)))]) (hw_s1 rfl (hw_s1 rfl (hw_s1 rfl (hw_s1 rfl (hw_s0))))) ?_
        exact ih (i + 1) _ (((((((h1.tr q42).tr q50).tr q59).tr q68).tr q78).tr q86).tr q95) (by omega) (by omega)
set_option maxRecDepth 100000 in
set_option maxHeartbeats 1000000 in
theorem m_H_writeChain (l : Launch) (B : hw_B) (nb : Nat → Nat) (S : hw_St) (z : Nat) (i : Nat) (hI : ic nb S) (hi : i < nb 11) : hw_M l yH_writeChain cH_writeChain 3 none ({ frames := 6, cells := 0, slots := 0, locals := 129 }) B [.ref (hw_a B 0 0), .ref (hw_a B 11 i)] nb S z (hw_pt 17 nb S z) := by
  refine hw_M.of (by decide) (Nat.le_of_ble_eq_true rfl) ?_
  intro X fr hl hR G hr hnm
  obtain ⟨hA, hF, ⟨hn9, hc9⟩, ⟨hn11, hc11⟩, ⟨nm, hnm1, hnm2⟩, hT, hSe, hTi, hU, hW0, hW⟩ := hI
  have ho : tx_ok S 17 := hT 17 (by decide)
  refine hr_aload_n G dH_writeChain_0 rfl rfl ?_
  refine hr_astore_n (i := 2) G dH_writeChain_1 rfl (by decide) ?_
  refine hr_L (L' := [(0, .ref (hw_a B 0 0)), (2, .ref (hw_a B 11 i))]) (hw_s1 rfl (hw_s1 rfl (hw_s0))) ?_
  suffices H : ∀ (m i : Nat) (S1 : hw_St), tx_r 17 S S1 → i ≤ m → i < nb 11 → hw_V X B fr nb S1 z 0 0 (hw_MQ X B fr (hw_pt 17 nb S z) 0 0) 3 2 [(0, .ref (hw_a B 0 0)), (2, .ref (hw_a B 11 i))] [] from H i i S (tx_r.rf ho) (Nat.le_refl _) hi
  clear hi i
  intro m
  induction m using Nat.strongRecOn with
  | ind m ih =>
    intro i S1 h1 hm hi
    have hF1 := h1.fx hF
    obtain ⟨ht1, ht2, ht3, ht4, ht5, ht6, ht7, ht8⟩ := hTi i hi
    have K27 : ∀ S2, tx_r 17 S S2 → hw_V X B fr nb S2 z 0 0 (hw_MQ X B fr (hw_pt 17 nb S z) 0 0) 3 27 [(0, .ref (hw_a B 0 0)), (2, .ref (hw_a B 11 i))] [] := by
      intro S2 h2
      have hF2 := h2.fx hF
      rcases ht4 with hp | ⟨p, hp1, hp2⟩
      · skip
        refine hr_aload_n G dH_writeChain_27 rfl rfl ?_
        refine hr_get (v := .null) G fH_232 hi (hw_rdz (show S2 11 i 5 < 0 by rw [h2.1 11 i 5 (by omega) (by omega), hp]; decide)) dH_writeChain_28 ?_
        refine hr_astore_nN (i := 2) G dH_writeChain_31 rfl (by decide) ?_
        refine hr_goto (tgt := 2) G dH_writeChain_32 (by decide) ?_
        refine hr_aload_nN G dH_writeChain_2 rfl rfl ?_
        refine hr_ifnullN (tgt := 35) G dH_writeChain_3 (by decide) ?_
        exact hr_vret G hr (fun _ h => h) dH_writeChain_35 ⟨rfl, rfl, h2, rfl⟩
      · skip
        refine hr_aload_n G dH_writeChain_27 rfl rfl ?_
        refine hr_get (v := .ref (hw_a B 11 p)) G fH_232 hi (hw_rdy ((h2.1 11 i 5 (by omega) (by omega)).trans hp2) (by omega)) dH_writeChain_28 ?_
        refine hr_astore_n (i := 2) G dH_writeChain_31 rfl (by decide) ?_
        refine hr_goto (tgt := 2) G dH_writeChain_32 (by decide) ?_
        refine hr_L (L' := [(0, .ref (hw_a B 0 0)), (2, .ref (hw_a B 11 p))]) (hw_s1 rfl (hw_s1 rfl (hw_s0))) ?_
        exact ih p (by omega) p S2 h2 (Nat.le_refl _) (by omega)
    refine hr_aload_n G dH_writeChain_2 rfl rfl ?_
    refine hr_ifnull G dH_writeChain_3 ?_
    refine hr_aload_n G dH_writeChain_6 rfl rfl ?_
    refine hr_get (v := .int (S1 11 i 1)) G fH_157 hi rfl dH_writeChain_7 ?_
    refine hr_iconst (v := 2) G dH_writeChain_10 (by decide) ?_
    refine hr_icmp_ne (tgt := 27) G dH_writeChain_11 (by decide) (fun h11 => ?_) (fun h11 => ?_)
    · skip
      refine hr_L (L' := [(0, .ref (hw_a B 0 0)), (2, .ref (hw_a B 11 i))]) (hw_s1 rfl (hw_s1 rfl (hw_s0))) ?_
      exact K27 _ h1
    · skip
      refine hr_aload_n G dH_writeChain_14 rfl rfl ?_
      refine hr_get (v := .ref (hw_a B 4 17)) G fH_47 (hA.lt (show 0 < hw_n0 0 by decide)) (hw_rfx hF1 (by decide) rfl (by decide)) dH_writeChain_15 ?_
      refine hr_bipush (v := 112) G dH_writeChain_18 (by decide) ?_
      refine hr_aload_n G dH_writeChain_20 rfl rfl ?_
      refine hr_get (v := .int (S1 11 i 3)) G fH_226 hi rfl dH_writeChain_21 ?_
      refine hr_callVt (t := 17) G rfl (hA.lt (show 17 < 18 by decide)) kH_282 iT_addElement vT_addElement (m_T_addElement _ _ _ _ _ 17 hA hF1 (show 17 < 18 by decide) h1.2 112 (S1 11 i 3) (show ib_c 112 from rfl)) rfl rfl (Nat.le_of_ble_eq_true rfl) ⟨by rw [hR]; decide, by rw [hR]; decide⟩ ⟨by rw [hR]; decide, by rw [hR]; decide⟩ dH_writeChain_24 (fun S24 q24 => ?_)
      have hF24 := q24.fx hF1
      refine hr_L (L' := [(0, .ref (hw_a B 0 0)), (2, .ref (hw_a B 11 i))]) (hw_s1 rfl (hw_s1 rfl (hw_s0))) ?_
      exact K27 _ (h1.tr q24)
theorem ic_tx {nb : Nat → Nat} {S S' : hw_St} (hI : ic nb S) (h : tx_r 17 S S') : ic nb S' := by
  obtain ⟨hA, hF, ⟨hn9, hc9⟩, ⟨hn11, hc11⟩, ⟨nm, hnm1, hnm2⟩, hT, hSe, hTi, hU, hW0, hW⟩ := hI
  have e : ∀ k i j, k ≠ 4 → k ≠ 5 → S' k i j = S k i j := fun k i j a b => h.1 k i j (fun q => b q.1) (fun q => a q.1)
  refine ⟨hA, h.fx hF, ⟨hn9, ?_⟩, ⟨hn11, ?_⟩, ⟨nm, hnm1, ?_⟩, fun t ht => ?_, fun i hi => ?_, fun i hi => ?_, fun u hu => ?_, ?_, fun k hk => ?_⟩
  · rw [e _ _ _ (by decide) (by decide)]; exact hc9
  · rw [e _ _ _ (by decide) (by decide)]; exact hc11
  · rw [e _ _ _ (by decide) (by decide)]; exact hnm2
  · by_cases q : t = 17
    · subst q; exact h.2
    · exact h.ot q (hT t ht)
  · have := hSe i hi
    unfold se_ok at this ⊢
    rw [e 8 0 i (by decide) (by decide), e 9 i 0 (by decide) (by decide), e 9 i 1 (by decide) (by decide), e 9 i 3 (by decide) (by decide), e 9 i 5 (by decide) (by decide)]
    exact this
  · have := hTi i hi
    unfold ti_ok at this ⊢
    rw [e 10 0 i (by decide) (by decide), e 11 i 0 (by decide) (by decide), e 11 i 1 (by decide) (by decide), e 11 i 2 (by decide) (by decide), e 11 i 3 (by decide) (by decide), e 11 i 5 (by decide) (by decide), e 11 i 7 (by decide) (by decide), e 11 i 8 (by decide) (by decide)]
    exact this
  · have := hU u hu
    unfold us_ok at this ⊢
    rw [e 2 u 2 (by decide) (by decide), e 2 u 4 (by decide) (by decide)]
    exact this
  · rw [e 7 0 0 (by decide) (by decide)]; exact hW0
  · rw [e 7 0 k (by decide) (by decide)]; exact hW k hk
set_option maxRecDepth 100000 in
set_option maxHeartbeats 1000000 in
theorem m_H_writeAcceptance_n (l : Launch) (B : hw_B) (nb : Nat → Nat) (S : hw_St) (z : Nat) (i s u w : Nat) (b : Int32) (hI : ic nb S) (hi : i < nb 11) (hs : s < nb 9) (hts : S 11 i 2 = nI s) (hu : u < 4) (hus : S 9 s 1 = nI u) (hw : w < 6) (htw : S 11 i 3 = nI w) : hw_M l yH_writeAcceptance cH_writeAcceptance 5 none ({ frames := 8, cells := 0, slots := 0, locals := 174 }) B [.ref (hw_a B 0 0), .ref (hw_a B 11 i), .int b, .null] nb S z (hw_pt 17 nb S z) := by
  refine hw_M.of (by decide) (Nat.le_of_ble_eq_true rfl) ?_
  intro X fr hl hR G hr hnm
  have hI0 := hI
  obtain ⟨hA, hF, ⟨hn9, hc9⟩, ⟨hn11, hc11⟩, ⟨nm, hnm1, hnm2⟩, hT, hSe, hTi, hU, hW0, hW⟩ := hI
  have ho : tx_ok S 17 := hT 17 (by decide)
  have K132 : ∀ S1, tx_r 17 S S1 → hw_V X B fr nb S1 z 0 0 (hw_MQ X B fr (hw_pt 17 nb S z) 0 0) 5 132 [(0, .ref (hw_a B 0 0)), (1, .ref (hw_a B 11 i)), (3, .null), (4, .ref (hw_a B 9 s))] [] := by
    intro S1 h1
    have hF1 := h1.fx hF
    refine hr_aload_n G dH_writeAcceptance_132 rfl rfl ?_
    refine hr_aload_n G dH_writeAcceptance_133 rfl rfl ?_
    refine hr_callHt (t := 17) G rfl (hA.lt (show 0 < hw_n0 0 by decide)) kH_286 iH_writeChain vH_writeChain (m_H_writeChain _ _ _ _ _ i (ic_tx hI0 h1) hi) rfl rfl (Nat.le_of_ble_eq_true rfl) ⟨by rw [hR]; decide, by rw [hR]; decide⟩ ⟨by rw [hR]; decide, by rw [hR]; decide⟩ dH_writeAcceptance_134 (fun S134 q134 => ?_)
    have hF134 := q134.fx hF1
    refine hr_aload_n G dH_writeAcceptance_137 rfl rfl ?_
    refine hr_get (v := .ref (hw_a B 4 17)) G fH_47 (hA.lt (show 0 < hw_n0 0 by decide)) (hw_rfx hF134 (by decide) rfl (by decide)) dH_writeAcceptance_138 ?_
    refine hr_ldcSW (si := 25) G rfl dH_writeAcceptance_141 ?_
    refine hr_callVt (t := 17) G rfl (hA.lt (show 17 < 18 by decide)) kH_263 iT_addAll vT_addAll (m_T_addAll _ _ _ _ _ 17 hA hF134 (show 17 < 18 by decide) q134.2 25 _ rfl) rfl rfl (Nat.le_of_ble_eq_true rfl) ⟨by rw [hR]; decide, by rw [hR]; decide⟩ ⟨by rw [hR]; decide, by rw [hR]; decide⟩ dH_writeAcceptance_144 (fun S144 q144 => ?_)
    have hF144 := q144.fx hF134
    exact hr_vret G hr (fun _ h => h) dH_writeAcceptance_147 ⟨rfl, rfl, ((h1.tr q134).tr q144), rfl⟩
  have K99 : ∀ S1, tx_r 17 S S1 → hw_V X B fr nb S1 z 0 0 (hw_MQ X B fr (hw_pt 17 nb S z) 0 0) 5 99 [(0, .ref (hw_a B 0 0)), (1, .ref (hw_a B 11 i)), (3, .null), (4, .ref (hw_a B 9 s))] [] := by
    intro S1 h1
    have hF1 := h1.fx hF
    refine hr_aload_n G dH_writeAcceptance_99 rfl rfl ?_
    refine hr_get (v := .ref (hw_a B 4 17)) G fH_47 (hA.lt (show 0 < hw_n0 0 by decide)) (hw_rfx hF1 (by decide) rfl (by decide)) dH_writeAcceptance_100 ?_
    refine hr_bipush (v := 110) G dH_writeAcceptance_103 (by decide) ?_
    refine hr_aload_n G dH_writeAcceptance_105 rfl rfl ?_
    refine hr_get (v := .int (S1 11 i 7)) G fH_134 hi rfl dH_writeAcceptance_106 ?_
    refine hr_callSs G kH_216 sH_oneIf (m_H_oneIf _ _ _ _ _ (S1 11 i 7)) rfl rfl (Nat.le_of_ble_eq_true rfl) ⟨by rw [hR]; decide, by rw [hR]; decide⟩ ⟨by rw [hR]; decide, by rw [hR]; decide⟩ dH_writeAcceptance_109 ?_
    refine hr_callVt (t := 17) G rfl (hA.lt (show 17 < 18 by decide)) kH_282 iT_addElement vT_addElement (m_T_addElement _ _ _ _ _ 17 hA hF1 (show 17 < 18 by decide) h1.2 110 (if (S1 11 i 7) = 0 then 0 else 1) (show ib_c 110 from rfl)) rfl rfl (Nat.le_of_ble_eq_true rfl) ⟨by rw [hR]; decide, by rw [hR]; decide⟩ ⟨by rw [hR]; decide, by rw [hR]; decide⟩ dH_writeAcceptance_112 (fun S112 q112 => ?_)
    have hF112 := q112.fx hF1
    refine hr_aload_nN G dH_writeAcceptance_115 rfl rfl ?_
    refine hr_ifnullN (tgt := 132) G dH_writeAcceptance_116 (by decide) ?_
    refine hr_L (L' := [(0, .ref (hw_a B 0 0)), (1, .ref (hw_a B 11 i)), (3, .null), (4, .ref (hw_a B 9 s))]) (hw_s1 rfl (hw_s1 rfl (hw_s1 rfl (hw_s1 rfl (hw_s0))))) ?_
    exact K132 _ (h1.tr q112)
  have K67 : ∀ S1, tx_r 17 S S1 → hw_V X B fr nb S1 z 0 0 (hw_MQ X B fr (hw_pt 17 nb S z) 0 0) 5 67 [(0, .ref (hw_a B 0 0)), (1, .ref (hw_a B 11 i)), (3, .null), (4, .ref (hw_a B 9 s))] [] := by
    intro S1 h1
    have hF1 := h1.fx hF
    refine hr_aload_n G dH_writeAcceptance_67 rfl rfl ?_
    refine hr_get (v := .ref (hw_a B 4 17)) G fH_47 (hA.lt (show 0 < hw_n0 0 by decide)) (hw_rfx hF1 (by decide) rfl (by decide)) dH_writeAcceptance_68 ?_
    refine hr_bipush (v := 100) G dH_writeAcceptance_71 (by decide) ?_
    refine hr_aload G dH_writeAcceptance_73 rfl ?_
    refine hr_get (v := .int (S1 9 s 2)) G fH_220 hs rfl dH_writeAcceptance_75 ?_
    refine hr_callVt (t := 17) G rfl (hA.lt (show 17 < 18 by decide)) kH_282 iT_addElement vT_addElement (m_T_addElement _ _ _ _ _ 17 hA hF1 (show 17 < 18 by decide) h1.2 100 (S1 9 s 2) (show ib_c 100 from rfl)) rfl rfl (Nat.le_of_ble_eq_true rfl) ⟨by rw [hR]; decide, by rw [hR]; decide⟩ ⟨by rw [hR]; decide, by rw [hR]; decide⟩ dH_writeAcceptance_78 (fun S78 q78 => ?_)
    have hF78 := q78.fx hF1
    refine hr_aload G dH_writeAcceptance_81 rfl ?_
    refine hr_get (v := .int (S78 9 s 3)) G fH_223 hs rfl dH_writeAcceptance_83 ?_
    refine hr_if_eq (tgt := 99) G dH_writeAcceptance_86 (by decide) (fun h86 => ?_) (fun h86 => ?_)
    · skip
      refine hr_L (L' := [(0, .ref (hw_a B 0 0)), (1, .ref (hw_a B 11 i)), (3, .null), (4, .ref (hw_a B 9 s))]) (hw_s1 rfl (hw_s1 rfl (hw_s1 rfl (hw_s1 rfl (hw_s0))))) ?_
      exact K99 _ (h1.tr q78)
    · skip
      refine hr_aload_n G dH_writeAcceptance_89 rfl rfl ?_
      refine hr_get (v := .ref (hw_a B 4 17)) G fH_47 (hA.lt (show 0 < hw_n0 0 by decide)) (hw_rfx hF78 (by decide) rfl (by decide)) dH_writeAcceptance_90 ?_
      refine hr_bipush (v := 108) G dH_writeAcceptance_93 (by decide) ?_
      refine hr_iconst (v := 1) G dH_writeAcceptance_95 (by decide) ?_
      refine hr_callVt (t := 17) G rfl (hA.lt (show 17 < 18 by decide)) kH_282 iT_addElement vT_addElement (m_T_addElement _ _ _ _ _ 17 hA hF78 (show 17 < 18 by decide) q78.2 108 1 (show ib_c 108 from rfl)) rfl rfl (Nat.le_of_ble_eq_true rfl) ⟨by rw [hR]; decide, by rw [hR]; decide⟩ ⟨by rw [hR]; decide, by rw [hR]; decide⟩ dH_writeAcceptance_96 (fun S96 q96 => ?_)
      have hF96 := q96.fx hF78
      refine hr_L (L' := [(0, .ref (hw_a B 0 0)), (1, .ref (hw_a B 11 i)), (3, .null), (4, .ref (hw_a B 9 s))]) (hw_s1 rfl (hw_s1 rfl (hw_s1 rfl (hw_s1 rfl (hw_s0))))) ?_
      exact K99 _ ((h1.tr q78).tr q96)
  refine hr_aload_n G dH_writeAcceptance_0 rfl rfl ?_
  refine hr_get (v := .ref (hw_a B 9 s)) G fH_167 hi (hw_rdy (((tx_r.rf ho).1 11 i 2 (by omega) (by omega)).trans hts) (by omega)) dH_writeAcceptance_1 ?_
  refine hr_astore (i := 4) G dH_writeAcceptance_4 (by decide) ?_
  refine hr_aload_n G dH_writeAcceptance_6 rfl rfl ?_
  refine hr_get (v := .ref (hw_a B 4 17)) G fH_47 (hA.lt (show 0 < hw_n0 0 by decide)) (hw_rfx hF (by decide) rfl (by decide)) dH_writeAcceptance_7 ?_
  refine hr_callVt (t := 17) G rfl (hA.lt (show 17 < 18 by decide)) kH_85 iT_clear vT_clear (m_T_clearw _ _ _ _ _ 17 hA hF (show 17 < 18 by decide) ho ) rfl rfl (Nat.le_of_ble_eq_true rfl) ⟨by rw [hR]; decide, by rw [hR]; decide⟩ ⟨by rw [hR]; decide, by rw [hR]; decide⟩ dH_writeAcceptance_10 (fun S10 q10 => ?_)
  have hF10 := q10.fx hF
  refine hr_aload_n G dH_writeAcceptance_13 rfl rfl ?_
  refine hr_get (v := .ref (hw_a B 4 17)) G fH_47 (hA.lt (show 0 < hw_n0 0 by decide)) (hw_rfx hF10 (by decide) rfl (by decide)) dH_writeAcceptance_14 ?_
  refine hr_ldcSW (si := 17) G rfl dH_writeAcceptance_17 ?_
  refine hr_callVt (t := 17) G rfl (hA.lt (show 17 < 18 by decide)) kH_263 iT_addAll vT_addAll (m_T_addAll _ _ _ _ _ 17 hA hF10 (show 17 < 18 by decide) q10.2 17 _ rfl) rfl rfl (Nat.le_of_ble_eq_true rfl) ⟨by rw [hR]; decide, by rw [hR]; decide⟩ ⟨by rw [hR]; decide, by rw [hR]; decide⟩ dH_writeAcceptance_20 (fun S20 q20 => ?_)
  have hF20 := q20.fx hF10
  refine hr_aload_n G dH_writeAcceptance_23 rfl rfl ?_
  refine hr_get (v := .ref (hw_a B 4 17)) G fH_47 (hA.lt (show 0 < hw_n0 0 by decide)) (hw_rfx hF20 (by decide) rfl (by decide)) dH_writeAcceptance_24 ?_
  refine hr_aload G dH_writeAcceptance_27 rfl ?_
  refine hr_get (v := .ref (hw_a B 2 u)) G fH_211 hs (hw_rdy (((((tx_r.rf ho).tr q10).tr q20).1 9 s 1 (by omega) (by omega)).trans hus) (by omega)) dH_writeAcceptance_29 ?_
  refine hr_get (v := .ref (hw_a B 3 u)) G fH_77 (hA.lt hu) (hw_rfx hF20 hu rfl (by omega)) dH_writeAcceptance_32 ?_
  refine hr_iconst (v := 3) G dH_writeAcceptance_35 (by decide) ?_
  refine hr_aald (n := 3) (v := .ref (hw_a B 4 (4 * u + 3))) G rfl (by decide) rfl (hA.lt hu) rfl (show 3 < 4 by decide) (hw_rfx hF20 hu rfl (by omega)) dH_writeAcceptance_36 ?_
  obtain ⟨⟨n37, hl37, hn37⟩, hc37⟩ := (((tx_r.rf ho).tr q10).tr q20).ot (u := (4 * u + 3)) (by omega) (hT _ (by omega))
  refine hr_callVt (t := 17) G rfl (hA.lt (show 17 < 18 by decide)) kH_275 iT_addEscapedT vT_addEscapedT (m_T_addEscapedT _ _ _ _ _ 17 hA hF20 (show 17 < 18 by decide) q20.2 (4 * u + 3) n37 (by omega) (by omega) hn37 hl37 hc37) rfl rfl (Nat.le_of_ble_eq_true rfl) ⟨by rw [hR]; decide, by rw [hR]; decide⟩ ⟨by rw [hR]; decide, by rw [hR]; decide⟩ dH_writeAcceptance_37 (fun S37 q37 => ?_)
  have hF37 := q37.fx hF20
  refine hr_aload_n G dH_writeAcceptance_40 rfl rfl ?_
  refine hr_get (v := .ref (hw_a B 4 17)) G fH_47 (hA.lt (show 0 < hw_n0 0 by decide)) (hw_rfx hF37 (by decide) rfl (by decide)) dH_writeAcceptance_41 ?_
  refine hr_ldcSW (si := 15) G rfl dH_writeAcceptance_44 ?_
  refine hr_callVt (t := 17) G rfl (hA.lt (show 17 < 18 by decide)) kH_263 iT_addAll vT_addAll (m_T_addAll _ _ _ _ _ 17 hA hF37 (show 17 < 18 by decide) q37.2 15 _ rfl) rfl rfl (Nat.le_of_ble_eq_true rfl) ⟨by rw [hR]; decide, by rw [hR]; decide⟩ ⟨by rw [hR]; decide, by rw [hR]; decide⟩ dH_writeAcceptance_47 (fun S47 q47 => ?_)
  have hF47 := q47.fx hF37
  refine hr_iload_n G dH_writeAcceptance_50 rfl rfl ?_
  refine hr_if_eq (tgt := 67) G dH_writeAcceptance_51 (by decide) (fun h51 => ?_) (fun h51 => ?_)
  · skip
    refine hr_L (L' := [(0, .ref (hw_a B 0 0)), (1, .ref (hw_a B 11 i)), (3, .null), (4, .ref (hw_a B 9 s))]) (hw_s1 rfl (hw_s1 rfl (hw_s1 rfl (hw_s1 rfl (hw_s0))))) ?_
    exact K67 _ (((((tx_r.rf ho).tr q10).tr q20).tr q37).tr q47)
  · skip
    refine hr_aload_n G dH_writeAcceptance_54 rfl rfl ?_
    refine hr_aload G dH_writeAcceptance_55 rfl ?_
    refine hr_get (v := .ref (hw_a B 2 u)) G fH_211 hs (hw_rdy (((((((tx_r.rf ho).tr q10).tr q20).tr q37).tr q47).1 9 s 1 (by omega) (by omega)).trans hus) (by omega)) dH_writeAcceptance_57 ?_
    refine hr_aload_n G dH_writeAcceptance_60 rfl rfl ?_
    refine hr_get (v := .int (S47 11 i 3)) G fH_226 hi rfl dH_writeAcceptance_61 ?_
    refine hr_st (st' := [.int (nI w), .ref (hw_a B 2 u), .ref (hw_a B 0 0)]) (by rw [(((((tx_r.rf ho).tr q10).tr q20).tr q37).tr q47).1 11 i 3 (by omega) (by omega), htw]) ?_
    refine hr_callHt (t := 17) G rfl (hA.lt (show 0 < hw_n0 0 by decide)) kH_278 iH_writeAttributes vH_writeAttributes (m_H_writeAttributes _ _ _ _ _ u w (ic_tx hI0 (((((tx_r.rf ho).tr q10).tr q20).tr q37).tr q47)) hu hw) rfl rfl (Nat.le_of_ble_eq_true rfl) ⟨by rw [hR]; decide, by rw [hR]; decide⟩ ⟨by rw [hR]; decide, by rw [hR]; decide⟩ dH_writeAcceptance_64 (fun S64 q64 => ?_)
    have hF64 := q64.fx hF47
    refine hr_L (L' := [(0, .ref (hw_a B 0 0)), (1, .ref (hw_a B 11 i)), (3, .null), (4, .ref (hw_a B 9 s))]) (hw_s1 rfl (hw_s1 rfl (hw_s1 rfl (hw_s1 rfl (hw_s0))))) ?_
    exact K67 _ ((((((tx_r.rf ho).tr q10).tr q20).tr q37).tr q47).tr q64)
set_option maxRecDepth 100000 in
set_option maxHeartbeats 1000000 in
theorem m_H_writeAcceptance_g (l : Launch) (B : hw_B) (nb : Nat → Nat) (S : hw_St) (z : Nat) (i s u w : Nat) (b : Int32) (hI : ic nb S) (hi : i < nb 11) (hs : s < nb 9) (hts : S 11 i 2 = nI s) (hu : u < 4) (hus : S 9 s 1 = nI u) (hw : w < 6) (htw : S 11 i 3 = nI w) (g : Nat) (hg : g < nb 11) : hw_M l yH_writeAcceptance cH_writeAcceptance 5 none ({ frames := 8, cells := 0, slots := 0, locals := 174 }) B [.ref (hw_a B 0 0), .ref (hw_a B 11 i), .int b, .ref (hw_a B 11 g)] nb S z (hw_pt 17 nb S z) := by
  refine hw_M.of (by decide) (Nat.le_of_ble_eq_true rfl) ?_
  intro X fr hl hR G hr hnm
  have hI0 := hI
  obtain ⟨hA, hF, ⟨hn9, hc9⟩, ⟨hn11, hc11⟩, ⟨nm, hnm1, hnm2⟩, hT, hSe, hTi, hU, hW0, hW⟩ := hI
  have ho : tx_ok S 17 := hT 17 (by decide)
  have K132 : ∀ S1, tx_r 17 S S1 → hw_V X B fr nb S1 z 0 0 (hw_MQ X B fr (hw_pt 17 nb S z) 0 0) 5 132 [(0, .ref (hw_a B 0 0)), (1, .ref (hw_a B 11 i)), (3, .ref (hw_a B 11 g)), (4, .ref (hw_a B 9 s))] [] := by
    intro S1 h1
    have hF1 := h1.fx hF
    refine hr_aload_n G dH_writeAcceptance_132 rfl rfl ?_
    refine hr_aload_n G dH_writeAcceptance_133 rfl rfl ?_
    refine hr_callHt (t := 17) G rfl (hA.lt (show 0 < hw_n0 0 by decide)) kH_286 iH_writeChain vH_writeChain (m_H_writeChain _ _ _ _ _ i (ic_tx hI0 h1) hi) rfl rfl (Nat.le_of_ble_eq_true rfl) ⟨by rw [hR]; decide, by rw [hR]; decide⟩ ⟨by rw [hR]; decide, by rw [hR]; decide⟩ dH_writeAcceptance_134 (fun S134 q134 => ?_)
    have hF134 := q134.fx hF1
    refine hr_aload_n G dH_writeAcceptance_137 rfl rfl ?_
    refine hr_get (v := .ref (hw_a B 4 17)) G fH_47 (hA.lt (show 0 < hw_n0 0 by decide)) (hw_rfx hF134 (by decide) rfl (by decide)) dH_writeAcceptance_138 ?_
    refine hr_ldcSW (si := 25) G rfl dH_writeAcceptance_141 ?_
    refine hr_callVt (t := 17) G rfl (hA.lt (show 17 < 18 by decide)) kH_263 iT_addAll vT_addAll (m_T_addAll _ _ _ _ _ 17 hA hF134 (show 17 < 18 by decide) q134.2 25 _ rfl) rfl rfl (Nat.le_of_ble_eq_true rfl) ⟨by rw [hR]; decide, by rw [hR]; decide⟩ ⟨by rw [hR]; decide, by rw [hR]; decide⟩ dH_writeAcceptance_144 (fun S144 q144 => ?_)
    have hF144 := q144.fx hF134
    exact hr_vret G hr (fun _ h => h) dH_writeAcceptance_147 ⟨rfl, rfl, ((h1.tr q134).tr q144), rfl⟩
  have K99 : ∀ S1, tx_r 17 S S1 → hw_V X B fr nb S1 z 0 0 (hw_MQ X B fr (hw_pt 17 nb S z) 0 0) 5 99 [(0, .ref (hw_a B 0 0)), (1, .ref (hw_a B 11 i)), (3, .ref (hw_a B 11 g)), (4, .ref (hw_a B 9 s))] [] := by
    intro S1 h1
    have hF1 := h1.fx hF
    refine hr_aload_n G dH_writeAcceptance_99 rfl rfl ?_
    refine hr_get (v := .ref (hw_a B 4 17)) G fH_47 (hA.lt (show 0 < hw_n0 0 by decide)) (hw_rfx hF1 (by decide) rfl (by decide)) dH_writeAcceptance_100 ?_
    refine hr_bipush (v := 110) G dH_writeAcceptance_103 (by decide) ?_
    refine hr_aload_n G dH_writeAcceptance_105 rfl rfl ?_
    refine hr_get (v := .int (S1 11 i 7)) G fH_134 hi rfl dH_writeAcceptance_106 ?_
    refine hr_callSs G kH_216 sH_oneIf (m_H_oneIf _ _ _ _ _ (S1 11 i 7)) rfl rfl (Nat.le_of_ble_eq_true rfl) ⟨by rw [hR]; decide, by rw [hR]; decide⟩ ⟨by rw [hR]; decide, by rw [hR]; decide⟩ dH_writeAcceptance_109 ?_
    refine hr_callVt (t := 17) G rfl (hA.lt (show 17 < 18 by decide)) kH_282 iT_addElement vT_addElement (m_T_addElement _ _ _ _ _ 17 hA hF1 (show 17 < 18 by decide) h1.2 110 (if (S1 11 i 7) = 0 then 0 else 1) (show ib_c 110 from rfl)) rfl rfl (Nat.le_of_ble_eq_true rfl) ⟨by rw [hR]; decide, by rw [hR]; decide⟩ ⟨by rw [hR]; decide, by rw [hR]; decide⟩ dH_writeAcceptance_112 (fun S112 q112 => ?_)
    have hF112 := q112.fx hF1
    refine hr_aload_n G dH_writeAcceptance_115 rfl rfl ?_
    refine hr_ifnull G dH_writeAcceptance_116 ?_
    refine hr_aload_n G dH_writeAcceptance_119 rfl rfl ?_
    refine hr_get (v := .ref (hw_a B 4 17)) G fH_47 (hA.lt (show 0 < hw_n0 0 by decide)) (hw_rfx hF112 (by decide) rfl (by decide)) dH_writeAcceptance_120 ?_
    refine hr_bipush (v := 103) G dH_writeAcceptance_123 (by decide) ?_
    refine hr_aload_n G dH_writeAcceptance_125 rfl rfl ?_
    refine hr_get (v := .int (S112 11 g 0)) G fH_138 hg rfl dH_writeAcceptance_126 ?_
    refine hr_callVt (t := 17) G rfl (hA.lt (show 17 < 18 by decide)) kH_282 iT_addElement vT_addElement (m_T_addElement _ _ _ _ _ 17 hA hF112 (show 17 < 18 by decide) q112.2 103 (S112 11 g 0) (show ib_c 103 from rfl)) rfl rfl (Nat.le_of_ble_eq_true rfl) ⟨by rw [hR]; decide, by rw [hR]; decide⟩ ⟨by rw [hR]; decide, by rw [hR]; decide⟩ dH_writeAcceptance_129 (fun S129 q129 => ?_)
    have hF129 := q129.fx hF112
    refine hr_L (L' := [(0, .ref (hw_a B 0 0)), (1, .ref (hw_a B 11 i)), (3, .ref (hw_a B 11 g)), (4, .ref (hw_a B 9 s))]) (hw_s1 rfl (hw_s1 rfl (hw_s1 rfl (hw_s1 rfl (hw_s0))))) ?_
    exact K132 _ ((h1.tr q112).tr q129)
  have K67 : ∀ S1, tx_r 17 S S1 → hw_V X B fr nb S1 z 0 0 (hw_MQ X B fr (hw_pt 17 nb S z) 0 0) 5 67 [(0, .ref (hw_a B 0 0)), (1, .ref (hw_a B 11 i)), (3, .ref (hw_a B 11 g)), (4, .ref (hw_a B 9 s))] [] := by
    intro S1 h1
    have hF1 := h1.fx hF
    refine hr_aload_n G dH_writeAcceptance_67 rfl rfl ?_
    refine hr_get (v := .ref (hw_a B 4 17)) G fH_47 (hA.lt (show 0 < hw_n0 0 by decide)) (hw_rfx hF1 (by decide) rfl (by decide)) dH_writeAcceptance_68 ?_
    refine hr_bipush (v := 100) G dH_writeAcceptance_71 (by decide) ?_
    refine hr_aload G dH_writeAcceptance_73 rfl ?_
    refine hr_get (v := .int (S1 9 s 2)) G fH_220 hs rfl dH_writeAcceptance_75 ?_
    refine hr_callVt (t := 17) G rfl (hA.lt (show 17 < 18 by decide)) kH_282 iT_addElement vT_addElement (m_T_addElement _ _ _ _ _ 17 hA hF1 (show 17 < 18 by decide) h1.2 100 (S1 9 s 2) (show ib_c 100 from rfl)) rfl rfl (Nat.le_of_ble_eq_true rfl) ⟨by rw [hR]; decide, by rw [hR]; decide⟩ ⟨by rw [hR]; decide, by rw [hR]; decide⟩ dH_writeAcceptance_78 (fun S78 q78 => ?_)
    have hF78 := q78.fx hF1
    refine hr_aload G dH_writeAcceptance_81 rfl ?_
    refine hr_get (v := .int (S78 9 s 3)) G fH_223 hs rfl dH_writeAcceptance_83 ?_
    refine hr_if_eq (tgt := 99) G dH_writeAcceptance_86 (by decide) (fun h86 => ?_) (fun h86 => ?_)
    · skip
      refine hr_L (L' := [(0, .ref (hw_a B 0 0)), (1, .ref (hw_a B 11 i)), (3, .ref (hw_a B 11 g)), (4, .ref (hw_a B 9 s))]) (hw_s1 rfl (hw_s1 rfl (hw_s1 rfl (hw_s1 rfl (hw_s0))))) ?_
      exact K99 _ (h1.tr q78)
    · skip
      refine hr_aload_n G dH_writeAcceptance_89 rfl rfl ?_
      refine hr_get (v := .ref (hw_a B 4 17)) G fH_47 (hA.lt (show 0 < hw_n0 0 by decide)) (hw_rfx hF78 (by decide) rfl (by decide)) dH_writeAcceptance_90 ?_
      refine hr_bipush (v := 108) G dH_writeAcceptance_93 (by decide) ?_
      refine hr_iconst (v := 1) G dH_writeAcceptance_95 (by decide) ?_
      refine hr_callVt (t := 17) G rfl (hA.lt (show 17 < 18 by decide)) kH_282 iT_addElement vT_addElement (m_T_addElement _ _ _ _ _ 17 hA hF78 (show 17 < 18 by decide) q78.2 108 1 (show ib_c 108 from rfl)) rfl rfl (Nat.le_of_ble_eq_true rfl) ⟨by rw [hR]; decide, by rw [hR]; decide⟩ ⟨by rw [hR]; decide, by rw [hR]; decide⟩ dH_writeAcceptance_96 (fun S96 q96 => ?_)
      have hF96 := q96.fx hF78
      refine hr_L (L' := [(0, .ref (hw_a B 0 0)), (1, .ref (hw_a B 11 i)), (3, .ref (hw_a B 11 g)), (4, .ref (hw_a B 9 s))]) (hw_s1 rfl (hw_s1 rfl (hw_s1 rfl (hw_s1 rfl (hw_s0))))) ?_
      exact K99 _ ((h1.tr q78).tr q96)
  refine hr_aload_n G dH_writeAcceptance_0 rfl rfl ?_
  refine hr_get (v := .ref (hw_a B 9 s)) G fH_167 hi (hw_rdy (((tx_r.rf ho).1 11 i 2 (by omega) (by omega)).trans hts) (by omega)) dH_writeAcceptance_1 ?_
  refine hr_astore (i := 4) G dH_writeAcceptance_4 (by decide) ?_
  refine hr_aload_n G dH_writeAcceptance_6 rfl rfl ?_
  refine hr_get (v := .ref (hw_a B 4 17)) G fH_47 (hA.lt (show 0 < hw_n0 0 by decide)) (hw_rfx hF (by decide) rfl (by decide)) dH_writeAcceptance_7 ?_
  refine hr_callVt (t := 17) G rfl (hA.lt (show 17 < 18 by decide)) kH_85 iT_clear vT_clear (m_T_clearw _ _ _ _ _ 17 hA hF (show 17 < 18 by decide) ho ) rfl rfl (Nat.le_of_ble_eq_true rfl) ⟨by rw [hR]; decide, by rw [hR]; decide⟩ ⟨by rw [hR]; decide, by rw [hR]; decide⟩ dH_writeAcceptance_10 (fun S10 q10 => ?_)
  have hF10 := q10.fx hF
  refine hr_aload_n G dH_writeAcceptance_13 rfl rfl ?_
  refine hr_get (v := .ref (hw_a B 4 17)) G fH_47 (hA.lt (show 0 < hw_n0 0 by decide)) (hw_rfx hF10 (by decide) rfl (by decide)) dH_writeAcceptance_14 ?_
  refine hr_ldcSW (si := 17) G rfl dH_writeAcceptance_17 ?_
  refine hr_callVt (t := 17) G rfl (hA.lt (show 17 < 18 by decide)) kH_263 iT_addAll vT_addAll (m_T_addAll _ _ _ _ _ 17 hA hF10 (show 17 < 18 by decide) q10.2 17 _ rfl) rfl rfl (Nat.le_of_ble_eq_true rfl) ⟨by rw [hR]; decide, by rw [hR]; decide⟩ ⟨by rw [hR]; decide, by rw [hR]; decide⟩ dH_writeAcceptance_20 (fun S20 q20 => ?_)
  have hF20 := q20.fx hF10
  refine hr_aload_n G dH_writeAcceptance_23 rfl rfl ?_
  refine hr_get (v := .ref (hw_a B 4 17)) G fH_47 (hA.lt (show 0 < hw_n0 0 by decide)) (hw_rfx hF20 (by decide) rfl (by decide)) dH_writeAcceptance_24 ?_
  refine hr_aload G dH_writeAcceptance_27 rfl ?_
  refine hr_get (v := .ref (hw_a B 2 u)) G fH_211 hs (hw_rdy (((((tx_r.rf ho).tr q10).tr q20).1 9 s 1 (by omega) (by omega)).trans hus) (by omega)) dH_writeAcceptance_29 ?_
  refine hr_get (v := .ref (hw_a B 3 u)) G fH_77 (hA.lt hu) (hw_rfx hF20 hu rfl (by omega)) dH_writeAcceptance_32 ?_
  refine hr_iconst (v := 3) G dH_writeAcceptance_35 (by decide) ?_
  refine hr_aald (n := 3) (v := .ref (hw_a B 4 (4 * u + 3))) G rfl (by decide) rfl (hA.lt hu) rfl (show 3 < 4 by decide) (hw_rfx hF20 hu rfl (by omega)) dH_writeAcceptance_36 ?_
  obtain ⟨⟨n37, hl37, hn37⟩, hc37⟩ := (((tx_r.rf ho).tr q10).tr q20).ot (u := (4 * u + 3)) (by omega) (hT _ (by omega))
  refine hr_callVt (t := 17) G rfl (hA.lt (show 17 < 18 by decide)) kH_275 iT_addEscapedT vT_addEscapedT (m_T_addEscapedT _ _ _ _ _ 17 hA hF20 (show 17 < 18 by decide) q20.2 (4 * u + 3) n37 (by omega) (by omega) hn37 hl37 hc37) rfl rfl (Nat.le_of_ble_eq_true rfl) ⟨by rw [hR]; decide, by rw [hR]; decide⟩ ⟨by rw [hR]; decide, by rw [hR]; decide⟩ dH_writeAcceptance_37 (fun S37 q37 => ?_)
  have hF37 := q37.fx hF20
  refine hr_aload_n G dH_writeAcceptance_40 rfl rfl ?_
  refine hr_get (v := .ref (hw_a B 4 17)) G fH_47 (hA.lt (show 0 < hw_n0 0 by decide)) (hw_rfx hF37 (by decide) rfl (by decide)) dH_writeAcceptance_41 ?_
  refine hr_ldcSW (si := 15) G rfl dH_writeAcceptance_44 ?_
  refine hr_callVt (t := 17) G rfl (hA.lt (show 17 < 18 by decide)) kH_263 iT_addAll vT_addAll (m_T_addAll _ _ _ _ _ 17 hA hF37 (show 17 < 18 by decide) q37.2 15 _ rfl) rfl rfl (Nat.le_of_ble_eq_true rfl) ⟨by rw [hR]; decide, by rw [hR]; decide⟩ ⟨by rw [hR]; decide, by rw [hR]; decide⟩ dH_writeAcceptance_47 (fun S47 q47 => ?_)
  have hF47 := q47.fx hF37
  refine hr_iload_n G dH_writeAcceptance_50 rfl rfl ?_
  refine hr_if_eq (tgt := 67) G dH_writeAcceptance_51 (by decide) (fun h51 => ?_) (fun h51 => ?_)
  · skip
    refine hr_L (L' := [(0, .ref (hw_a B 0 0)), (1, .ref (hw_a B 11 i)), (3, .ref (hw_a B 11 g)), (4, .ref (hw_a B 9 s))]) (hw_s1 rfl (hw_s1 rfl (hw_s1 rfl (hw_s1 rfl (hw_s0))))) ?_
    exact K67 _ (((((tx_r.rf ho).tr q10).tr q20).tr q37).tr q47)
  · skip
    refine hr_aload_n G dH_writeAcceptance_54 rfl rfl ?_
    refine hr_aload G dH_writeAcceptance_55 rfl ?_
    refine hr_get (v := .ref (hw_a B 2 u)) G fH_211 hs (hw_rdy (((((((tx_r.rf ho).tr q10).tr q20).tr q37).tr q47).1 9 s 1 (by omega) (by omega)).trans hus) (by omega)) dH_writeAcceptance_57 ?_
    refine hr_aload_n G dH_writeAcceptance_60 rfl rfl ?_
    refine hr_get (v := .int (S47 11 i 3)) G fH_226 hi rfl dH_writeAcceptance_61 ?_
    refine hr_st (st' := [.int (nI w), .ref (hw_a B 2 u), .ref (hw_a B 0 0)]) (by rw [(((((tx_r.rf ho).tr q10).tr q20).tr q37).tr q47).1 11 i 3 (by omega) (by omega), htw]) ?_
    refine hr_callHt (t := 17) G rfl (hA.lt (show 0 < hw_n0 0 by decide)) kH_278 iH_writeAttributes vH_writeAttributes (m_H_writeAttributes _ _ _ _ _ u w (ic_tx hI0 (((((tx_r.rf ho).tr q10).tr q20).tr q37).tr q47)) hu hw) rfl rfl (Nat.le_of_ble_eq_true rfl) ⟨by rw [hR]; decide, by rw [hR]; decide⟩ ⟨by rw [hR]; decide, by rw [hR]; decide⟩ dH_writeAcceptance_64 (fun S64 q64 => ?_)
    have hF64 := q64.fx hF47
    refine hr_L (L' := [(0, .ref (hw_a B 0 0)), (1, .ref (hw_a B 11 i)), (3, .ref (hw_a B 11 g)), (4, .ref (hw_a B 9 s))]) (hw_s1 rfl (hw_s1 rfl (hw_s1 rfl (hw_s1 rfl (hw_s0))))) ?_
    exact K67 _ ((((((tx_r.rf ho).tr q10).tr q20).tr q37).tr q47).tr q64)
set_option maxRecDepth 100000 in
set_option maxHeartbeats 1000000 in
theorem m_H_document (l : Launch) (B : hw_B) (nb : Nat → Nat) (S : hw_St) (z : Nat) (x : Int32) (hI : ic nb S) : hw_M l yH_document cH_document 2 (some .int) ({ frames := 1, cells := 0, slots := 0, locals := 21 }) B [.ref (hw_a B 0 0), .int x] nb S z (fun oc nb' S' z' => (∃ r, oc = .inl (some (.int r))) ∧ nb' = nb ∧ S' = S ∧ z' = z) := by
  refine hw_M.of (by decide) (Nat.le_of_ble_eq_true rfl) ?_
  intro X fr hl hR G hr hnm
  obtain ⟨hA, hF, ⟨hn9, hc9⟩, ⟨hn11, hc11⟩, ⟨nm, hnm1, hnm2⟩, hT, hSe, hTi, hU, hW0, hW⟩ := hI
  refine hr_iload_n G dH_document_0 rfl rfl ?_
  refine hr_iconst (v := -1) G dH_document_1 (by decide) ?_
  refine hr_icmp_ne (tgt := 15) G dH_document_2 (by decide) (fun h2 => ?_) (fun h2 => ?_)
  · skip
    refine hr_aload_n G dH_document_15 rfl rfl ?_
    refine hr_get (v := .ref (hw_a B 4 17)) G fH_47 (hA.lt (show 0 < hw_n0 0 by decide)) (hw_rfx hF (by decide) rfl (by decide)) dH_document_16 ?_
    refine hr_iload_n G dH_document_19 rfl rfl ?_
    refine hr_callV (k := 4) (i := 17) (ci := 2) (T := FT) (N := 2) G rfl rfl (hA.lt (show 17 < 18 by decide)) kH_207 iT_at vT_at (m_T_at _ _ _ _ _ 17 hA hF (show 17 < 18 by decide) x (hT 17 (by decide))) rfl rfl (Nat.le_of_ble_eq_true rfl) ⟨by rw [hR]; decide, by rw [hR]; decide⟩ ⟨by rw [hR]; decide, by rw [hR]; decide⟩ dH_document_20 (fun r nb2 S2 z2 hp => ?_)
    obtain ⟨⟨r1, hr1⟩, rfl, rfl, rfl⟩ := hp
    obtain rfl := Sum.inl.inj hr1
    exact hr_iret G hr (fun _ h => h) dH_document_23 ⟨⟨_, rfl⟩, rfl, rfl, rfl⟩
  · skip
    refine hr_aload_n G dH_document_5 rfl rfl ?_
    refine hr_get (v := .ref (hw_a B 4 17)) G fH_47 (hA.lt (show 0 < hw_n0 0 by decide)) (hw_rfx hF (by decide) rfl (by decide)) dH_document_6 ?_
    refine hr_get (v := .int (S 4 17 1)) G fH_58 (hA.lt (show 17 < hw_n0 4 by decide)) rfl dH_document_9 ?_
    refine hr_goto (tgt := 23) G dH_document_12 (by decide) ?_
    exact hr_iret G hr (fun _ h => h) dH_document_23 ⟨⟨_, rfl⟩, rfl, rfl, rfl⟩
end
section
/-! The calls that set. -/
/-- alike but for the characters of texts and the page's length -/
def eqv (S S' : hw_St) : Prop := (∀ k i j, ¬ k = 5 → ¬ (k = 4 ∧ i = 17 ∧ j = 1) → S' k i j = S k i j) ∧ ∀ t, t < 18 → tx_ok S' t
theorem eqv.rf {S : hw_St} (h : ∀ t, t < 18 → tx_ok S t) : eqv S S := ⟨fun _ _ _ _ _ => rfl, h⟩
def hw_qp (o : hw_O) (nb : Nat → Nat) (S : hw_St) : hw_T := fun oc nb' S' _ => oc = o ∧ nb' = nb ∧ eqv S S'
theorem eqv_add {S : hw_St} {n : Nat} {c : Int32} (hn : S 4 16 1 = nI n) (h : n < 8) (hc : ib_c c) (hT : ∀ t, t < 18 → tx_ok S t) : eqv (hw_sv S 4 16 1 (nI (n + 1))) (tx_add S 16 n c) := by
  have hr : tx_r 16 S (tx_add S 16 n c) := tx_r.add hn (Nat.le_of_lt h) hc (hT 16 (by decide)).2
  refine ⟨fun k i j a b => ?_, fun t ht => ?_⟩
  · unfold tx_add
    rw [if_pos (show n < hw_ln 5 16 from h)]
    unfold hw_sv
    split
    · rfl
    · rw [if_neg (fun e => a e.1)]
  · by_cases e : t = 16
    · subst e; exact hr.2
    · exact hr.ot e (hT t ht)
def hs_en (S : hw_St) (x : Int32) : Int32 := if x < 0 ∨ 6 ≤ x then 0 else hs_fl S x.toNatClampNeg 1
theorem hs_en_y {S : hw_St} {w : Nat} (h : w < 6) : hs_en S (nI w) = hs_fl S w 1 := by
  unfold hs_en
  rw [if_neg, nI_clamp (by omega)]
  rintro (q | q)
  · exact nI_pos (by omega) q
  · exact nI_ge (b := 6) h (by decide) q
theorem m_H_isEnabled (l : Launch) (B : hw_B) (nb : Nat → Nat) (S : hw_St) (z : Nat) (hA : hw_al nb) (hF : hw_Fx S) (x : Int32) : hw_M l yH_isEnabled cH_isEnabled 2 (some .boolean) ({ frames := 2, cells := 0, slots := 0, locals := 42 }) B [.ref (hw_a B 0 0), .int x] nb S z (hw_p (.inl (some (.int (hs_en S x)))) nb S z) := by
  rcases ib_rng x 6 (by decide) with ⟨w, hw, rfl⟩ | h
  · rw [hs_en_y hw]
    exact m_H_isEnabled_y l B nb S z hA hF w hw
  · have e : hs_en S x = 0 := by unfold hs_en; exact if_pos h
    rw [e]
    exact m_H_isEnabled_n l B nb S z hA x h
set_option maxRecDepth 100000 in
set_option maxHeartbeats 1000000 in
theorem m_H_letter_a (l : Launch) (hst : l.stackTraces = false) (B : hw_B) (nb : Nat → Nat) (S : hw_St) (z : Nat) (x : Int32) (hx : x < 32 ∨ ¬ x ≤ 126) (hI : ic nb S) : hw_MX l yH_letter cH_letter 2 (some .int) ({ frames := 6, cells := 1, slots := 6, locals := 90 }) B [.ref (hw_a B 0 0), .int x] nb S z (hw_qp (.inr "java/lang/IllegalArgumentException") nb S) := by
  refine hw_MX.of (by decide) (Nat.le_of_ble_eq_true rfl) ?_
  intro X fr hl hR G hr htab
  obtain ⟨hA, hF, ⟨hn9, hc9⟩, ⟨hn11, hc11⟩, ⟨nm, hnm1, hnm2⟩, hT, hSe, hTi, hU, hW0, hW⟩ := hI
  refine hr_iload_n G dH_letter_0 rfl rfl ?_
  refine hr_bipush (v := 32) G dH_letter_1 (by decide) ?_
  refine hr_icmp_lt (tgt := 12) G dH_letter_3 (by decide) (fun h3 => ?_) (fun h3 => ?_)
  · skip
    exact hr_throw (E := "java/lang/IllegalArgumentException") (names := ["java/lang/RuntimeException", "java/lang/Exception"]) (si := 0) G (by rw [hl]; exact hst) htab (by decide) (by decide) qH_51 in_IAE rfl at_IAE go_IAE dH_letter_12 dH_letter_15 dH_letter_16 dH_letter_18 dH_letter_21 (by rw [hR]; decide) (by rw [hR]; decide) (by rw [hR]; decide) (by rw [hR]; decide) (by decide) (by decide) (fun _ _ => ⟨rfl, rfl, eqv.rf hT⟩)
  · skip
    refine hr_iload_n G dH_letter_6 rfl rfl ?_
    refine hr_bipush (v := 126) G dH_letter_7 (by decide) ?_
    refine hr_icmp_le (tgt := 22) G dH_letter_9 (by decide) (fun h => absurd h (hx.resolve_left h3)) (fun _ => ?_)
    exact hr_throw (E := "java/lang/IllegalArgumentException") (names := ["java/lang/RuntimeException", "java/lang/Exception"]) (si := 0) G (by rw [hl]; exact hst) htab (by decide) (by decide) qH_51 in_IAE rfl at_IAE go_IAE dH_letter_12 dH_letter_15 dH_letter_16 dH_letter_18 dH_letter_21 (by rw [hR]; decide) (by rw [hR]; decide) (by rw [hR]; decide) (by rw [hR]; decide) (by decide) (by decide) (fun _ _ => ⟨rfl, rfl, eqv.rf hT⟩)
set_option maxRecDepth 100000 in
set_option maxHeartbeats 1000000 in
theorem m_H_letter_b (l : Launch) (hst : l.stackTraces = false) (B : hw_B) (nb : Nat → Nat) (S : hw_St) (z : Nat) (x : Int32) (hx1 : ¬ x < 32) (hx2 : x ≤ 126) (hn : ¬ S 4 16 1 < 8) (hI : ic nb S) : hw_MX l yH_letter cH_letter 2 (some .int) ({ frames := 6, cells := 1, slots := 6, locals := 90 }) B [.ref (hw_a B 0 0), .int x] nb S z (hw_qp (.inr "java/lang/IllegalStateException") nb S) := by
  refine hw_MX.of (by decide) (Nat.le_of_ble_eq_true rfl) ?_
  intro X fr hl hR G hr htab
  obtain ⟨hA, hF, ⟨hn9, hc9⟩, ⟨hn11, hc11⟩, ⟨nm, hnm1, hnm2⟩, hT, hSe, hTi, hU, hW0, hW⟩ := hI
  refine hr_iload_n G dH_letter_0 rfl rfl ?_
  refine hr_bipush (v := 32) G dH_letter_1 (by decide) ?_
  refine hr_icmp_lt (tgt := 12) G dH_letter_3 (by decide) (fun h => absurd h hx1) (fun _ => ?_)
  refine hr_iload_n G dH_letter_6 rfl rfl ?_
  refine hr_bipush (v := 126) G dH_letter_7 (by decide) ?_
  refine hr_icmp_le (tgt := 22) G dH_letter_9 (by decide) (fun _ => ?_) (fun h => absurd hx2 h)
  refine hr_aload_n G dH_letter_22 rfl rfl ?_
  refine hr_get (v := .ref (hw_a B 4 16)) G fH_43 (hA.lt (show 0 < hw_n0 0 by decide)) (hw_rfx hF (by decide) rfl (by decide)) dH_letter_23 ?_
  refine hr_get (v := .int (S 4 16 1)) G fH_58 (hA.lt (show 16 < hw_n0 4 by decide)) rfl dH_letter_26 ?_
  refine hr_bipush (v := 8) G dH_letter_29 (by decide) ?_
  refine hr_icmp_lt (tgt := 44) G dH_letter_31 (by decide) (fun h => absurd h hn) (fun _ => ?_)
  exact hr_throw (E := "java/lang/IllegalStateException") (names := ["java/lang/RuntimeException", "java/lang/Exception"]) (si := 1) G (by rw [hl]; exact hst) htab (by decide) (by decide) qH_62 in_ISE rfl at_ISE go_ISE dH_letter_34 dH_letter_37 dH_letter_38 dH_letter_40 dH_letter_43 (by rw [hR]; decide) (by rw [hR]; decide) (by rw [hR]; decide) (by rw [hR]; decide) (by decide) (by decide) (fun _ _ => ⟨rfl, rfl, eqv.rf hT⟩)
set_option maxRecDepth 100000 in
set_option maxHeartbeats 1000000 in
theorem m_H_letter_c (l : Launch) (hst : l.stackTraces = false) (B : hw_B) (nb : Nat → Nat) (S : hw_St) (z : Nat) (x : Int32) (hx1 : ¬ x < 32) (hx2 : x ≤ 126) (n : Nat) (hn : S 4 16 1 = nI n) (hn8 : n < 8) (hI : ic nb S) : hw_MX l yH_letter cH_letter 2 (some .int) ({ frames := 6, cells := 1, slots := 6, locals := 90 }) B [.ref (hw_a B 0 0), .int x] nb S z (hw_qp (.inl (some (.int (nI (n + 1))))) nb (hw_sv S 4 16 1 (nI (n + 1)))) := by
  refine hw_MX.of (by decide) (Nat.le_of_ble_eq_true rfl) ?_
  intro X fr hl hR G hr htab
  obtain ⟨hA, hF, ⟨hn9, hc9⟩, ⟨hn11, hc11⟩, ⟨nm, hnm1, hnm2⟩, hT, hSe, hTi, hU, hW0, hW⟩ := hI
  refine hr_iload_n G dH_letter_0 rfl rfl ?_
  refine hr_bipush (v := 32) G dH_letter_1 (by decide) ?_
  refine hr_icmp_lt (tgt := 12) G dH_letter_3 (by decide) (fun h => absurd h hx1) (fun _ => ?_)
  refine hr_iload_n G dH_letter_6 rfl rfl ?_
  refine hr_bipush (v := 126) G dH_letter_7 (by decide) ?_
  refine hr_icmp_le (tgt := 22) G dH_letter_9 (by decide) (fun _ => ?_) (fun h => absurd hx2 h)
  refine hr_aload_n G dH_letter_22 rfl rfl ?_
  refine hr_get (v := .ref (hw_a B 4 16)) G fH_43 (hA.lt (show 0 < hw_n0 0 by decide)) (hw_rfx hF (by decide) rfl (by decide)) dH_letter_23 ?_
  refine hr_get (v := .int (S 4 16 1)) G fH_58 (hA.lt (show 16 < hw_n0 4 by decide)) rfl dH_letter_26 ?_
  refine hr_bipush (v := 8) G dH_letter_29 (by decide) ?_
  refine hr_icmp_lt (tgt := 44) G dH_letter_31 (by decide) (fun _ => ?_) (fun h => absurd (show S 4 16 1 < 8 by rw [hn]; exact (nI_ltI (by omega) (by decide)).mpr hn8) h)
  refine hr_aload_n G dH_letter_44 rfl rfl ?_
  refine hr_get (v := .ref (hw_a B 4 16)) G fH_43 (hA.lt (show 0 < hw_n0 0 by decide)) (hw_rfx hF (by decide) rfl (by decide)) dH_letter_45 ?_
  refine hr_iload_n G dH_letter_48 rfl rfl ?_
  refine hr_i2c G dH_letter_49 ?_
  refine hr_callVn (k := 4) (i := 16) G rfl rfl (hA.lt (show 16 < hw_n0 4 by decide)) kH_67 iT_add vT_add (m_T_add _ _ _ _ _ 16 hA hF (by decide) n (x.toUInt32 % 65536).toInt32 hn (Nat.le_of_lt hn8) (pk_nc _)) rfl rfl (Nat.le_of_ble_eq_true rfl) ⟨by rw [hR]; decide, by rw [hR]; decide⟩ ⟨by rw [hR]; decide, by rw [hR]; decide⟩ dH_letter_50 ?_
  refine hr_aload_n G dH_letter_53 rfl rfl ?_
  refine hr_get (v := .ref (hw_a B 4 16)) G fH_43 (hA.lt (show 0 < hw_n0 0 by decide)) (hw_rfx ((tx_r.add hn (Nat.le_of_lt hn8) (pk_nc x) (hT 16 (by decide)).2).fx hF) (by decide) rfl (by decide)) dH_letter_54 ?_
  refine hr_get (v := .int ((tx_add S 16 n (x.toUInt32 % 65536).toInt32) 4 16 1)) G fH_58 (hA.lt (show 16 < hw_n0 4 by decide)) rfl dH_letter_57 ?_
  refine hr_wide (c' := 1) (sl' := 6) (Nat.le_of_ble_eq_true rfl) (Nat.le_of_ble_eq_true rfl) ?_
  exact hr_iret G hr hw_QX.of dH_letter_60 ⟨by rw [tx_add_len (show n < hw_ln 5 16 from hn8)], rfl, eqv_add hn hn8 (pk_nc _) hT⟩
set_option maxRecDepth 100000 in
set_option maxHeartbeats 1000000 in
theorem m_H_text_a (l : Launch) (hst : l.stackTraces = false) (B : hw_B) (nb : Nat → Nat) (S : hw_St) (z : Nat) (x y : Int32) (hx : x < 0 ∨ 4 ≤ x) (hI : ic nb S) : hw_MX l yH_text cH_text 5 (some .int) ({ frames := 6, cells := 1, slots := 6, locals := 90 }) B [.ref (hw_a B 0 0), .int x, .int y] nb S z (hw_qp (.inr "java/lang/IllegalArgumentException") nb S) := by
  refine hw_MX.of (by decide) (Nat.le_of_ble_eq_true rfl) ?_
  intro X fr hl hR G hr htab
  obtain ⟨hA, hF, ⟨hn9, hc9⟩, ⟨hn11, hc11⟩, ⟨nm, hnm1, hnm2⟩, hT, hSe, hTi, hU, hW0, hW⟩ := hI
  refine hr_aload_n G dH_text_0 rfl rfl ?_
  refine hr_iload_n G dH_text_1 rfl rfl ?_
  refine hr_callVs (k := 0) (i := 0) G rfl rfl (hA.lt (show 0 < hw_n0 0 by decide)) kH_71 iH_findUser vH_findUser (m_H_findUser_n _ _ _ _ _ x hx) rfl rfl (Nat.le_of_ble_eq_true rfl) ⟨by rw [hR]; decide, by rw [hR]; decide⟩ ⟨by rw [hR]; decide, by rw [hR]; decide⟩ dH_text_2 ?_
  refine hr_astore_nN (i := 3) G dH_text_5 rfl (by decide) ?_
  refine hr_aload_nN G dH_text_6 rfl rfl ?_
  refine hr_ifnullN (tgt := 19) G dH_text_7 (by decide) ?_
  exact hr_throw (E := "java/lang/IllegalArgumentException") (names := ["java/lang/RuntimeException", "java/lang/Exception"]) (si := 2) G (by rw [hl]; exact hst) htab (by decide) (by decide) qH_51 in_IAE rfl at_IAE go_IAE dH_text_19 dH_text_22 dH_text_23 dH_text_25 dH_text_28 (by rw [hR]; decide) (by rw [hR]; decide) (by rw [hR]; decide) (by rw [hR]; decide) (by decide) (by decide) (fun _ _ => ⟨rfl, rfl, eqv.rf hT⟩)
set_option maxRecDepth 100000 in
set_option maxHeartbeats 1000000 in
theorem m_H_text_b (l : Launch) (hst : l.stackTraces = false) (B : hw_B) (nb : Nat → Nat) (S : hw_St) (z : Nat) (u : Nat) (y : Int32) (hu : u < 4) (hy : y < 0 ∨ ¬ y ≤ 3) (hI : ic nb S) : hw_MX l yH_text cH_text 5 (some .int) ({ frames := 6, cells := 1, slots := 6, locals := 90 }) B [.ref (hw_a B 0 0), .int (nI u), .int y] nb S z (hw_qp (.inr "java/lang/IllegalArgumentException") nb S) := by
  refine hw_MX.of (by decide) (Nat.le_of_ble_eq_true rfl) ?_
  intro X fr hl hR G hr htab
  obtain ⟨hA, hF, ⟨hn9, hc9⟩, ⟨hn11, hc11⟩, ⟨nm, hnm1, hnm2⟩, hT, hSe, hTi, hU, hW0, hW⟩ := hI
  refine hr_aload_n G dH_text_0 rfl rfl ?_
  refine hr_iload_n G dH_text_1 rfl rfl ?_
  refine hr_callVs (k := 0) (i := 0) G rfl rfl (hA.lt (show 0 < hw_n0 0 by decide)) kH_71 iH_findUser vH_findUser (m_H_findUser_y _ _ _ _ _ hA hF u hu) rfl rfl (Nat.le_of_ble_eq_true rfl) ⟨by rw [hR]; decide, by rw [hR]; decide⟩ ⟨by rw [hR]; decide, by rw [hR]; decide⟩ dH_text_2 ?_
  refine hr_astore_n (i := 3) G dH_text_5 rfl (by decide) ?_
  refine hr_aload_n G dH_text_6 rfl rfl ?_
  refine hr_ifnull G dH_text_7 ?_
  refine hr_iload_n G dH_text_10 rfl rfl ?_
  refine hr_if_lt (tgt := 19) G dH_text_11 (by decide) (fun h11 => ?_) (fun h11 => ?_)
  · skip
    exact hr_throw (E := "java/lang/IllegalArgumentException") (names := ["java/lang/RuntimeException", "java/lang/Exception"]) (si := 2) G (by rw [hl]; exact hst) htab (by decide) (by decide) qH_51 in_IAE rfl at_IAE go_IAE dH_text_19 dH_text_22 dH_text_23 dH_text_25 dH_text_28 (by rw [hR]; decide) (by rw [hR]; decide) (by rw [hR]; decide) (by rw [hR]; decide) (by decide) (by decide) (fun _ _ => ⟨rfl, rfl, eqv.rf hT⟩)
  · skip
    refine hr_iload_n G dH_text_14 rfl rfl ?_
    refine hr_iconst (v := 3) G dH_text_15 (by decide) ?_
    refine hr_icmp_le (tgt := 29) G dH_text_16 (by decide) (fun h => absurd h (hy.resolve_left h11)) (fun _ => ?_)
    exact hr_throw (E := "java/lang/IllegalArgumentException") (names := ["java/lang/RuntimeException", "java/lang/Exception"]) (si := 2) G (by rw [hl]; exact hst) htab (by decide) (by decide) qH_51 in_IAE rfl at_IAE go_IAE dH_text_19 dH_text_22 dH_text_23 dH_text_25 dH_text_28 (by rw [hR]; decide) (by rw [hR]; decide) (by rw [hR]; decide) (by rw [hR]; decide) (by decide) (by decide) (fun _ _ => ⟨rfl, rfl, eqv.rf hT⟩)
theorem eqv_text {S S1 : hw_St} {t n : Nat} (ht : t < 16) (h : tx_r t S S1) (hn : S1 4 t 1 = nI n) (hT : ∀ t, t < 18 → tx_ok S t) : eqv (hw_sv (hw_sv S 4 t 1 (nI n)) 4 16 1 0) (hw_sv S1 4 16 1 0) := by
  have h2 : tx_r 16 S1 (hw_sv S1 4 16 1 0) := tx_r.len 0 (Nat.zero_le _) (h.ot (by omega) (hT 16 (by decide))).2
  refine ⟨fun k i j a b => ?_, fun t' ht' => ?_⟩
  · by_cases e : k = 4 ∧ i = 16 ∧ j = 1
    · obtain ⟨rfl, rfl, rfl⟩ := e
      rw [hw_sv_same, hw_sv_same]
    · by_cases e2 : k = 4 ∧ i = t ∧ j = 1
      · obtain ⟨rfl, rfl, rfl⟩ := e2
        unfold hw_sv
        rw [if_neg e, if_neg e, if_pos ⟨rfl, rfl, rfl⟩]; exact hn
      · unfold hw_sv
        rw [if_neg e, if_neg e, if_neg e2]
        exact h.1 k i j (fun q => a q.1) e2
  · by_cases e : t' = 16
    · subst e; exact h2.2
    · refine h2.ot e ?_
      by_cases e2 : t' = t
      · subst e2; exact h.2
      · exact h.ot e2 (hT t' ht')
theorem hw_ln8 {t : Nat} (h : t < 17) : hw_ln 5 t = 8 := by
  rcases (show t = 0 ∨ t = 1 ∨ t = 2 ∨ t = 3 ∨ t = 4 ∨ t = 5 ∨ t = 6 ∨ t = 7 ∨ t = 8 ∨ t = 9 ∨ t = 10 ∨ t = 11 ∨ t = 12 ∨ t = 13 ∨ t = 14 ∨ t = 15 ∨ t = 16 by omega) with rfl | rfl | rfl | rfl | rfl | rfl | rfl | rfl | rfl | rfl | rfl | rfl | rfl | rfl | rfl | rfl | rfl <;> rfl
set_option maxRecDepth 100000 in
set_option maxHeartbeats 1000000 in
theorem m_H_text_c (l : Launch) (hst : l.stackTraces = false) (B : hw_B) (nb : Nat → Nat) (S : hw_St) (z : Nat) (u j n : Nat) (hu : u < 4) (hj : j < 4) (hn : S 4 16 1 = nI n) (hn8 : n ≤ 8) (hI : ic nb S) : hw_MX l yH_text cH_text 5 (some .int) ({ frames := 6, cells := 1, slots := 6, locals := 90 }) B [.ref (hw_a B 0 0), .int (nI u), .int (nI j)] nb S z (hw_qp (.inl (some (.int (nI n)))) nb (hw_sv (hw_sv S 4 (4 * u + j) 1 (nI n)) 4 16 1 0)) := by
  refine hw_MX.of (by decide) (Nat.le_of_ble_eq_true rfl) ?_
  intro X fr hl hR G hr htab
  obtain ⟨hA, hF, ⟨hn9, hc9⟩, ⟨hn11, hc11⟩, ⟨nm, hnm1, hnm2⟩, hT, hSe, hTi, hU, hW0, hW⟩ := hI
  refine hr_aload_n G dH_text_0 rfl rfl ?_
  refine hr_iload_n G dH_text_1 rfl rfl ?_
  refine hr_callVs (k := 0) (i := 0) G rfl rfl (hA.lt (show 0 < hw_n0 0 by decide)) kH_71 iH_findUser vH_findUser (m_H_findUser_y _ _ _ _ _ hA hF u hu) rfl rfl (Nat.le_of_ble_eq_true rfl) ⟨by rw [hR]; decide, by rw [hR]; decide⟩ ⟨by rw [hR]; decide, by rw [hR]; decide⟩ dH_text_2 ?_
  refine hr_astore_n (i := 3) G dH_text_5 rfl (by decide) ?_
  refine hr_aload_n G dH_text_6 rfl rfl ?_
  refine hr_ifnull G dH_text_7 ?_
  refine hr_iload_n G dH_text_10 rfl rfl ?_
  refine hr_if_lt (tgt := 19) G dH_text_11 (by decide) (fun h => absurd h (nI_pos (by omega))) (fun _ => ?_)
  refine hr_iload_n G dH_text_14 rfl rfl ?_
  refine hr_iconst (v := 3) G dH_text_15 (by decide) ?_
  refine hr_icmp_le (tgt := 29) G dH_text_16 (by decide) (fun _ => ?_) (fun h => absurd (show nI j ≤ 3 from nI_le (b := 3) (by omega) (by decide)) h)
  refine hr_aload_n G dH_text_29 rfl rfl ?_
  refine hr_get (v := .ref (hw_a B 3 u)) G fH_77 (hA.lt hu) (hw_rfx hF hu rfl (by omega)) dH_text_30 ?_
  refine hr_iload_n G dH_text_33 rfl rfl ?_
  refine hr_aald (n := j) (v := .ref (hw_a B 4 (4 * u + j))) G rfl (by decide) rfl (hA.lt hu) rfl (show j < 4 by omega) (hw_rfx hF hu rfl (by omega)) dH_text_34 ?_
  refine hr_astore (i := 4) G dH_text_35 (by decide) ?_
  refine hr_aload G dH_text_37 rfl ?_
  refine hr_aload_n G dH_text_39 rfl rfl ?_
  refine hr_get (v := .ref (hw_a B 4 16)) G fH_43 (hA.lt (show 0 < hw_n0 0 by decide)) (hw_rfx hF (by decide) rfl (by decide)) dH_text_40 ?_
  refine hr_callV (k := 4) (i := 4 * u + j) (ci := 2) (T := FT) (N := 2) G rfl rfl (hA.lt (show 4 * u + j < 18 by omega)) kH_81 iT_become vT_become (m_T_become _ _ _ _ _ (4 * u + j) hA hF (by omega) (hT _ (by omega)) 16 n (by decide) (by omega) hn hn8 (hT 16 (by decide)).2 (by rw [hw_ln8 (by omega)]; exact hn8)) rfl rfl (Nat.le_of_ble_eq_true rfl) ⟨by rw [hR]; decide, by rw [hR]; decide⟩ ⟨by rw [hR]; decide, by rw [hR]; decide⟩ dH_text_43 (fun r nb2 S2 z2 hp => ?_)
  obtain ⟨hr1, rfl, ⟨hr2, hr3⟩, rfl⟩ := hp
  obtain rfl := Sum.inl.inj hr1
  have hF2 := hr2.fx hF
  refine hr_aload_n G dH_text_46 rfl rfl ?_
  refine hr_get (v := .ref (hw_a B 4 16)) G fH_43 (hA.lt (show 0 < hw_n0 0 by decide)) (hw_rfx hF2 (by decide) rfl (by decide)) dH_text_47 ?_
  refine hr_callVn (k := 4) (i := 16) G rfl rfl (hA.lt (show 16 < hw_n0 4 by decide)) kH_85 iT_clear vT_clear (m_T_clear _ _ _ _ _ 16 hA hF2 (by decide)) rfl rfl (Nat.le_of_ble_eq_true rfl) ⟨by rw [hR]; decide, by rw [hR]; decide⟩ ⟨by rw [hR]; decide, by rw [hR]; decide⟩ dH_text_50 ?_
  refine hr_aload G dH_text_53 rfl ?_
  refine hr_get (v := .int (nI n)) G fH_58 (hA.lt (show 4 * u + j < 18 by omega)) (by show Value.int _ = Value.int _; rw [← hr3]; unfold hw_sv; rw [if_neg (by omega)]) dH_text_55 ?_
  refine hr_wide (c' := 1) (sl' := 6) (Nat.le_of_ble_eq_true rfl) (Nat.le_of_ble_eq_true rfl) ?_
  exact hr_iret G hr hw_QX.of dH_text_58 ⟨rfl, rfl, eqv_text (by omega) hr2 hr3 hT⟩
set_option maxRecDepth 100000 in
set_option maxHeartbeats 1000000 in
theorem m_H_password_a (l : Launch) (hst : l.stackTraces = false) (B : hw_B) (nb : Nat → Nat) (S : hw_St) (z : Nat) (x y : Int32) (hx : x < 0 ∨ 4 ≤ x) (hI : ic nb S) : hw_MX l yH_password cH_password 4 (some .boolean) ({ frames := 6, cells := 1, slots := 6, locals := 90 }) B [.ref (hw_a B 0 0), .int x, .int y] nb S z (hw_qp (.inr "java/lang/IllegalArgumentException") nb S) := by
  refine hw_MX.of (by decide) (Nat.le_of_ble_eq_true rfl) ?_
  intro X fr hl hR G hr htab
  obtain ⟨hA, hF, ⟨hn9, hc9⟩, ⟨hn11, hc11⟩, ⟨nm, hnm1, hnm2⟩, hT, hSe, hTi, hU, hW0, hW⟩ := hI
  refine hr_aload_n G dH_password_0 rfl rfl ?_
  refine hr_iload_n G dH_password_1 rfl rfl ?_
  refine hr_callVs (k := 0) (i := 0) G rfl rfl (hA.lt (show 0 < hw_n0 0 by decide)) kH_71 iH_findUser vH_findUser (m_H_findUser_n _ _ _ _ _ x hx) rfl rfl (Nat.le_of_ble_eq_true rfl) ⟨by rw [hR]; decide, by rw [hR]; decide⟩ ⟨by rw [hR]; decide, by rw [hR]; decide⟩ dH_password_2 ?_
  refine hr_astore_nN (i := 3) G dH_password_5 rfl (by decide) ?_
  refine hr_aload_nN G dH_password_6 rfl rfl ?_
  refine hr_ifnonnullN G dH_password_7 ?_
  exact hr_throw (E := "java/lang/IllegalArgumentException") (names := ["java/lang/RuntimeException", "java/lang/Exception"]) (si := 3) G (by rw [hl]; exact hst) htab (by decide) (by decide) qH_51 in_IAE rfl at_IAE go_IAE dH_password_10 dH_password_13 dH_password_14 dH_password_16 dH_password_19 (by rw [hR]; decide) (by rw [hR]; decide) (by rw [hR]; decide) (by rw [hR]; decide) (by decide) (by decide) (fun _ _ => ⟨rfl, rfl, eqv.rf hT⟩)
set_option maxRecDepth 100000 in
set_option maxHeartbeats 1000000 in
theorem m_H_password_c (l : Launch) (hst : l.stackTraces = false) (B : hw_B) (nb : Nat → Nat) (S : hw_St) (z : Nat) (u : Nat) (y : Int32) (hu : u < 4) (hI : ic nb S) : hw_MX l yH_password cH_password 4 (some .boolean) ({ frames := 6, cells := 1, slots := 6, locals := 90 }) B [.ref (hw_a B 0 0), .int (nI u), .int y] nb S z (hw_qp (.inl (some (.int 1))) nb (hw_sv (hw_sv (hw_sv S 2 u 3 y) 2 u 2 1) 2 u 4 0)) := by
  refine hw_MX.of (by decide) (Nat.le_of_ble_eq_true rfl) ?_
  intro X fr hl hR G hr htab
  obtain ⟨hA, hF, ⟨hn9, hc9⟩, ⟨hn11, hc11⟩, ⟨nm, hnm1, hnm2⟩, hT, hSe, hTi, hU, hW0, hW⟩ := hI
  refine hr_aload_n G dH_password_0 rfl rfl ?_
  refine hr_iload_n G dH_password_1 rfl rfl ?_
  refine hr_callVs (k := 0) (i := 0) G rfl rfl (hA.lt (show 0 < hw_n0 0 by decide)) kH_71 iH_findUser vH_findUser (m_H_findUser_y _ _ _ _ _ hA hF u hu) rfl rfl (Nat.le_of_ble_eq_true rfl) ⟨by rw [hR]; decide, by rw [hR]; decide⟩ ⟨by rw [hR]; decide, by rw [hR]; decide⟩ dH_password_2 ?_
  refine hr_astore_n (i := 3) G dH_password_5 rfl (by decide) ?_
  refine hr_aload_n G dH_password_6 rfl rfl ?_
  refine hr_ifnonnull (tgt := 20) G dH_password_7 (by decide) ?_
  refine hr_aload_n G dH_password_20 rfl rfl ?_
  refine hr_iload_n G dH_password_21 rfl rfl ?_
  refine hr_callVn (k := 2) (i := u) G rfl rfl (hA.lt hu) kH_90 iU_setWord vU_setWord (m_U_setWord _ _ _ _ _ u hA hu y) rfl rfl (Nat.le_of_ble_eq_true rfl) ⟨by rw [hR]; decide, by rw [hR]; decide⟩ ⟨by rw [hR]; decide, by rw [hR]; decide⟩ dH_password_22 ?_
  refine hr_iconst (v := 1) G dH_password_25 (by decide) ?_
  refine hr_wide (c' := 1) (sl' := 6) (Nat.le_of_ble_eq_true rfl) (Nat.le_of_ble_eq_true rfl) ?_
  exact hr_zret G hr (rfl) hw_QX.of dH_password_26 ⟨rfl, rfl, fun _ _ _ _ _ => rfl, hT⟩
set_option maxRecDepth 100000 in
set_option maxHeartbeats 1000000 in
theorem m_H_service_a (l : Launch) (hst : l.stackTraces = false) (B : hw_B) (nb : Nat → Nat) (S : hw_St) (z : Nat) (x y : Int32) (hx : x < 0 ∨ 6 ≤ x) (hI : ic nb S) : hw_MX l yH_service cH_service 4 (some .int) ({ frames := 6, cells := 1, slots := 6, locals := 90 }) B [.ref (hw_a B 0 0), .int x, .int y] nb S z (hw_qp (.inr "java/lang/IllegalArgumentException") nb S) := by
  refine hw_MX.of (by decide) (Nat.le_of_ble_eq_true rfl) ?_
  intro X fr hl hR G hr htab
  obtain ⟨hA, hF, ⟨hn9, hc9⟩, ⟨hn11, hc11⟩, ⟨nm, hnm1, hnm2⟩, hT, hSe, hTi, hU, hW0, hW⟩ := hI
  refine hr_iload_n G dH_service_0 rfl rfl ?_
  refine hr_callSs G kH_93 sH_isService (m_H_isService_n _ _ _ _ _ x hx) rfl rfl (Nat.le_of_ble_eq_true rfl) ⟨by rw [hR]; decide, by rw [hR]; decide⟩ ⟨by rw [hR]; decide, by rw [hR]; decide⟩ dH_service_1 ?_
  refine hr_if_eq (tgt := 17) G dH_service_4 (by decide) (fun _ => ?_) (fun h => absurd (by decide) h)
  exact hr_throw (E := "java/lang/IllegalArgumentException") (names := ["java/lang/RuntimeException", "java/lang/Exception"]) (si := 4) G (by rw [hl]; exact hst) htab (by decide) (by decide) qH_51 in_IAE rfl at_IAE go_IAE dH_service_17 dH_service_20 dH_service_21 dH_service_23 dH_service_26 (by rw [hR]; decide) (by rw [hR]; decide) (by rw [hR]; decide) (by rw [hR]; decide) (by decide) (by decide) (fun _ _ => ⟨rfl, rfl, eqv.rf hT⟩)
set_option maxRecDepth 100000 in
set_option maxHeartbeats 1000000 in
theorem m_H_service_b (l : Launch) (hst : l.stackTraces = false) (B : hw_B) (nb : Nat → Nat) (S : hw_St) (z : Nat) (w : Nat) (y : Int32) (hw : w < 6) (hy : y < 0 ∨ ¬ y ≤ 63) (hI : ic nb S) : hw_MX l yH_service cH_service 4 (some .int) ({ frames := 6, cells := 1, slots := 6, locals := 90 }) B [.ref (hw_a B 0 0), .int (nI w), .int y] nb S z (hw_qp (.inr "java/lang/IllegalArgumentException") nb S) := by
  refine hw_MX.of (by decide) (Nat.le_of_ble_eq_true rfl) ?_
  intro X fr hl hR G hr htab
  obtain ⟨hA, hF, ⟨hn9, hc9⟩, ⟨hn11, hc11⟩, ⟨nm, hnm1, hnm2⟩, hT, hSe, hTi, hU, hW0, hW⟩ := hI
  refine hr_iload_n G dH_service_0 rfl rfl ?_
  refine hr_callSs G kH_93 sH_isService (m_H_isService_y _ _ _ _ _ w hw) rfl rfl (Nat.le_of_ble_eq_true rfl) ⟨by rw [hR]; decide, by rw [hR]; decide⟩ ⟨by rw [hR]; decide, by rw [hR]; decide⟩ dH_service_1 ?_
  refine hr_if_eq (tgt := 17) G dH_service_4 (by decide) (fun h => absurd h (by decide)) (fun _ => ?_)
  refine hr_iload_n G dH_service_7 rfl rfl ?_
  refine hr_if_lt (tgt := 17) G dH_service_8 (by decide) (fun h8 => ?_) (fun h8 => ?_)
  · skip
    exact hr_throw (E := "java/lang/IllegalArgumentException") (names := ["java/lang/RuntimeException", "java/lang/Exception"]) (si := 4) G (by rw [hl]; exact hst) htab (by decide) (by decide) qH_51 in_IAE rfl at_IAE go_IAE dH_service_17 dH_service_20 dH_service_21 dH_service_23 dH_service_26 (by rw [hR]; decide) (by rw [hR]; decide) (by rw [hR]; decide) (by rw [hR]; decide) (by decide) (by decide) (fun _ _ => ⟨rfl, rfl, eqv.rf hT⟩)
  · skip
    refine hr_iload_n G dH_service_11 rfl rfl ?_
    refine hr_bipush (v := 63) G dH_service_12 (by decide) ?_
    refine hr_icmp_le (tgt := 27) G dH_service_14 (by decide) (fun h => absurd h (hy.resolve_left h8)) (fun _ => ?_)
    exact hr_throw (E := "java/lang/IllegalArgumentException") (names := ["java/lang/RuntimeException", "java/lang/Exception"]) (si := 4) G (by rw [hl]; exact hst) htab (by decide) (by decide) qH_51 in_IAE rfl at_IAE go_IAE dH_service_17 dH_service_20 dH_service_21 dH_service_23 dH_service_26 (by rw [hR]; decide) (by rw [hR]; decide) (by rw [hR]; decide) (by rw [hR]; decide) (by decide) (by decide) (fun _ _ => ⟨rfl, rfl, eqv.rf hT⟩)
set_option maxRecDepth 100000 in
set_option maxHeartbeats 1000000 in
theorem m_H_service_c (l : Launch) (hst : l.stackTraces = false) (B : hw_B) (nb : Nat → Nat) (S : hw_St) (z : Nat) (w : Nat) (y : Int32) (hw : w < 6) (hy1 : ¬ y < 0) (hy2 : y ≤ 63) (hI : ic nb S) : hw_MX l yH_service cH_service 4 (some .int) ({ frames := 6, cells := 1, slots := 6, locals := 90 }) B [.ref (hw_a B 0 0), .int (nI w), .int y] nb S z (hw_qp (.inl (some (.int (S 6 0 w)))) nb (hw_sv S 6 0 w y)) := by
  refine hw_MX.of (by decide) (Nat.le_of_ble_eq_true rfl) ?_
  intro X fr hl hR G hr htab
  obtain ⟨hA, hF, ⟨hn9, hc9⟩, ⟨hn11, hc11⟩, ⟨nm, hnm1, hnm2⟩, hT, hSe, hTi, hU, hW0, hW⟩ := hI
  refine hr_iload_n G dH_service_0 rfl rfl ?_
  refine hr_callSs G kH_93 sH_isService (m_H_isService_y _ _ _ _ _ w hw) rfl rfl (Nat.le_of_ble_eq_true rfl) ⟨by rw [hR]; decide, by rw [hR]; decide⟩ ⟨by rw [hR]; decide, by rw [hR]; decide⟩ dH_service_1 ?_
  refine hr_if_eq (tgt := 17) G dH_service_4 (by decide) (fun h => absurd h (by decide)) (fun _ => ?_)
  refine hr_iload_n G dH_service_7 rfl rfl ?_
  refine hr_if_lt (tgt := 17) G dH_service_8 (by decide) (fun h => absurd h hy1) (fun _ => ?_)
  refine hr_iload_n G dH_service_11 rfl rfl ?_
  refine hr_bipush (v := 63) G dH_service_12 (by decide) ?_
  refine hr_icmp_le (tgt := 27) G dH_service_14 (by decide) (fun _ => ?_) (fun h => absurd hy2 h)
  refine hr_aload_n G dH_service_27 rfl rfl ?_
  refine hr_get (v := .ref (hw_a B 6 0)) G fH_15 (hA.lt (show 0 < hw_n0 0 by decide)) (hw_rfx hF (by decide) rfl (by decide)) dH_service_28 ?_
  refine hr_iload_n G dH_service_31 rfl rfl ?_
  refine hr_iald (n := w) (v := .int (S 6 0 w)) G rfl (by decide) rfl (hA.lt (show 0 < hw_n0 6 by decide)) rfl (show w < 6 from hw) rfl dH_service_32 ?_
  refine hr_istore_n (i := 3) G dH_service_33 rfl (by decide) ?_
  refine hr_aload_n G dH_service_34 rfl rfl ?_
  refine hr_get (v := .ref (hw_a B 6 0)) G fH_15 (hA.lt (show 0 < hw_n0 0 by decide)) (hw_rfx hF (by decide) rfl (by decide)) dH_service_35 ?_
  refine hr_iload_n G dH_service_38 rfl rfl ?_
  refine hr_iload_n G dH_service_39 rfl rfl ?_
  refine hr_iast (n := w) (y := y) G rfl (by decide) rfl (hA.lt (show 0 < hw_n0 6 by decide)) rfl (show w < 6 from hw) rfl dH_service_40 ?_
  refine hr_iload_n G dH_service_41 rfl rfl ?_
  refine hr_wide (c' := 1) (sl' := 6) (Nat.le_of_ble_eq_true rfl) (Nat.le_of_ble_eq_true rfl) ?_
  exact hr_iret G hr hw_QX.of dH_service_42 ⟨rfl, rfl, fun _ _ _ _ _ => rfl, hT⟩
set_option maxRecDepth 100000 in
set_option maxHeartbeats 1000000 in
theorem m_H_callback_a (l : Launch) (hst : l.stackTraces = false) (B : hw_B) (nb : Nat → Nat) (S : hw_St) (z : Nat) (x y : Int32) (hx : x < 1 ∨ ¬ x ≤ 5) (hI : ic nb S) : hw_MX l yH_callback cH_callback 4 (some .boolean) ({ frames := 6, cells := 1, slots := 6, locals := 90 }) B [.ref (hw_a B 0 0), .int x, .int y] nb S z (hw_qp (.inr "java/lang/IllegalArgumentException") nb S) := by
  refine hw_MX.of (by decide) (Nat.le_of_ble_eq_true rfl) ?_
  intro X fr hl hR G hr htab
  obtain ⟨hA, hF, ⟨hn9, hc9⟩, ⟨hn11, hc11⟩, ⟨nm, hnm1, hnm2⟩, hT, hSe, hTi, hU, hW0, hW⟩ := hI
  refine hr_iload_n G dH_callback_0 rfl rfl ?_
  refine hr_iconst (v := 1) G dH_callback_1 (by decide) ?_
  refine hr_icmp_lt (tgt := 10) G dH_callback_2 (by decide) (fun h2 => ?_) (fun h2 => ?_)
  · skip
    exact hr_throw (E := "java/lang/IllegalArgumentException") (names := ["java/lang/RuntimeException", "java/lang/Exception"]) (si := 5) G (by rw [hl]; exact hst) htab (by decide) (by decide) qH_51 in_IAE rfl at_IAE go_IAE dH_callback_10 dH_callback_13 dH_callback_14 dH_callback_16 dH_callback_19 (by rw [hR]; decide) (by rw [hR]; decide) (by rw [hR]; decide) (by rw [hR]; decide) (by decide) (by decide) (fun _ _ => ⟨rfl, rfl, eqv.rf hT⟩)
  · skip
    refine hr_iload_n G dH_callback_5 rfl rfl ?_
    refine hr_iconst (v := 5) G dH_callback_6 (by decide) ?_
    refine hr_icmp_le (tgt := 20) G dH_callback_7 (by decide) (fun h => absurd h (hx.resolve_left h2)) (fun _ => ?_)
    exact hr_throw (E := "java/lang/IllegalArgumentException") (names := ["java/lang/RuntimeException", "java/lang/Exception"]) (si := 5) G (by rw [hl]; exact hst) htab (by decide) (by decide) qH_51 in_IAE rfl at_IAE go_IAE dH_callback_10 dH_callback_13 dH_callback_14 dH_callback_16 dH_callback_19 (by rw [hR]; decide) (by rw [hR]; decide) (by rw [hR]; decide) (by rw [hR]; decide) (by decide) (by decide) (fun _ _ => ⟨rfl, rfl, eqv.rf hT⟩)
set_option maxRecDepth 100000 in
set_option maxHeartbeats 1000000 in
theorem m_H_callback_c (l : Launch) (hst : l.stackTraces = false) (B : hw_B) (nb : Nat → Nat) (S : hw_St) (z : Nat) (c : Nat) (y : Int32) (hc : c < 6) (hc1 : 1 ≤ c) (hy : ib_b y) (hI : ic nb S) : hw_MX l yH_callback cH_callback 4 (some .boolean) ({ frames := 6, cells := 1, slots := 6, locals := 90 }) B [.ref (hw_a B 0 0), .int (nI c), .int y] nb S z (hw_qp (.inl (some (.int (S 7 0 c)))) nb (hw_sv S 7 0 c y)) := by
  refine hw_MX.of (by decide) (Nat.le_of_ble_eq_true rfl) ?_
  intro X fr hl hR G hr htab
  obtain ⟨hA, hF, ⟨hn9, hc9⟩, ⟨hn11, hc11⟩, ⟨nm, hnm1, hnm2⟩, hT, hSe, hTi, hU, hW0, hW⟩ := hI
  refine hr_iload_n G dH_callback_0 rfl rfl ?_
  refine hr_iconst (v := 1) G dH_callback_1 (by decide) ?_
  refine hr_icmp_lt (tgt := 10) G dH_callback_2 (by decide) (fun h => absurd h (show ¬ nI c < 1 from fun q => absurd ((nI_ltI (b := 1) (by omega) (by decide)).mp q) (by omega))) (fun _ => ?_)
  refine hr_iload_n G dH_callback_5 rfl rfl ?_
  refine hr_iconst (v := 5) G dH_callback_6 (by decide) ?_
  refine hr_icmp_le (tgt := 20) G dH_callback_7 (by decide) (fun _ => ?_) (fun h => absurd (show nI c ≤ 5 from nI_le (b := 5) (by omega) (by decide)) h)
  refine hr_aload_n G dH_callback_20 rfl rfl ?_
  refine hr_get (v := .ref (hw_a B 7 0)) G fH_19 (hA.lt (show 0 < hw_n0 0 by decide)) (hw_rfx hF (by decide) rfl (by decide)) dH_callback_21 ?_
  refine hr_iload_n G dH_callback_24 rfl rfl ?_
  refine hr_zald (n := c) (v := .int (S 7 0 c)) G rfl (by decide) rfl (hA.lt (show 0 < hw_n0 7 by decide)) rfl (show c < 6 from hc) rfl dH_callback_25 ?_
  refine hr_istore_n (i := 3) G dH_callback_26 rfl (by decide) ?_
  refine hr_aload_n G dH_callback_27 rfl rfl ?_
  refine hr_get (v := .ref (hw_a B 7 0)) G fH_19 (hA.lt (show 0 < hw_n0 0 by decide)) (hw_rfx hF (by decide) rfl (by decide)) dH_callback_28 ?_
  refine hr_iload_n G dH_callback_31 rfl rfl ?_
  refine hr_iload_n G dH_callback_32 rfl rfl ?_
  refine hr_zast (n := c) (y := y) G rfl (by decide) rfl (hA.lt (show 0 < hw_n0 7 by decide)) rfl (show c < 6 from hc) rfl (ib_01 hy) dH_callback_33 ?_
  refine hr_iload_n G dH_callback_34 rfl rfl ?_
  refine hr_wide (c' := 1) (sl' := 6) (Nat.le_of_ble_eq_true rfl) (Nat.le_of_ble_eq_true rfl) ?_
  exact hr_zret G hr (ib_01 (hW c hc)) hw_QX.of dH_callback_35 ⟨rfl, rfl, fun _ _ _ _ _ => rfl, hT⟩
end
section
/-! The invariant, slot by slot. -/
/-- what ic asks of one slot -/
def ipp (nb : Nat → Nat) (k i j : Nat) (x : Int32) : Prop := (∀ v, i < hw_n0 k → hw_fx k i j = some v → x = nI v) ∧ (k = 0 ∧ i = 0 ∧ j = 8 → x = nI (nb 9)) ∧ (k = 0 ∧ i = 0 ∧ j = 9 → x = nI (nb 11)) ∧ (k = 0 ∧ i = 0 ∧ j = 10 → ∃ m, m ≤ 150 ∧ x = nI m) ∧ (k = 4 ∧ i < 18 ∧ j = 1 → ∃ n, n ≤ hw_ln 5 i ∧ x = nI n) ∧ (k = 5 ∧ i < 18 → ib_c x) ∧ (k = 8 ∧ i = 0 ∧ j < nb 9 → x = nI j) ∧
  (k = 9 ∧ i < nb 9 → (j = 0 → x = nI i) ∧ (j = 1 → ∃ u, u < 4 ∧ x = nI u) ∧ (j = 3 → ib_b x) ∧ (j = 5 → ib_b x)) ∧ (k = 10 ∧ i = 0 ∧ j < nb 11 → x = nI j) ∧
  (k = 11 ∧ i < nb 11 → (j = 0 → x = nI i) ∧ (j = 2 → ∃ s, s < nb 9 ∧ x = nI s) ∧ (j = 5 → x = -1 ∨ ∃ p, p < i ∧ x = nI p) ∧ (j = 7 → ib_b x) ∧ (j = 8 → ib_b x) ∧ (j = 3 → ∃ w, w < 6 ∧ x = nI w) ∧ (j = 1 → x = 0 ∨ x = 1 ∨ x = 2)) ∧
  (k = 2 ∧ i < 4 → (j = 2 → ib_b x) ∧ (j = 4 → ∃ n, n ≤ 3 ∧ x = nI n)) ∧ (k = 7 ∧ i = 0 ∧ j < 6 → ib_b x) ∧ (k = 7 ∧ i = 0 ∧ j = 0 → x = 0)
def ip (nb : Nat → Nat) (S : hw_St) : Prop := hw_al nb ∧ nb 9 ≤ 40 ∧ nb 11 ≤ 150 ∧ ∀ k i j, ipp nb k i j (S k i j)
theorem ip.ic {nb : Nat → Nat} {S : hw_St} (h : ip nb S) : ic nb S := by
  obtain ⟨hA, h9, h11, h⟩ := h
  refine ⟨hA, fun k i j v hi hv => (h k i j).1 v hi hv, ⟨h9, (h 0 0 8).2.1 ⟨rfl, rfl, rfl⟩⟩, ⟨h11, (h 0 0 9).2.2.1 ⟨rfl, rfl, rfl⟩⟩, (h 0 0 10).2.2.2.1 ⟨rfl, rfl, rfl⟩, fun t ht => ⟨(h 4 t 1).2.2.2.2.1 ⟨rfl, ht, rfl⟩, fun j => (h 5 t j).2.2.2.2.2.1 ⟨rfl, ht⟩⟩, fun i hi => ?_, fun i hi => ?_, fun u hu => ?_, (h 7 0 0).2.2.2.2.2.2.2.2.2.2.2.2 ⟨rfl, rfl, rfl⟩, fun k hk => (h 7 0 k).2.2.2.2.2.2.2.2.2.2.2.1 ⟨rfl, rfl, hk⟩⟩
  · have q : ∀ j, _ := fun j => (h 9 i j).2.2.2.2.2.2.2.1 ⟨rfl, hi⟩
    exact ⟨(h 8 0 i).2.2.2.2.2.2.1 ⟨rfl, rfl, hi⟩, (q 0).1 rfl, (q 1).2.1 rfl, (q 3).2.2.1 rfl, (q 5).2.2.2 rfl⟩
  · have q : ∀ j, _ := fun j => (h 11 i j).2.2.2.2.2.2.2.2.2.1 ⟨rfl, hi⟩
    exact ⟨(h 10 0 i).2.2.2.2.2.2.2.2.1 ⟨rfl, rfl, hi⟩, (q 0).1 rfl, (q 2).2.1 rfl, (q 5).2.2.1 rfl, (q 7).2.2.2.1 rfl, (q 8).2.2.2.2.1 rfl, (q 3).2.2.2.2.2.1 rfl, (q 1).2.2.2.2.2.2 rfl⟩
  · have q : ∀ j, _ := fun j => (h 2 u j).2.2.2.2.2.2.2.2.2.2.1 ⟨rfl, hu⟩
    exact ⟨(q 2).1 rfl, (q 4).2 rfl⟩
theorem ic.ip {nb : Nat → Nat} {S : hw_St} (h : ic nb S) : ip nb S := by
  obtain ⟨hA, hF, ⟨hn9, hc9⟩, ⟨hn11, hc11⟩, hm, hT, hSe, hTi, hU, hW0, hW⟩ := h
  refine ⟨hA, hn9, hn11, fun k i j => ⟨fun v hi hv => hF k i j v hi hv, ?_, ?_, ?_, ?_, ?_, ?_, ?_, ?_, ?_, ?_, ?_, ?_⟩⟩
  · rintro ⟨rfl, rfl, rfl⟩; exact hc9
  · rintro ⟨rfl, rfl, rfl⟩; exact hc11
  · rintro ⟨rfl, rfl, rfl⟩; exact hm
  · rintro ⟨rfl, hi, rfl⟩; exact (hT i hi).1
  · rintro ⟨rfl, hi⟩; exact (hT i hi).2 j
  · rintro ⟨rfl, rfl, hj⟩; exact (hSe j hj).1
  · rintro ⟨rfl, hi⟩
    obtain ⟨-, a, b, c, d⟩ := hSe i hi
    exact ⟨fun e => by rw [e]; exact a, fun e => by rw [e]; exact b, fun e => by rw [e]; exact c, fun e => by rw [e]; exact d⟩
  · rintro ⟨rfl, rfl, hj⟩; exact (hTi j hj).1
  · rintro ⟨rfl, hi⟩
    obtain ⟨-, a, b, c, d, e, f, g⟩ := hTi i hi
    exact ⟨fun q => by rw [q]; exact a, fun q => by rw [q]; exact b, fun q => by rw [q]; exact c, fun q => by rw [q]; exact d, fun q => by rw [q]; exact e, fun q => by rw [q]; exact f, fun q => by rw [q]; exact g⟩
  · rintro ⟨rfl, hi⟩
    obtain ⟨a, b⟩ := hU i hi
    exact ⟨fun q => by rw [q]; exact a, fun q => by rw [q]; exact b⟩
  · rintro ⟨rfl, rfl, hj⟩; exact hW j hj
  · rintro ⟨rfl, rfl, rfl⟩; exact hW0
theorem ip_sv {nb : Nat → Nat} {S : hw_St} {E : Nat → Nat → Nat → Prop} {k0 i0 j0 : Nat} {x : Int32} (hx : ipp nb k0 i0 j0 x) (h : ∀ k i j, ¬ (E k i j ∨ (k = k0 ∧ i = i0 ∧ j = j0)) → ipp nb k i j (S k i j)) : ∀ k i j, ¬ E k i j → ipp nb k i j (hw_sv S k0 i0 j0 x k i j) := fun k i j he => by
  unfold hw_sv
  by_cases e : k = k0 ∧ i = i0 ∧ j = j0
  · rw [if_pos e]; obtain ⟨rfl, rfl, rfl⟩ := e; exact hx
  · rw [if_neg e]; exact h k i j (fun q => q.elim he e)
theorem ic_sv {nb : Nat → Nat} {S : hw_St} (h : ic nb S) {k0 i0 j0 : Nat} {x : Int32} (hx : ipp nb k0 i0 j0 x) : ic nb (hw_sv S k0 i0 j0 x) :=
  ip.ic ⟨h.ip.1, h.ip.2.1, h.ip.2.2.1, fun k i j => ip_sv (E := fun _ _ _ => False) hx (fun k i j _ => h.ip.2.2.2 k i j) k i j (fun q => q)⟩
theorem ic_eqv {nb : Nat → Nat} {S S' : hw_St} (h : ic nb S) (q : eqv S S') : ic nb S' := by
  refine ip.ic ⟨h.ip.1, h.ip.2.1, h.ip.2.2.1, fun k i j => ?_⟩
  have h0 := h.ip.2.2.2 k i j
  by_cases e5 : k = 5
  · subst e5
    refine ⟨fun v hi hv => (nomatch hv), fun e => (nomatch e.1), fun e => (nomatch e.1), fun e => (nomatch e.1), fun e => (nomatch e.1), fun e => (q.2 i e.2).2 j, fun e => (nomatch e.1), fun e => (nomatch e.1), fun e => (nomatch e.1), fun e => (nomatch e.1), fun e => (nomatch e.1), fun e => (nomatch e.1), fun e => (nomatch e.1)⟩
  · by_cases e17 : k = 4 ∧ i = 17 ∧ j = 1
    · obtain ⟨rfl, rfl, rfl⟩ := e17
      refine ⟨fun v hi hv => (nomatch hv), fun e => (nomatch e.1), fun e => (nomatch e.1), fun e => (nomatch e.1), fun e => (q.2 17 e.2.1).1, fun e => (nomatch e.1), fun e => (nomatch e.1), fun e => (nomatch e.1), fun e => (nomatch e.1), fun e => (nomatch e.1), fun e => (nomatch e.1), fun e => (nomatch e.1), fun e => (nomatch e.1)⟩
    · rw [q.1 k i j e5 e17]; exact h0
theorem eqv_17 {S S' : hw_St} (h : tx_r 17 S S') (hT : ∀ t, t < 18 → tx_ok S t) : eqv S S' := ⟨fun k i j a b => h.1 k i j (fun q => a q.1) b, fun t ht => by
  by_cases e : t = 17
  · subst e; exact h.2
  · exact h.ot e (hT t ht)⟩
theorem ip_m9 {nb : Nat → Nat} {k i j : Nat} {x : Int32} (h : ipp nb k i j x) (h1 : ¬ (k = 0 ∧ i = 0 ∧ j = 8)) (h2 : ¬ (k = 8 ∧ i = 0 ∧ j = nb 9)) (h3 : ¬ (k = 9 ∧ i = nb 9)) : ipp (hw_nb nb 9) k i j x := by
  have e9 : hw_nb nb 9 9 = nb 9 + 1 := rfl
  have e11 : hw_nb nb 9 11 = nb 11 := rfl
  unfold ipp at h ⊢
  rw [e9, e11]
  obtain ⟨a1, a2, a3, a4, a5, a6, a7, a8, a9, a10, a11, a12, a13⟩ := h
  refine ⟨a1, fun e => absurd e h1, a3, a4, a5, a6, fun e => a7 ⟨e.1, e.2.1, ?_⟩, fun e => a8 ⟨e.1, ?_⟩, a9, fun e => ?_, a11, a12, a13⟩
  · rcases e with ⟨q1, q2, q3⟩
    have : j ≠ nb 9 := fun q => h2 ⟨q1, q2, q⟩
    omega
  · rcases e with ⟨q1, q2⟩
    have : i ≠ nb 9 := fun q => h3 ⟨q1, q⟩
    omega
  · obtain ⟨b1, b2, b3⟩ := a10 e
    exact ⟨b1, fun q => (b2 q).imp fun s hs => ⟨by omega, hs.2⟩, b3⟩
theorem ip_m11 {nb : Nat → Nat} {k i j : Nat} {x : Int32} (h : ipp nb k i j x) (h1 : ¬ (k = 0 ∧ i = 0 ∧ j = 9)) (h2 : ¬ (k = 10 ∧ i = 0 ∧ j = nb 11)) (h3 : ¬ (k = 11 ∧ i = nb 11)) : ipp (hw_nb nb 11) k i j x := by
  have e9 : hw_nb nb 11 9 = nb 9 := rfl
  have e11 : hw_nb nb 11 11 = nb 11 + 1 := rfl
  unfold ipp at h ⊢
  rw [e9, e11]
  obtain ⟨a1, a2, a3, a4, a5, a6, a7, a8, a9, a10, a11, a12, a13⟩ := h
  refine ⟨a1, a2, fun e => absurd e h1, a4, a5, a6, a7, a8, fun e => a9 ⟨e.1, e.2.1, ?_⟩, fun e => a10 ⟨e.1, ?_⟩, a11, a12, a13⟩
  · rcases e with ⟨q1, q2, q3⟩
    have : j ≠ nb 11 := fun q => h2 ⟨q1, q2, q⟩
    omega
  · rcases e with ⟨q1, q2⟩
    have : i ≠ nb 11 := fun q => h3 ⟨q1, q⟩
    omega
theorem ic_opn {nb : Nat → Nat} {S : hw_St} (h : ic nb S) (h40 : nb 9 < 40) {u : Nat} (hu : u < 4) {r : Int32} (hr : ib_b r) : ic (hw_nb nb 9) (hs_opn S (nb 9) u r) := by
  obtain ⟨hA, h9, h11, hp⟩ := h.ip
  have hc := (hp 0 0 8).2.1 ⟨rfl, rfl, rfl⟩
  have e9 : hw_nb nb 9 9 = nb 9 + 1 := rfl
  have e11 : hw_nb nb 9 11 = nb 11 := rfl
  refine ip.ic ⟨hA.nb rfl, by rw [e9]; exact h40, by rw [e11]; exact h11, fun k i j => ?_⟩
  suffices H : ∀ k i j, ¬ False → ipp (hw_nb nb 9) k i j (hs_opn S (nb 9) u r k i j) from H k i j (fun q => q)
  clear k i j
  unfold hs_opn se_new
  refine ip_sv (E := fun _ _ _ => False) ?_ (ip_sv ?_ (ip_sv ?_ (ip_sv ?_ (ip_sv ?_ (ip_sv ?_ (ip_sv ?_ (ip_sv ?_ fun k i j he => ?_)))))))
  · refine ⟨?_, ?_, ?_, ?_, ?_, ?_, ?_, ?_, ?_, ?_, ?_, ?_, ?_⟩ <;> first | (intro v hi hv; cases hv; done) | (rintro ⟨q, -⟩; exact absurd q (by decide)) | (rintro ⟨-, -, q⟩; exact absurd q (by decide)) | skip
    rintro -
    rw [hc, e9, nI_succ]
  · refine ⟨?_, ?_, ?_, ?_, ?_, ?_, ?_, ?_, ?_, ?_, ?_, ?_, ?_⟩ <;> first | (intro v hi hv; cases hv; done) | (rintro ⟨q, -⟩; exact absurd q (by decide)) | skip
    rintro -
    rfl
  all_goals first
    | (refine ⟨fun v hi => absurd hi (Nat.not_lt_zero _), fun e => (nomatch e.1), fun e => (nomatch e.1), fun e => (nomatch e.1), fun e => (nomatch e.1), fun e => (nomatch e.1), fun e => (nomatch e.1), fun _ => ⟨fun e => ?_, fun e => ?_, fun e => ?_, fun e => ?_⟩, fun e => (nomatch e.1), fun e => (nomatch e.1), fun e => (nomatch e.1), fun e => (nomatch e.1), fun e => (nomatch e.1)⟩ <;> first | exact absurd e (by decide) | exact hr | exact ⟨u, hu, rfl⟩ | exact Or.inr rfl | exact hc)
    | skip
  unfold hw_nw
  by_cases e : k = 9 ∧ i = nb 9
  · obtain ⟨rfl, rfl⟩ := e
    rw [if_pos ⟨rfl, rfl⟩]
    refine ⟨fun v hi => absurd hi (Nat.not_lt_zero _), fun e => (nomatch e.1), fun e => (nomatch e.1), fun e => (nomatch e.1), fun e => (nomatch e.1), fun e => (nomatch e.1), fun e => (nomatch e.1), fun _ => ⟨fun e => ?_, fun e => ?_, fun e => ?_, fun e => ?_⟩, fun e => (nomatch e.1), fun e => (nomatch e.1), fun e => (nomatch e.1), fun e => (nomatch e.1), fun e => (nomatch e.1)⟩ <;> (exfalso; apply he; simp [e])
  · rw [if_neg e]
    refine ip_m9 (hp k i j) (fun q => he ?_) (fun q => he ?_) e <;> simp [q]
theorem ic_giv {nb : Nat → Nat} {S : hw_St} (h : ic nb S) (h150 : nb 11 < 150) {k : Int32} (hk : k = 0 ∨ k = 1 ∨ k = 2) {s : Nat} (hs : s < nb 9) {w f c : Int32} (hw : ∃ w', w' < 6 ∧ w = nI w') (hf : f = -1 ∨ ∃ p, p < nb 11 ∧ f = nI p) : ic (hw_nb nb 11) (hs_giv S (nb 11) k s w f c) := by
  obtain ⟨hA, h9, h11, hp⟩ := h.ip
  have hc := (hp 0 0 9).2.2.1 ⟨rfl, rfl, rfl⟩
  have e9 : hw_nb nb 11 9 = nb 9 := rfl
  have e11 : hw_nb nb 11 11 = nb 11 + 1 := rfl
  refine ip.ic ⟨hA.nb rfl, by rw [e9]; exact h9, by rw [e11]; exact h150, fun k i j => ?_⟩
  suffices H : ∀ k1 i j, ¬ False → ipp (hw_nb nb 11) k1 i j (hs_giv S (nb 11) _ s w f c k1 i j) from H _ i j (fun q => q)
  clear i j
  unfold hs_giv tk_new
  refine ip_sv (E := fun _ _ _ => False) ?_ (ip_sv ?_ (ip_sv ?_ (ip_sv ?_ (ip_sv ?_ (ip_sv ?_ (ip_sv ?_ (ip_sv ?_ (ip_sv ?_ fun k i j he => ?_))))))))
  · refine ⟨?_, ?_, ?_, ?_, ?_, ?_, ?_, ?_, ?_, ?_, ?_, ?_, ?_⟩ <;> first | (intro v hi hv; cases hv; done) | (rintro ⟨q, -⟩; exact absurd q (by decide)) | (rintro ⟨-, -, q⟩; exact absurd q (by decide)) | skip
    rintro -
    rw [hc, e11, nI_succ]
  · refine ⟨?_, ?_, ?_, ?_, ?_, ?_, ?_, ?_, ?_, ?_, ?_, ?_, ?_⟩ <;> first | (intro v hi hv; cases hv; done) | (rintro ⟨q, -⟩; exact absurd q (by decide)) | skip
    rintro -
    rfl
  all_goals first
    | (refine ⟨fun v hi => absurd hi (Nat.not_lt_zero _), fun e => (nomatch e.1), fun e => (nomatch e.1), fun e => (nomatch e.1), fun e => (nomatch e.1), fun e => (nomatch e.1), fun e => (nomatch e.1), fun e => (nomatch e.1), fun e => (nomatch e.1), fun _ => ⟨fun e => ?_, fun e => ?_, fun e => ?_, fun e => ?_, fun e => ?_, fun e => ?_, fun e => ?_⟩, fun e => (nomatch e.1), fun e => (nomatch e.1), fun e => (nomatch e.1)⟩ <;> first | exact absurd e (by decide) | exact hk | exact ⟨s, hs, rfl⟩ | exact hw | exact hf | exact hc)
    | skip
  unfold hw_nw
  by_cases e : k = 11 ∧ i = nb 11
  · obtain ⟨rfl, rfl⟩ := e
    rw [if_pos ⟨rfl, rfl⟩]
    refine ⟨fun v hi => absurd hi (Nat.not_lt_zero _), fun e => (nomatch e.1), fun e => (nomatch e.1), fun e => (nomatch e.1), fun e => (nomatch e.1), fun e => (nomatch e.1), fun e => (nomatch e.1), fun e => (nomatch e.1), fun e => (nomatch e.1), fun _ => ⟨fun e => ?_, fun e => ?_, fun e => ?_, fun e => ?_, fun e => ?_, fun e => ?_, fun e => ?_⟩, fun e => (nomatch e.1), fun e => (nomatch e.1), fun e => (nomatch e.1)⟩ <;> first | (exfalso; apply he; simp [e]; done) | (subst e; exact Or.inl rfl)
  · rw [if_neg e]
    refine ip_m11 (hp k i j) (fun q => he ?_) (fun q => he ?_) e <;> simp [q]
end
section
/-! login, enter. -/
theorem ipp_9_4 {nb : Nat → Nat} {i : Nat} {x : Int32} : ipp nb 9 i 4 x := by
  refine ⟨?_, ?_, ?_, ?_, ?_, ?_, ?_, ?_, ?_, ?_, ?_, ?_, ?_⟩ <;> first | (intro v hi hv; cases hv; done) | (intro v hi; exact absurd hi (Nat.not_lt_zero _)) | (rintro ⟨q, -⟩; exact absurd q (by decide)) | (rintro ⟨-, -, q⟩; exact absurd q (by decide)) | (intro _; trivial) | (intro _; refine ⟨?_, ?_⟩ <;> intro e <;> first | exact absurd e (by decide) | trivial) | (intro _; refine ⟨?_, ?_, ?_, ?_⟩ <;> intro e <;> first | exact absurd e (by decide) | trivial) | (intro _; refine ⟨?_, ?_, ?_, ?_, ?_, ?_, ?_⟩ <;> intro e <;> first | exact absurd e (by decide) | trivial)
theorem ipp_9_5 {nb : Nat → Nat} {i : Nat} {x : Int32} (hx : ib_b x) : ipp nb 9 i 5 x := by
  refine ⟨?_, ?_, ?_, ?_, ?_, ?_, ?_, ?_, ?_, ?_, ?_, ?_, ?_⟩ <;> first | (intro v hi hv; cases hv; done) | (intro v hi; exact absurd hi (Nat.not_lt_zero _)) | (rintro ⟨q, -⟩; exact absurd q (by decide)) | (rintro ⟨-, -, q⟩; exact absurd q (by decide)) | (intro _; exact hx) | (intro _; refine ⟨?_, ?_⟩ <;> intro e <;> first | exact absurd e (by decide) | exact hx) | (intro _; refine ⟨?_, ?_, ?_, ?_⟩ <;> intro e <;> first | exact absurd e (by decide) | exact hx) | (intro _; refine ⟨?_, ?_, ?_, ?_, ?_, ?_, ?_⟩ <;> intro e <;> first | exact absurd e (by decide) | exact hx)
theorem ipp_11_8 {nb : Nat → Nat} {i : Nat} {x : Int32} (hx : ib_b x) : ipp nb 11 i 8 x := by
  refine ⟨?_, ?_, ?_, ?_, ?_, ?_, ?_, ?_, ?_, ?_, ?_, ?_, ?_⟩ <;> first | (intro v hi hv; cases hv; done) | (intro v hi; exact absurd hi (Nat.not_lt_zero _)) | (rintro ⟨q, -⟩; exact absurd q (by decide)) | (rintro ⟨-, -, q⟩; exact absurd q (by decide)) | (intro _; exact hx) | (intro _; refine ⟨?_, ?_⟩ <;> intro e <;> first | exact absurd e (by decide) | exact hx) | (intro _; refine ⟨?_, ?_, ?_, ?_⟩ <;> intro e <;> first | exact absurd e (by decide) | exact hx) | (intro _; refine ⟨?_, ?_, ?_, ?_, ?_, ?_, ?_⟩ <;> intro e <;> first | exact absurd e (by decide) | exact hx)
theorem ipp_11_7 {nb : Nat → Nat} {i : Nat} {x : Int32} (hx : ib_b x) : ipp nb 11 i 7 x := by
  refine ⟨?_, ?_, ?_, ?_, ?_, ?_, ?_, ?_, ?_, ?_, ?_, ?_, ?_⟩ <;> first | (intro v hi hv; cases hv; done) | (intro v hi; exact absurd hi (Nat.not_lt_zero _)) | (rintro ⟨q, -⟩; exact absurd q (by decide)) | (rintro ⟨-, -, q⟩; exact absurd q (by decide)) | (intro _; exact hx) | (intro _; refine ⟨?_, ?_⟩ <;> intro e <;> first | exact absurd e (by decide) | exact hx) | (intro _; refine ⟨?_, ?_, ?_, ?_⟩ <;> intro e <;> first | exact absurd e (by decide) | exact hx) | (intro _; refine ⟨?_, ?_, ?_, ?_, ?_, ?_, ?_⟩ <;> intro e <;> first | exact absurd e (by decide) | exact hx)
theorem ipp_2_2 {nb : Nat → Nat} {i : Nat} {x : Int32} (hx : ib_b x) : ipp nb 2 i 2 x := by
  refine ⟨?_, ?_, ?_, ?_, ?_, ?_, ?_, ?_, ?_, ?_, ?_, ?_, ?_⟩ <;> first | (intro v hi hv; cases hv; done) | (intro v hi; exact absurd hi (Nat.not_lt_zero _)) | (rintro ⟨q, -⟩; exact absurd q (by decide)) | (rintro ⟨-, -, q⟩; exact absurd q (by decide)) | (intro _; exact hx) | (intro _; refine ⟨?_, ?_⟩ <;> intro e <;> first | exact absurd e (by decide) | exact hx) | (intro _; refine ⟨?_, ?_, ?_, ?_⟩ <;> intro e <;> first | exact absurd e (by decide) | exact hx) | (intro _; refine ⟨?_, ?_, ?_, ?_, ?_, ?_, ?_⟩ <;> intro e <;> first | exact absurd e (by decide) | exact hx)
theorem ipp_2_3 {nb : Nat → Nat} {i : Nat} {x : Int32} : ipp nb 2 i 3 x := by
  refine ⟨?_, ?_, ?_, ?_, ?_, ?_, ?_, ?_, ?_, ?_, ?_, ?_, ?_⟩ <;> first | (intro v hi hv; cases hv; done) | (intro v hi; exact absurd hi (Nat.not_lt_zero _)) | (rintro ⟨q, -⟩; exact absurd q (by decide)) | (rintro ⟨-, -, q⟩; exact absurd q (by decide)) | (intro _; trivial) | (intro _; refine ⟨?_, ?_⟩ <;> intro e <;> first | exact absurd e (by decide) | trivial) | (intro _; refine ⟨?_, ?_, ?_, ?_⟩ <;> intro e <;> first | exact absurd e (by decide) | trivial) | (intro _; refine ⟨?_, ?_, ?_, ?_, ?_, ?_, ?_⟩ <;> intro e <;> first | exact absurd e (by decide) | trivial)
theorem ipp_2_5 {nb : Nat → Nat} {i : Nat} {x : Int32} : ipp nb 2 i 5 x := by
  refine ⟨?_, ?_, ?_, ?_, ?_, ?_, ?_, ?_, ?_, ?_, ?_, ?_, ?_⟩ <;> first | (intro v hi hv; cases hv; done) | (intro v hi; exact absurd hi (Nat.not_lt_zero _)) | (rintro ⟨q, -⟩; exact absurd q (by decide)) | (rintro ⟨-, -, q⟩; exact absurd q (by decide)) | (intro _; trivial) | (intro _; refine ⟨?_, ?_⟩ <;> intro e <;> first | exact absurd e (by decide) | trivial) | (intro _; refine ⟨?_, ?_, ?_, ?_⟩ <;> intro e <;> first | exact absurd e (by decide) | trivial) | (intro _; refine ⟨?_, ?_, ?_, ?_, ?_, ?_, ?_⟩ <;> intro e <;> first | exact absurd e (by decide) | trivial)
theorem ipp_2_4 {nb : Nat → Nat} {i : Nat} {x : Int32} (hx : ∃ n, n ≤ 3 ∧ x = nI n) : ipp nb 2 i 4 x := by
  refine ⟨?_, ?_, ?_, ?_, ?_, ?_, ?_, ?_, ?_, ?_, ?_, ?_, ?_⟩ <;> first | (intro v hi hv; cases hv; done) | (intro v hi; exact absurd hi (Nat.not_lt_zero _)) | (rintro ⟨q, -⟩; exact absurd q (by decide)) | (rintro ⟨-, -, q⟩; exact absurd q (by decide)) | (intro _; exact hx) | (intro _; refine ⟨?_, ?_⟩ <;> intro e <;> first | exact absurd e (by decide) | exact hx) | (intro _; refine ⟨?_, ?_, ?_, ?_⟩ <;> intro e <;> first | exact absurd e (by decide) | exact hx) | (intro _; refine ⟨?_, ?_, ?_, ?_, ?_, ?_, ?_⟩ <;> intro e <;> first | exact absurd e (by decide) | exact hx)
theorem ipp_6 {nb : Nat → Nat} {i : Nat} {j : Nat} {x : Int32} : ipp nb 6 i j x := by
  refine ⟨?_, ?_, ?_, ?_, ?_, ?_, ?_, ?_, ?_, ?_, ?_, ?_, ?_⟩ <;> first | (intro v hi hv; cases hv; done) | (intro v hi; exact absurd hi (Nat.not_lt_zero _)) | (rintro ⟨q, -⟩; exact absurd q (by decide)) | (rintro ⟨-, -, q⟩; exact absurd q (by decide)) | (intro _; trivial) | (intro _; refine ⟨?_, ?_⟩ <;> intro e <;> first | exact absurd e (by decide) | trivial) | (intro _; refine ⟨?_, ?_, ?_, ?_⟩ <;> intro e <;> first | exact absurd e (by decide) | trivial) | (intro _; refine ⟨?_, ?_, ?_, ?_, ?_, ?_, ?_⟩ <;> intro e <;> first | exact absurd e (by decide) | trivial)
theorem ipp_12 {nb : Nat → Nat} {i : Nat} {j : Nat} {x : Int32} : ipp nb 12 i j x := by
  refine ⟨?_, ?_, ?_, ?_, ?_, ?_, ?_, ?_, ?_, ?_, ?_, ?_, ?_⟩ <;> first | (intro v hi hv; cases hv; done) | (intro v hi; exact absurd hi (Nat.not_lt_zero _)) | (rintro ⟨q, -⟩; exact absurd q (by decide)) | (rintro ⟨-, -, q⟩; exact absurd q (by decide)) | (intro _; trivial) | (intro _; refine ⟨?_, ?_⟩ <;> intro e <;> first | exact absurd e (by decide) | trivial) | (intro _; refine ⟨?_, ?_, ?_, ?_⟩ <;> intro e <;> first | exact absurd e (by decide) | trivial) | (intro _; refine ⟨?_, ?_, ?_, ?_, ?_, ?_, ?_⟩ <;> intro e <;> first | exact absurd e (by decide) | trivial)
theorem ipp_0_11 {nb : Nat → Nat} {x : Int32} : ipp nb 0 0 11 x := by
  refine ⟨?_, ?_, ?_, ?_, ?_, ?_, ?_, ?_, ?_, ?_, ?_, ?_, ?_⟩ <;> first | (intro v hi hv; cases hv; done) | (intro v hi; exact absurd hi (Nat.not_lt_zero _)) | (rintro ⟨q, -⟩; exact absurd q (by decide)) | (rintro ⟨-, -, q⟩; exact absurd q (by decide)) | (intro _; trivial) | (intro _; refine ⟨?_, ?_⟩ <;> intro e <;> first | exact absurd e (by decide) | trivial) | (intro _; refine ⟨?_, ?_, ?_, ?_⟩ <;> intro e <;> first | exact absurd e (by decide) | trivial) | (intro _; refine ⟨?_, ?_, ?_, ?_, ?_, ?_, ?_⟩ <;> intro e <;> first | exact absurd e (by decide) | trivial)
theorem ipp_0_10 {nb : Nat → Nat} {x : Int32} (hx : ∃ m, m ≤ 150 ∧ x = nI m) : ipp nb 0 0 10 x := by
  refine ⟨?_, ?_, ?_, ?_, ?_, ?_, ?_, ?_, ?_, ?_, ?_, ?_, ?_⟩ <;> first | (intro v hi hv; cases hv; done) | (intro v hi; exact absurd hi (Nat.not_lt_zero _)) | (rintro ⟨q, -⟩; exact absurd q (by decide)) | (rintro ⟨-, -, q⟩; exact absurd q (by decide)) | (intro _; exact hx) | (intro _; refine ⟨?_, ?_⟩ <;> intro e <;> first | exact absurd e (by decide) | exact hx) | (intro _; refine ⟨?_, ?_, ?_, ?_⟩ <;> intro e <;> first | exact absurd e (by decide) | exact hx) | (intro _; refine ⟨?_, ?_, ?_, ?_, ?_, ?_, ?_⟩ <;> intro e <;> first | exact absurd e (by decide) | exact hx)
theorem us_att_k {S S1 : hw_St} {u : Nat} {x t a : Int32} (h : us_att S u x t = (a, S1)) : ∀ k i j, ¬ k = 2 → S1 k i j = S k i j := fun k i j hk => by
  have h2 : S1 = (us_att S u x t).2 := by rw [h]
  rw [h2]; unfold us_att hw_sv
  repeat' split
  all_goals first | rfl | (simp only []; split <;> first | (rename_i e; exact absurd e.1 hk) | rfl | (split <;> first | (rename_i e; exact absurd e.1 hk) | rfl))
theorem m_U_att (l : Launch) (B : hw_B) (nb : Nat → Nat) (S : hw_St) (z : Nat) (u : Nat) (hA : hw_al nb) (hu : u < 4) (x t a : Int32) (S1 : hw_St) (h : us_att S u x t = (a, S1)) : hw_M l yU_attempt cU_attempt 3 (some .int) ({ frames := 0, cells := 0, slots := 0, locals := 0 }) B [.ref (hw_a B 2 u), .int x, .int t] nb S z (hw_p (.inl (some (.int a))) nb S1 z) := by
  have := m_U_attempt l B nb S z u hA hu x t
  rw [h] at this
  exact this
theorem us_att_tx {S S1 : hw_St} {u : Nat} {x t a : Int32} (h : us_att S u x t = (a, S1)) (hT : ∀ t, t < 18 → tx_ok S t) : ∀ t, t < 18 → tx_ok S1 t := fun v hv => by
  obtain ⟨⟨n, h1, h2⟩, h3⟩ := hT v hv
  exact ⟨⟨n, h1, by rw [us_att_k h _ _ _ (by decide)]; exact h2⟩, fun j => by rw [us_att_k h _ _ _ (by decide)]; exact h3 j⟩
set_option maxRecDepth 100000 in
set_option maxHeartbeats 1000000 in
theorem m_H_login_a (l : Launch) (hst : l.stackTraces = false) (B : hw_B) (nb : Nat → Nat) (S : hw_St) (z : Nat) (x y r : Int32) (hx : x < 0 ∨ 4 ≤ x) (hI : ic nb S) : hw_MX l yH_login cH_login 6 (some .int) ({ frames := 6, cells := 1, slots := 6, locals := 90 }) B [.ref (hw_a B 0 0), .int x, .int y, .int r] nb S z (hw_qp (.inr "java/lang/IllegalArgumentException") nb S) := by
  refine hw_MX.of (by decide) (Nat.le_of_ble_eq_true rfl) ?_
  intro X fr hl hR G hr htab
  obtain ⟨hA, hF, ⟨hn9, hc9⟩, ⟨hn11, hc11⟩, ⟨nm, hnm1, hnm2⟩, hT, hSe, hTi, hU, hW0, hW⟩ := hI
  refine hr_aload_n G dH_login_0 rfl rfl ?_
  refine hr_iload_n G dH_login_1 rfl rfl ?_
  refine hr_callVs (k := 0) (i := 0) G rfl rfl (hA.lt (show 0 < hw_n0 0 by decide)) kH_71 iH_findUser vH_findUser (m_H_findUser_n _ _ _ _ _ x hx) rfl rfl (Nat.le_of_ble_eq_true rfl) ⟨by rw [hR]; decide, by rw [hR]; decide⟩ ⟨by rw [hR]; decide, by rw [hR]; decide⟩ dH_login_2 ?_
  refine hr_astoreN (i := 4) G dH_login_5 (by decide) ?_
  refine hr_aloadN G dH_login_7 rfl ?_
  refine hr_ifnonnullN G dH_login_9 ?_
  exact hr_throw (E := "java/lang/IllegalArgumentException") (names := ["java/lang/RuntimeException", "java/lang/Exception"]) (si := 3) G (by rw [hl]; exact hst) htab (by decide) (by decide) qH_51 in_IAE rfl at_IAE go_IAE dH_login_12 dH_login_15 dH_login_16 dH_login_18 dH_login_21 (by rw [hR]; decide) (by rw [hR]; decide) (by rw [hR]; decide) (by rw [hR]; decide) (by decide) (by decide) (fun _ _ => ⟨rfl, rfl, eqv.rf hT⟩)
set_option maxRecDepth 100000 in
set_option maxHeartbeats 1000000 in
theorem m_H_login_b (l : Launch) (hst : l.stackTraces = false) (B : hw_B) (nb : Nat → Nat) (S : hw_St) (z : Nat) (u : Nat) (y r : Int32) (hu : u < 4) (h40 : nb 9 = 40) (hI : ic nb S) : hw_MX l yH_login cH_login 6 (some .int) ({ frames := 6, cells := 1, slots := 6, locals := 90 }) B [.ref (hw_a B 0 0), .int (nI u), .int y, .int r] nb S z (hw_qp (.inr "java/lang/IllegalStateException") nb S) := by
  refine hw_MX.of (by decide) (Nat.le_of_ble_eq_true rfl) ?_
  intro X fr hl hR G hr htab
  obtain ⟨hA, hF, ⟨hn9, hc9⟩, ⟨hn11, hc11⟩, ⟨nm, hnm1, hnm2⟩, hT, hSe, hTi, hU, hW0, hW⟩ := hI
  refine hr_aload_n G dH_login_0 rfl rfl ?_
  refine hr_iload_n G dH_login_1 rfl rfl ?_
  refine hr_callVs (k := 0) (i := 0) G rfl rfl (hA.lt (show 0 < hw_n0 0 by decide)) kH_71 iH_findUser vH_findUser (m_H_findUser_y _ _ _ _ _ hA hF u hu) rfl rfl (Nat.le_of_ble_eq_true rfl) ⟨by rw [hR]; decide, by rw [hR]; decide⟩ ⟨by rw [hR]; decide, by rw [hR]; decide⟩ dH_login_2 ?_
  refine hr_astore (i := 4) G dH_login_5 (by decide) ?_
  refine hr_aload G dH_login_7 rfl ?_
  refine hr_ifnonnull (tgt := 22) G dH_login_9 (by decide) ?_
  refine hr_aload_n G dH_login_22 rfl rfl ?_
  refine hr_get (v := .int (S 0 0 8)) G fH_101 (hA.lt (show 0 < hw_n0 0 by decide)) rfl dH_login_23 ?_
  refine hr_bipush (v := 40) G dH_login_26 (by decide) ?_
  refine hr_icmp_lt (tgt := 41) G dH_login_28 (by decide) (fun h => absurd h (show ¬ S 0 0 8 < 40 by rw [hc9, h40]; decide)) (fun _ => ?_)
  exact hr_throw (E := "java/lang/IllegalStateException") (names := ["java/lang/RuntimeException", "java/lang/Exception"]) (si := 6) G (by rw [hl]; exact hst) htab (by decide) (by decide) qH_62 in_ISE rfl at_ISE go_ISE dH_login_31 dH_login_34 dH_login_35 dH_login_37 dH_login_40 (by rw [hR]; decide) (by rw [hR]; decide) (by rw [hR]; decide) (by rw [hR]; decide) (by decide) (by decide) (fun _ _ => ⟨rfl, rfl, eqv.rf hT⟩)
set_option maxRecDepth 100000 in
set_option maxHeartbeats 1000000 in
theorem m_H_login_c (l : Launch) (hst : l.stackTraces = false) (B : hw_B) (nb : Nat → Nat) (S : hw_St) (z : Nat) (u : Nat) (y r : Int32) (hu : u < 4) (h40 : nb 9 < 40) (a : Int32) (S1 : hw_St) (hat : us_att S u y (S 0 0 11) = (a, S1)) (ha : ¬ a = 0) (hI : ic nb S) : hw_MX l yH_login cH_login 6 (some .int) ({ frames := 6, cells := 1, slots := 6, locals := 90 }) B [.ref (hw_a B 0 0), .int (nI u), .int y, .int r] nb S z (hw_qp (.inl (some (.int a))) nb S1) := by
  refine hw_MX.of (by decide) (Nat.le_of_ble_eq_true rfl) ?_
  intro X fr hl hR G hr htab
  obtain ⟨hA, hF, ⟨hn9, hc9⟩, ⟨hn11, hc11⟩, ⟨nm, hnm1, hnm2⟩, hT, hSe, hTi, hU, hW0, hW⟩ := hI
  refine hr_aload_n G dH_login_0 rfl rfl ?_
  refine hr_iload_n G dH_login_1 rfl rfl ?_
  refine hr_callVs (k := 0) (i := 0) G rfl rfl (hA.lt (show 0 < hw_n0 0 by decide)) kH_71 iH_findUser vH_findUser (m_H_findUser_y _ _ _ _ _ hA hF u hu) rfl rfl (Nat.le_of_ble_eq_true rfl) ⟨by rw [hR]; decide, by rw [hR]; decide⟩ ⟨by rw [hR]; decide, by rw [hR]; decide⟩ dH_login_2 ?_
  refine hr_astore (i := 4) G dH_login_5 (by decide) ?_
  refine hr_aload G dH_login_7 rfl ?_
  refine hr_ifnonnull (tgt := 22) G dH_login_9 (by decide) ?_
  refine hr_aload_n G dH_login_22 rfl rfl ?_
  refine hr_get (v := .int (S 0 0 8)) G fH_101 (hA.lt (show 0 < hw_n0 0 by decide)) rfl dH_login_23 ?_
  refine hr_bipush (v := 40) G dH_login_26 (by decide) ?_
  refine hr_icmp_lt (tgt := 41) G dH_login_28 (by decide) (fun _ => ?_) (fun h => absurd (show S 0 0 8 < 40 by rw [hc9]; exact (nI_ltI (b := 40) (by omega) (by decide)).mpr h40) h)
  refine hr_aload G dH_login_41 rfl ?_
  refine hr_iload_n G dH_login_43 rfl rfl ?_
  refine hr_aload_n G dH_login_44 rfl rfl ?_
  refine hr_get (v := .int (S 0 0 11)) G fH_106 (hA.lt (show 0 < hw_n0 0 by decide)) rfl dH_login_45 ?_
  refine hr_callVs (k := 2) (i := u) G rfl rfl (hA.lt hu) kH_109 iU_attempt vU_attempt (m_U_att _ _ _ _ _ u hA hu y (S 0 0 11) a S1 hat) rfl rfl (Nat.le_of_ble_eq_true rfl) ⟨by rw [hR]; decide, by rw [hR]; decide⟩ ⟨by rw [hR]; decide, by rw [hR]; decide⟩ dH_login_48 ?_
  refine hr_istore (i := 5) G dH_login_51 (by decide) ?_
  refine hr_iload G dH_login_53 rfl ?_
  refine hr_if_ne (tgt := 71) G dH_login_55 (by decide) (fun _ => ?_) (fun h => absurd h ha)
  refine hr_iload G dH_login_71 rfl ?_
  refine hr_wide (c' := 1) (sl' := 6) (Nat.le_of_ble_eq_true rfl) (Nat.le_of_ble_eq_true rfl) ?_
  exact hr_iret G hr hw_QX.of dH_login_73 ⟨rfl, rfl, eqv.rf (us_att_tx hat hT)⟩
set_option maxRecDepth 100000 in
set_option maxHeartbeats 1000000 in
theorem m_H_login_d (l : Launch) (hst : l.stackTraces = false) (B : hw_B) (nb : Nat → Nat) (S : hw_St) (z : Nat) (u : Nat) (y r : Int32) (hu : u < 4) (hr1 : ib_b r) (h40 : nb 9 < 40) (hat : us_att S u y (S 0 0 11) = (0, (hw_sv S 2 u 4 0))) (hI : ic nb S) (hz : hw_a B 9 (nb 9) = z) : hw_MX l yH_login cH_login 6 (some .int) ({ frames := 6, cells := 1, slots := 6, locals := 90 }) B [.ref (hw_a B 0 0), .int (nI u), .int y, .int r] nb S z (hw_qp (.inl (some (.int (nI (nb 9))))) (hw_nb nb 9) (hs_opn (hw_sv S 2 u 4 0) (nb 9) u r)) := by
  refine hw_MX.of (by decide) (Nat.le_of_ble_eq_true rfl) ?_
  intro X fr hl hR G hr htab
  obtain ⟨hA, hF, ⟨hn9, hc9⟩, ⟨hn11, hc11⟩, ⟨nm, hnm1, hnm2⟩, hT, hSe, hTi, hU, hW0, hW⟩ := hI
  refine hr_aload_n G dH_login_0 rfl rfl ?_
  refine hr_iload_n G dH_login_1 rfl rfl ?_
  refine hr_callVs (k := 0) (i := 0) G rfl rfl (hA.lt (show 0 < hw_n0 0 by decide)) kH_71 iH_findUser vH_findUser (m_H_findUser_y _ _ _ _ _ hA hF u hu) rfl rfl (Nat.le_of_ble_eq_true rfl) ⟨by rw [hR]; decide, by rw [hR]; decide⟩ ⟨by rw [hR]; decide, by rw [hR]; decide⟩ dH_login_2 ?_
  refine hr_astore (i := 4) G dH_login_5 (by decide) ?_
  refine hr_aload G dH_login_7 rfl ?_
  refine hr_ifnonnull (tgt := 22) G dH_login_9 (by decide) ?_
  refine hr_aload_n G dH_login_22 rfl rfl ?_
  refine hr_get (v := .int (S 0 0 8)) G fH_101 (hA.lt (show 0 < hw_n0 0 by decide)) rfl dH_login_23 ?_
  refine hr_bipush (v := 40) G dH_login_26 (by decide) ?_
  refine hr_icmp_lt (tgt := 41) G dH_login_28 (by decide) (fun _ => ?_) (fun h => absurd (show S 0 0 8 < 40 by rw [hc9]; exact (nI_ltI (b := 40) (by omega) (by decide)).mpr h40) h)
  refine hr_aload G dH_login_41 rfl ?_
  refine hr_iload_n G dH_login_43 rfl rfl ?_
  refine hr_aload_n G dH_login_44 rfl rfl ?_
  refine hr_get (v := .int (S 0 0 11)) G fH_106 (hA.lt (show 0 < hw_n0 0 by decide)) rfl dH_login_45 ?_
  refine hr_callVs (k := 2) (i := u) G rfl rfl (hA.lt hu) kH_109 iU_attempt vU_attempt (m_U_att _ _ _ _ _ u hA hu y (S 0 0 11) 0 (hw_sv S 2 u 4 0) hat) rfl rfl (Nat.le_of_ble_eq_true rfl) ⟨by rw [hR]; decide, by rw [hR]; decide⟩ ⟨by rw [hR]; decide, by rw [hR]; decide⟩ dH_login_48 ?_
  refine hr_istore (i := 5) G dH_login_51 (by decide) ?_
  refine hr_iload G dH_login_53 rfl ?_
  refine hr_if_ne (tgt := 71) G dH_login_55 (by decide) (fun h => absurd (by decide) h) (fun _ => ?_)
  refine hr_aload_n G dH_login_58 rfl rfl ?_
  refine hr_aload G dH_login_59 rfl ?_
  refine hr_iload_n G dH_login_61 rfl rfl ?_
  refine hr_callVs (k := 0) (i := 0) G rfl rfl (hA.lt (show 0 < hw_n0 0 by decide)) kH_113 iH_openSession vH_openSession (m_H_openSession _ _ _ _ _ hA (hF.sv rfl) u hu r hr1 hc9 h40 hz) rfl rfl (Nat.le_of_ble_eq_true rfl) ⟨by rw [hR]; decide, by rw [hR]; decide⟩ ⟨by rw [hR]; decide, by rw [hR]; decide⟩ dH_login_62 ?_
  refine hr_get (v := .int (nI (nb 9))) G fH_117 hw_nbs (by show Value.int _ = Value.int _; rw [← hc9]; simp [hs_opn, se_new, hw_sv, hw_nw]) dH_login_65 ?_
  refine hr_goto (tgt := 73) G dH_login_68 (by decide) ?_
  exact hr_iret G hr hw_QX.of dH_login_73 ⟨rfl, rfl, fun _ _ _ _ _ => rfl, hT⟩
set_option maxRecDepth 100000 in
set_option maxHeartbeats 1000000 in
theorem m_H_enter_a (l : Launch) (hst : l.stackTraces = false) (B : hw_B) (nb : Nat → Nat) (S : hw_St) (z : Nat) (x y v : Int32) (hx : x < 0 ∨ 4 ≤ x) (hI : ic nb S) : hw_MX l yH_enter cH_enter 7 (some .int) ({ frames := 6, cells := 1, slots := 6, locals := 90 }) B [.ref (hw_a B 0 0), .int x, .int y, .int v] nb S z (hw_qp (.inr "java/lang/IllegalArgumentException") nb S) := by
  refine hw_MX.of (by decide) (Nat.le_of_ble_eq_true rfl) ?_
  intro X fr hl hR G hr htab
  obtain ⟨hA, hF, ⟨hn9, hc9⟩, ⟨hn11, hc11⟩, ⟨nm, hnm1, hnm2⟩, hT, hSe, hTi, hU, hW0, hW⟩ := hI
  refine hr_aload_n G dH_enter_0 rfl rfl ?_
  refine hr_iload_n G dH_enter_1 rfl rfl ?_
  refine hr_callVs (k := 0) (i := 0) G rfl rfl (hA.lt (show 0 < hw_n0 0 by decide)) kH_71 iH_findUser vH_findUser (m_H_findUser_n _ _ _ _ _ x hx) rfl rfl (Nat.le_of_ble_eq_true rfl) ⟨by rw [hR]; decide, by rw [hR]; decide⟩ ⟨by rw [hR]; decide, by rw [hR]; decide⟩ dH_enter_2 ?_
  refine hr_astoreN (i := 4) G dH_enter_5 (by decide) ?_
  refine hr_aloadN G dH_enter_7 rfl ?_
  refine hr_ifnullN (tgt := 20) G dH_enter_9 (by decide) ?_
  exact hr_throw (E := "java/lang/IllegalArgumentException") (names := ["java/lang/RuntimeException", "java/lang/Exception"]) (si := 7) G (by rw [hl]; exact hst) htab (by decide) (by decide) qH_51 in_IAE rfl at_IAE go_IAE dH_enter_20 dH_enter_23 dH_enter_24 dH_enter_26 dH_enter_29 (by rw [hR]; decide) (by rw [hR]; decide) (by rw [hR]; decide) (by rw [hR]; decide) (by decide) (by decide) (fun _ _ => ⟨rfl, rfl, eqv.rf hT⟩)
set_option maxRecDepth 100000 in
set_option maxHeartbeats 1000000 in
theorem m_H_enter_b (l : Launch) (hst : l.stackTraces = false) (B : hw_B) (nb : Nat → Nat) (S : hw_St) (z : Nat) (u : Nat) (y v : Int32) (hu : u < 4) (hv : hs_en S v = 0) (hI : ic nb S) : hw_MX l yH_enter cH_enter 7 (some .int) ({ frames := 6, cells := 1, slots := 6, locals := 90 }) B [.ref (hw_a B 0 0), .int (nI u), .int y, .int v] nb S z (hw_qp (.inr "java/lang/IllegalArgumentException") nb S) := by
  refine hw_MX.of (by decide) (Nat.le_of_ble_eq_true rfl) ?_
  intro X fr hl hR G hr htab
  obtain ⟨hA, hF, ⟨hn9, hc9⟩, ⟨hn11, hc11⟩, ⟨nm, hnm1, hnm2⟩, hT, hSe, hTi, hU, hW0, hW⟩ := hI
  refine hr_aload_n G dH_enter_0 rfl rfl ?_
  refine hr_iload_n G dH_enter_1 rfl rfl ?_
  refine hr_callVs (k := 0) (i := 0) G rfl rfl (hA.lt (show 0 < hw_n0 0 by decide)) kH_71 iH_findUser vH_findUser (m_H_findUser_y _ _ _ _ _ hA hF u hu) rfl rfl (Nat.le_of_ble_eq_true rfl) ⟨by rw [hR]; decide, by rw [hR]; decide⟩ ⟨by rw [hR]; decide, by rw [hR]; decide⟩ dH_enter_2 ?_
  refine hr_astore (i := 4) G dH_enter_5 (by decide) ?_
  refine hr_aload G dH_enter_7 rfl ?_
  refine hr_ifnull G dH_enter_9 ?_
  refine hr_aload_n G dH_enter_12 rfl rfl ?_
  refine hr_iload_n G dH_enter_13 rfl rfl ?_
  refine hr_callVs (k := 0) (i := 0) G rfl rfl (hA.lt (show 0 < hw_n0 0 by decide)) kH_120 iH_isEnabled vH_isEnabled (m_H_isEnabled _ _ _ _ _ hA hF v) rfl rfl (Nat.le_of_ble_eq_true rfl) ⟨by rw [hR]; decide, by rw [hR]; decide⟩ ⟨by rw [hR]; decide, by rw [hR]; decide⟩ dH_enter_14 ?_
  refine hr_if_ne (tgt := 30) G dH_enter_17 (by decide) (fun h => absurd hv h) (fun _ => ?_)
  exact hr_throw (E := "java/lang/IllegalArgumentException") (names := ["java/lang/RuntimeException", "java/lang/Exception"]) (si := 7) G (by rw [hl]; exact hst) htab (by decide) (by decide) qH_51 in_IAE rfl at_IAE go_IAE dH_enter_20 dH_enter_23 dH_enter_24 dH_enter_26 dH_enter_29 (by rw [hR]; decide) (by rw [hR]; decide) (by rw [hR]; decide) (by rw [hR]; decide) (by decide) (by decide) (fun _ _ => ⟨rfl, rfl, eqv.rf hT⟩)
set_option maxRecDepth 100000 in
set_option maxHeartbeats 1000000 in
theorem m_H_enter_c (l : Launch) (hst : l.stackTraces = false) (B : hw_B) (nb : Nat → Nat) (S : hw_St) (z : Nat) (u : Nat) (y v : Int32) (hu : u < 4) (hv : ¬ hs_en S v = 0) (h40 : nb 9 = 40) (hI : ic nb S) : hw_MX l yH_enter cH_enter 7 (some .int) ({ frames := 6, cells := 1, slots := 6, locals := 90 }) B [.ref (hw_a B 0 0), .int (nI u), .int y, .int v] nb S z (hw_qp (.inr "java/lang/IllegalStateException") nb S) := by
  refine hw_MX.of (by decide) (Nat.le_of_ble_eq_true rfl) ?_
  intro X fr hl hR G hr htab
  obtain ⟨hA, hF, ⟨hn9, hc9⟩, ⟨hn11, hc11⟩, ⟨nm, hnm1, hnm2⟩, hT, hSe, hTi, hU, hW0, hW⟩ := hI
  refine hr_aload_n G dH_enter_0 rfl rfl ?_
  refine hr_iload_n G dH_enter_1 rfl rfl ?_
  refine hr_callVs (k := 0) (i := 0) G rfl rfl (hA.lt (show 0 < hw_n0 0 by decide)) kH_71 iH_findUser vH_findUser (m_H_findUser_y _ _ _ _ _ hA hF u hu) rfl rfl (Nat.le_of_ble_eq_true rfl) ⟨by rw [hR]; decide, by rw [hR]; decide⟩ ⟨by rw [hR]; decide, by rw [hR]; decide⟩ dH_enter_2 ?_
  refine hr_astore (i := 4) G dH_enter_5 (by decide) ?_
  refine hr_aload G dH_enter_7 rfl ?_
  refine hr_ifnull G dH_enter_9 ?_
  refine hr_aload_n G dH_enter_12 rfl rfl ?_
  refine hr_iload_n G dH_enter_13 rfl rfl ?_
  refine hr_callVs (k := 0) (i := 0) G rfl rfl (hA.lt (show 0 < hw_n0 0 by decide)) kH_120 iH_isEnabled vH_isEnabled (m_H_isEnabled _ _ _ _ _ hA hF v) rfl rfl (Nat.le_of_ble_eq_true rfl) ⟨by rw [hR]; decide, by rw [hR]; decide⟩ ⟨by rw [hR]; decide, by rw [hR]; decide⟩ dH_enter_14 ?_
  refine hr_if_ne (tgt := 30) G dH_enter_17 (by decide) (fun _ => ?_) (fun h => absurd h hv)
  refine hr_aload_n G dH_enter_30 rfl rfl ?_
  refine hr_get (v := .int (S 0 0 8)) G fH_101 (hA.lt (show 0 < hw_n0 0 by decide)) rfl dH_enter_31 ?_
  refine hr_bipush (v := 40) G dH_enter_34 (by decide) ?_
  refine hr_icmp_ge (tgt := 49) G dH_enter_36 (by decide) (fun _ => ?_) (fun h => absurd (show (40 : Int32) ≤ S 0 0 8 by rw [hc9, h40]; decide) h)
  exact hr_throw (E := "java/lang/IllegalStateException") (names := ["java/lang/RuntimeException", "java/lang/Exception"]) (si := 8) G (by rw [hl]; exact hst) htab (by decide) (by decide) qH_62 in_ISE rfl at_ISE go_ISE dH_enter_49 dH_enter_52 dH_enter_53 dH_enter_55 dH_enter_58 (by rw [hR]; decide) (by rw [hR]; decide) (by rw [hR]; decide) (by rw [hR]; decide) (by decide) (by decide) (fun _ _ => ⟨rfl, rfl, eqv.rf hT⟩)
set_option maxRecDepth 100000 in
set_option maxHeartbeats 1000000 in
theorem m_H_enter_d (l : Launch) (hst : l.stackTraces = false) (B : hw_B) (nb : Nat → Nat) (S : hw_St) (z : Nat) (u : Nat) (y v : Int32) (hu : u < 4) (hv : ¬ hs_en S v = 0) (h40 : nb 9 < 40) (h150 : nb 11 = 150) (hI : ic nb S) : hw_MX l yH_enter cH_enter 7 (some .int) ({ frames := 6, cells := 1, slots := 6, locals := 90 }) B [.ref (hw_a B 0 0), .int (nI u), .int y, .int v] nb S z (hw_qp (.inr "java/lang/IllegalStateException") nb S) := by
  refine hw_MX.of (by decide) (Nat.le_of_ble_eq_true rfl) ?_
  intro X fr hl hR G hr htab
  obtain ⟨hA, hF, ⟨hn9, hc9⟩, ⟨hn11, hc11⟩, ⟨nm, hnm1, hnm2⟩, hT, hSe, hTi, hU, hW0, hW⟩ := hI
  refine hr_aload_n G dH_enter_0 rfl rfl ?_
  refine hr_iload_n G dH_enter_1 rfl rfl ?_
  refine hr_callVs (k := 0) (i := 0) G rfl rfl (hA.lt (show 0 < hw_n0 0 by decide)) kH_71 iH_findUser vH_findUser (m_H_findUser_y _ _ _ _ _ hA hF u hu) rfl rfl (Nat.le_of_ble_eq_true rfl) ⟨by rw [hR]; decide, by rw [hR]; decide⟩ ⟨by rw [hR]; decide, by rw [hR]; decide⟩ dH_enter_2 ?_
  refine hr_astore (i := 4) G dH_enter_5 (by decide) ?_
  refine hr_aload G dH_enter_7 rfl ?_
  refine hr_ifnull G dH_enter_9 ?_
  refine hr_aload_n G dH_enter_12 rfl rfl ?_
  refine hr_iload_n G dH_enter_13 rfl rfl ?_
  refine hr_callVs (k := 0) (i := 0) G rfl rfl (hA.lt (show 0 < hw_n0 0 by decide)) kH_120 iH_isEnabled vH_isEnabled (m_H_isEnabled _ _ _ _ _ hA hF v) rfl rfl (Nat.le_of_ble_eq_true rfl) ⟨by rw [hR]; decide, by rw [hR]; decide⟩ ⟨by rw [hR]; decide, by rw [hR]; decide⟩ dH_enter_14 ?_
  refine hr_if_ne (tgt := 30) G dH_enter_17 (by decide) (fun _ => ?_) (fun h => absurd h hv)
  refine hr_aload_n G dH_enter_30 rfl rfl ?_
  refine hr_get (v := .int (S 0 0 8)) G fH_101 (hA.lt (show 0 < hw_n0 0 by decide)) rfl dH_enter_31 ?_
  refine hr_bipush (v := 40) G dH_enter_34 (by decide) ?_
  refine hr_icmp_ge (tgt := 49) G dH_enter_36 (by decide) (fun h => absurd h (show ¬ (40 : Int32) ≤ S 0 0 8 by rw [hc9]; exact nI_ge (b := 40) h40 (by decide))) (fun _ => ?_)
  refine hr_aload_n G dH_enter_39 rfl rfl ?_
  refine hr_get (v := .int (S 0 0 9)) G fH_125 (hA.lt (show 0 < hw_n0 0 by decide)) rfl dH_enter_40 ?_
  refine hr_sipush (v := 150) G dH_enter_43 (by decide) ?_
  refine hr_icmp_lt (tgt := 59) G dH_enter_46 (by decide) (fun h => absurd h (show ¬ S 0 0 9 < 150 by rw [hc11, h150]; decide)) (fun _ => ?_)
  exact hr_throw (E := "java/lang/IllegalStateException") (names := ["java/lang/RuntimeException", "java/lang/Exception"]) (si := 8) G (by rw [hl]; exact hst) htab (by decide) (by decide) qH_62 in_ISE rfl at_ISE go_ISE dH_enter_49 dH_enter_52 dH_enter_53 dH_enter_55 dH_enter_58 (by rw [hR]; decide) (by rw [hR]; decide) (by rw [hR]; decide) (by rw [hR]; decide) (by decide) (by decide) (fun _ _ => ⟨rfl, rfl, eqv.rf hT⟩)
set_option maxRecDepth 100000 in
set_option maxHeartbeats 1000000 in
theorem m_H_enter_e (l : Launch) (hst : l.stackTraces = false) (B : hw_B) (nb : Nat → Nat) (S : hw_St) (z : Nat) (u : Nat) (y v : Int32) (hu : u < 4) (hv : ¬ hs_en S v = 0) (h40 : nb 9 < 40) (h150 : nb 11 < 150) (a : Int32) (S1 : hw_St) (hat : us_att S u y (S 0 0 11) = (a, S1)) (ha : ¬ a = 0) (hI : ic nb S) : hw_MX l yH_enter cH_enter 7 (some .int) ({ frames := 6, cells := 2, slots := 15, locals := 90 }) B [.ref (hw_a B 0 0), .int (nI u), .int y, .int v] nb S z (hw_qp (.inl (some (.int a))) nb S1) := by
  refine hw_MX.of (by decide) (Nat.le_of_ble_eq_true rfl) ?_
  intro X fr hl hR G hr htab
  obtain ⟨hA, hF, ⟨hn9, hc9⟩, ⟨hn11, hc11⟩, ⟨nm, hnm1, hnm2⟩, hT, hSe, hTi, hU, hW0, hW⟩ := hI
  refine hr_aload_n G dH_enter_0 rfl rfl ?_
  refine hr_iload_n G dH_enter_1 rfl rfl ?_
  refine hr_callVs (k := 0) (i := 0) G rfl rfl (hA.lt (show 0 < hw_n0 0 by decide)) kH_71 iH_findUser vH_findUser (m_H_findUser_y _ _ _ _ _ hA hF u hu) rfl rfl (Nat.le_of_ble_eq_true rfl) ⟨by rw [hR]; decide, by rw [hR]; decide⟩ ⟨by rw [hR]; decide, by rw [hR]; decide⟩ dH_enter_2 ?_
  refine hr_astore (i := 4) G dH_enter_5 (by decide) ?_
  refine hr_aload G dH_enter_7 rfl ?_
  refine hr_ifnull G dH_enter_9 ?_
  refine hr_aload_n G dH_enter_12 rfl rfl ?_
  refine hr_iload_n G dH_enter_13 rfl rfl ?_
  refine hr_callVs (k := 0) (i := 0) G rfl rfl (hA.lt (show 0 < hw_n0 0 by decide)) kH_120 iH_isEnabled vH_isEnabled (m_H_isEnabled _ _ _ _ _ hA hF v) rfl rfl (Nat.le_of_ble_eq_true rfl) ⟨by rw [hR]; decide, by rw [hR]; decide⟩ ⟨by rw [hR]; decide, by rw [hR]; decide⟩ dH_enter_14 ?_
  refine hr_if_ne (tgt := 30) G dH_enter_17 (by decide) (fun _ => ?_) (fun h => absurd h hv)
  refine hr_aload_n G dH_enter_30 rfl rfl ?_
  refine hr_get (v := .int (S 0 0 8)) G fH_101 (hA.lt (show 0 < hw_n0 0 by decide)) rfl dH_enter_31 ?_
  refine hr_bipush (v := 40) G dH_enter_34 (by decide) ?_
  refine hr_icmp_ge (tgt := 49) G dH_enter_36 (by decide) (fun h => absurd h (show ¬ (40 : Int32) ≤ S 0 0 8 by rw [hc9]; exact nI_ge (b := 40) h40 (by decide))) (fun _ => ?_)
  refine hr_aload_n G dH_enter_39 rfl rfl ?_
  refine hr_get (v := .int (S 0 0 9)) G fH_125 (hA.lt (show 0 < hw_n0 0 by decide)) rfl dH_enter_40 ?_
  refine hr_sipush (v := 150) G dH_enter_43 (by decide) ?_
  refine hr_icmp_lt (tgt := 59) G dH_enter_46 (by decide) (fun _ => ?_) (fun h => absurd (show S 0 0 9 < 150 by rw [hc11]; exact (nI_ltI (b := 150) (by omega) (by decide)).mpr h150) h)
  refine hr_aload G dH_enter_59 rfl ?_
  refine hr_iload_n G dH_enter_61 rfl rfl ?_
  refine hr_aload_n G dH_enter_62 rfl rfl ?_
  refine hr_get (v := .int (S 0 0 11)) G fH_106 (hA.lt (show 0 < hw_n0 0 by decide)) rfl dH_enter_63 ?_
  refine hr_callVs (k := 2) (i := u) G rfl rfl (hA.lt hu) kH_109 iU_attempt vU_attempt (m_U_att _ _ _ _ _ u hA hu y (S 0 0 11) a S1 hat) rfl rfl (Nat.le_of_ble_eq_true rfl) ⟨by rw [hR]; decide, by rw [hR]; decide⟩ ⟨by rw [hR]; decide, by rw [hR]; decide⟩ dH_enter_66 ?_
  refine hr_istore (i := 5) G dH_enter_69 (by decide) ?_
  refine hr_iload G dH_enter_71 rfl ?_
  refine hr_if_eq (tgt := 79) G dH_enter_73 (by decide) (fun h => absurd h ha) (fun _ => ?_)
  refine hr_iload G dH_enter_76 rfl ?_
  refine hr_wide (c' := 2) (sl' := 15) (Nat.le_of_ble_eq_true rfl) (Nat.le_of_ble_eq_true rfl) ?_
  exact hr_iret G hr hw_QX.of dH_enter_78 ⟨rfl, rfl, eqv.rf (us_att_tx hat hT)⟩
set_option maxRecDepth 100000 in
set_option maxHeartbeats 1000000 in
theorem m_H_enter_f (l : Launch) (hst : l.stackTraces = false) (B : hw_B) (nb : Nat → Nat) (S : hw_St) (z : Nat) (u w : Nat) (y : Int32) (hu : u < 4) (hw : w < 6) (hv : ¬ hs_en S (nI w) = 0) (h40 : nb 9 < 40) (h150 : nb 11 < 150) (hat : us_att S u y (S 0 0 11) = (0, (hw_sv S 2 u 4 0))) (hI : ic nb S) (hz : hw_a B 9 (nb 9) = z) (hz2 : hw_a B 11 (nb 11) = z + 1) : hw_MX l yH_enter cH_enter 7 (some .int) ({ frames := 6, cells := 2, slots := 15, locals := 100 }) B [.ref (hw_a B 0 0), .int (nI u), .int y, .int (nI w)] nb S z (hw_qp (.inl (some (.int (nI (nb 11))))) (hw_nb (hw_nb nb 9) 11) (hw_sv (hs_giv (hs_opn (hw_sv S 2 u 4 0) (nb 9) u 0) (nb 11) 0 (nb 9) (nI w) (-1) (if (0 : Int32) = 2 then 0 + 1 else 0)) 11 (nb 11) 7 1)) := by
  refine hw_MX.of (by decide) (Nat.le_of_ble_eq_true rfl) ?_
  intro X fr hl hR G hr htab
  obtain ⟨hA, hF, ⟨hn9, hc9⟩, ⟨hn11, hc11⟩, ⟨nm, hnm1, hnm2⟩, hT, hSe, hTi, hU, hW0, hW⟩ := hI
  have hfo : hw_Fx (hs_opn (hw_sv S 2 u 4 0) (nb 9) u 0) := ((se_new_fx ((hF.sv (k := 2) (j := 4) rfl).nw (k := 9) rfl)).sv rfl).sv rfl
  refine hr_aload_n G dH_enter_0 rfl rfl ?_
  refine hr_iload_n G dH_enter_1 rfl rfl ?_
  refine hr_callVs (k := 0) (i := 0) G rfl rfl (hA.lt (show 0 < hw_n0 0 by decide)) kH_71 iH_findUser vH_findUser (m_H_findUser_y _ _ _ _ _ hA hF u hu) rfl rfl (Nat.le_of_ble_eq_true rfl) ⟨by rw [hR]; decide, by rw [hR]; decide⟩ ⟨by rw [hR]; decide, by rw [hR]; decide⟩ dH_enter_2 ?_
  refine hr_astore (i := 4) G dH_enter_5 (by decide) ?_
  refine hr_aload G dH_enter_7 rfl ?_
  refine hr_ifnull G dH_enter_9 ?_
  refine hr_aload_n G dH_enter_12 rfl rfl ?_
  refine hr_iload_n G dH_enter_13 rfl rfl ?_
  refine hr_callVs (k := 0) (i := 0) G rfl rfl (hA.lt (show 0 < hw_n0 0 by decide)) kH_120 iH_isEnabled vH_isEnabled (m_H_isEnabled _ _ _ _ _ hA hF (nI w)) rfl rfl (Nat.le_of_ble_eq_true rfl) ⟨by rw [hR]; decide, by rw [hR]; decide⟩ ⟨by rw [hR]; decide, by rw [hR]; decide⟩ dH_enter_14 ?_
  refine hr_if_ne (tgt := 30) G dH_enter_17 (by decide) (fun _ => ?_) (fun h => absurd h hv)
  refine hr_aload_n G dH_enter_30 rfl rfl ?_
  refine hr_get (v := .int (S 0 0 8)) G fH_101 (hA.lt (show 0 < hw_n0 0 by decide)) rfl dH_enter_31 ?_
  refine hr_bipush (v := 40) G dH_enter_34 (by decide) ?_
  refine hr_icmp_ge (tgt := 49) G dH_enter_36 (by decide) (fun h => absurd h (show ¬ (40 : Int32) ≤ S 0 0 8 by rw [hc9]; exact nI_ge (b := 40) h40 (by decide))) (fun _ => ?_)
  refine hr_aload_n G dH_enter_39 rfl rfl ?_
  refine hr_get (v := .int (S 0 0 9)) G fH_125 (hA.lt (show 0 < hw_n0 0 by decide)) rfl dH_enter_40 ?_
  refine hr_sipush (v := 150) G dH_enter_43 (by decide) ?_
  refine hr_icmp_lt (tgt := 59) G dH_enter_46 (by decide) (fun _ => ?_) (fun h => absurd (show S 0 0 9 < 150 by rw [hc11]; exact (nI_ltI (b := 150) (by omega) (by decide)).mpr h150) h)
  refine hr_aload G dH_enter_59 rfl ?_
  refine hr_iload_n G dH_enter_61 rfl rfl ?_
  refine hr_aload_n G dH_enter_62 rfl rfl ?_
  refine hr_get (v := .int (S 0 0 11)) G fH_106 (hA.lt (show 0 < hw_n0 0 by decide)) rfl dH_enter_63 ?_
  refine hr_callVs (k := 2) (i := u) G rfl rfl (hA.lt hu) kH_109 iU_attempt vU_attempt (m_U_att _ _ _ _ _ u hA hu y (S 0 0 11) 0 (hw_sv S 2 u 4 0) hat) rfl rfl (Nat.le_of_ble_eq_true rfl) ⟨by rw [hR]; decide, by rw [hR]; decide⟩ ⟨by rw [hR]; decide, by rw [hR]; decide⟩ dH_enter_66 ?_
  refine hr_istore (i := 5) G dH_enter_69 (by decide) ?_
  refine hr_iload G dH_enter_71 rfl ?_
  refine hr_if_eq (tgt := 79) G dH_enter_73 (by decide) (fun _ => ?_) (fun h => absurd (by decide) h)
  refine hr_aload_n G dH_enter_79 rfl rfl ?_
  refine hr_iconst (v := 0) G dH_enter_80 (by decide) ?_
  refine hr_aload_n G dH_enter_81 rfl rfl ?_
  refine hr_aload G dH_enter_82 rfl ?_
  refine hr_iconst (v := 0) G dH_enter_84 (by decide) ?_
  refine hr_callVs (k := 0) (i := 0) G rfl rfl (hA.lt (show 0 < hw_n0 0 by decide)) kH_113 iH_openSession vH_openSession (m_H_openSession _ _ _ _ _ hA (hF.sv rfl) u hu 0 (Or.inl rfl) hc9 h40 hz) rfl rfl (Nat.le_of_ble_eq_true rfl) ⟨by rw [hR]; decide, by rw [hR]; decide⟩ ⟨by rw [hR]; decide, by rw [hR]; decide⟩ dH_enter_85 ?_
  refine hr_iload_n G dH_enter_88 rfl rfl ?_
  refine hr_null G dH_enter_89 ?_
  refine hr_callVs (k := 0) (i := 0) G rfl rfl ((hA.nb (k := 9) rfl).lt (show 0 < hw_n0 0 by decide)) kH_130 iH_giveTicket vH_giveTicket (m_H_giveTicket_n _ _ _ _ _ (hA.nb (k := 9) rfl) hfo 0 (nb 9) hw_nbs (by omega) (nI w) hc11 h150 hz2) rfl rfl (Nat.le_of_ble_eq_true rfl) ⟨by rw [hR]; decide, by rw [hR]; decide⟩ ⟨by rw [hR]; decide, by rw [hR]; decide⟩ dH_enter_90 ?_
  refine hr_astore (i := 6) G dH_enter_93 (by decide) ?_
  refine hr_aload G dH_enter_95 rfl ?_
  refine hr_iconst (v := 1) G dH_enter_97 (by decide) ?_
  refine hr_put (x := 1) G fH_134 hw_nbs rfl (rfl) rfl dH_enter_98 ?_
  refine hr_aload G dH_enter_101 rfl ?_
  refine hr_get (v := .int (nI (nb 11))) G fH_138 hw_nbs (by show Value.int _ = Value.int _; rw [← hc11]; simp [hs_giv, tk_new, hs_opn, se_new, hw_sv, hw_nw, hw_nb]) dH_enter_103 ?_
  exact hr_iret G hr hw_QX.of dH_enter_106 ⟨rfl, rfl, fun _ _ _ _ _ => rfl, hT⟩
end
