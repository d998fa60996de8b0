/-! The String constants at the law's entry. -/
theorem k0_ac {args : Array Value} {s : State} {t : FieldType} (h : (Cond.arrayClass t).before args s = true) : ∃ c, ArrOfT s c t ∧ s.vm.findClass ("[" ++ t.toString) = some c := by
  obtain ⟨c, k, comp, h1, h2, h3⟩ := Cond.arrayClass_spec (args := args) (first := s) (o := none) (s := s) (idx := []) h
  exact ⟨c, fun n z => ⟨(fun q w => by cases w), k, h2, comp, h3⟩, h1⟩
theorem k0_ao {args : Array Value} {s : State} {C : String} (h : (Cond.arrayOver (.object C)).before args s = true) : ∃ c, ArrOfT s c (.object C) ∧ va_RA s c (.object C) := by
  obtain ⟨comp, c, k, h1, -, h2, h3, h4⟩ := Cond.arrayOver_spec (args := args) (first := s) (o := none) (s := s) (idx := []) h
  exact ⟨c, fun n z => ⟨(fun q w => by cases w), k, h2, comp, h3⟩, k, comp, h2, h3, h1, h4⟩
theorem k0_nw {w : Cond} (h : hw_okw w = true) {A : Array Value} {U : State} (hb : w.before A U = true) : va_Nw w U := by
  cases w <;> first | exact hb | (simp [hw_okw, goodWord, Cond.onTables] at h)
/-- a String constant as the start has it -/
theorem k0_str {args : Array Value} {s : State} {own : String} {k n : Nat} {tx : String} {g : Nat → Int32} (hn : n < 2 ^ 31) (h0 : (Cond.stringRef own k tx).before args s = true) (h1 : (Cond.exactly (.string own k) "java/lang/String").before args s = true) (h2 : (Cond.eq (.field (.string own k) "java/lang/String" "coder" "B") (.int 0)).before args s = true) (h3 : (Cond.arrayOf (.field (.string own k) "java/lang/String" "value" "[B") .byte).before args s = true) (h4 : (Cond.eq (.length (.field (.string own k) "java/lang/String" "value" "[B")) (.int (Int32.ofNat n))).before args s = true) (h5 : ∀ j, j < n → (Cond.eq (.elem (.field (.string own k) "java/lang/String" "value" "[B") (.int (Int32.ofNat j))) (.int (g j))).before args s = true) : ∃ a v : Nat, vk_R own k tx a s ∧ va_O "java/lang/String" a (fun x => s.heap.size ≤ x) s s.heap ∧ va_OF "java/lang/String" "coder" "B" (.int 0) a (fun x => s.heap.size ≤ x) s s.heap ∧ va_OF "java/lang/String" "value" "[B" (.ref v) a (fun x => s.heap.size ≤ x) s s.heap ∧ ∃ f : Nat → Int32, va_T .byte v n (fun j => .int (f j)) (fun x => s.heap.size ≤ x) s s.heap := by
  have hA : ∀ a : Nat, a < s.heap.size → ¬ (fun x => s.heap.size ≤ x) a := fun a h => Nat.not_le.mpr h
  obtain ⟨a, c, cA, kA, q1, q2, q3, q4, q5, q6, -⟩ := Cond.exactly_spec (args := args) (first := s) (o := none) (s := s) (idx := []) (t := .string own k) (cls := "java/lang/String") h1
  obtain ⟨v, hv, hT⟩ := va_Tof (f := fun j => .int (g j)) (A := fun x => s.heap.size ≤ x) hn h3 (va_eqt h4) (fun j hj => va_eqt (h5 j hj)) hA
  exact ⟨a, v, vk_R.of h0 q1, va_Oof h1 q1 hA, vk_OFof q1 (va_eqt h2) hA, vk_OFof q1 hv hA, g, hT⟩
abbrev k0_fl : List Cond := flatC (Jvm.Cond.and given_1 narrow_1)
/-- the start's conditions on a String constant -/
def k0_sc (own : String) (k : Nat) (bs : List Int32) : List Cond := [Cond.exactly (.string own k) "java/lang/String", Cond.eq (.field (.string own k) "java/lang/String" "coder" "B") (.int 0), Cond.arrayOf (.field (.string own k) "java/lang/String" "value" "[B") .byte, Cond.eq (.length (.field (.string own k) "java/lang/String" "value" "[B")) (.int (Int32.ofNat bs.length))] ++ (List.range bs.length).map (fun j => Cond.eq (.elem (.field (.string own k) "java/lang/String" "value" "[B") (.int (Int32.ofNat j))) (.int (bs.getD j 0)))
theorem k0_sub {args : Array Value} {s : State} {own : String} {k p m : Nat} {tx : String} {bs : List Int32} (hn : bs.length < 2 ^ 31) (e : (k0_fl.drop p).take m = k0_sc own k bs) (hz : (Cond.stringRef own k tx).before args s = true) (hs : ∀ c ∈ k0_fl, c.before args s = true) : ∃ a v : Nat, vk_R own k tx a s ∧ va_O "java/lang/String" a (fun x => s.heap.size ≤ x) s s.heap ∧ va_OF "java/lang/String" "coder" "B" (.int 0) a (fun x => s.heap.size ≤ x) s s.heap ∧ va_OF "java/lang/String" "value" "[B" (.ref v) a (fun x => s.heap.size ≤ x) s s.heap ∧ ∃ f : Nat → Int32, va_T .byte v bs.length (fun j => .int (f j)) (fun x => s.heap.size ≤ x) s s.heap := by
  have h : ∀ c ∈ k0_sc own k bs, c.before args s = true := fun c hc => hs c (List.mem_of_mem_drop (List.mem_of_mem_take (by rw [e]; exact hc)))
  have hh : ∀ c ∈ [Cond.exactly (.string own k) "java/lang/String", Cond.eq (.field (.string own k) "java/lang/String" "coder" "B") (.int 0), Cond.arrayOf (.field (.string own k) "java/lang/String" "value" "[B") .byte, Cond.eq (.length (.field (.string own k) "java/lang/String" "value" "[B")) (.int (Int32.ofNat bs.length))], c.before args s = true := fun c hc => h c (List.mem_append_left _ hc)
  exact k0_str (g := fun j => bs.getD j 0) hn hz (hh _ (List.mem_of_getElem? (i := 0) rfl)) (hh _ (List.mem_of_getElem? (i := 1) rfl)) (hh _ (List.mem_of_getElem? (i := 2) rfl)) (hh _ (List.mem_of_getElem? (i := 3) rfl)) (fun j hj => h _ (List.mem_append_right _ (List.mem_map.mpr ⟨j, List.mem_range.mpr hj, rfl⟩)))
theorem k0_e0 : (k0_fl.drop 25).take 28 = k0_sc "TicketHouse" 53 [110, 111, 116, 32, 97, 32, 99, 104, 97, 114, 97, 99, 116, 101, 114, 32, 111, 102, 32, 116, 101, 120, 116, 115] := by decide +kernel
theorem k0_e1 : (k0_fl.drop 53).take 21 = k0_sc "TicketHouse" 64 [116, 104, 101, 32, 100, 114, 97, 102, 116, 32, 105, 115, 32, 102, 117, 108, 108] := by decide +kernel
theorem k0_e2 : (k0_fl.drop 74).take 24 = k0_sc "TicketHouse" 75 [110, 111, 32, 115, 117, 99, 104, 32, 117, 115, 101, 114, 32, 111, 114, 32, 116, 101, 120, 116] := by decide +kernel
theorem k0_e3 : (k0_fl.drop 98).take 16 = k0_sc "TicketHouse" 88 [110, 111, 32, 115, 117, 99, 104, 32, 117, 115, 101, 114] := by decide +kernel
theorem k0_e4 : (k0_fl.drop 114).take 28 = k0_sc "TicketHouse" 97 [110, 111, 32, 115, 117, 99, 104, 32, 115, 101, 114, 118, 105, 99, 101, 32, 111, 114, 32, 102, 108, 97, 103, 115] := by decide +kernel
theorem k0_e5 : (k0_fl.drop 142).take 20 = k0_sc "TicketHouse" 99 [110, 111, 32, 115, 117, 99, 104, 32, 99, 97, 108, 108, 98, 97, 99, 107] := by decide +kernel
theorem k0_e6 : (k0_fl.drop 162).take 20 = k0_sc "TicketHouse" 104 [110, 111, 32, 109, 111, 114, 101, 32, 115, 101, 115, 115, 105, 111, 110, 115] := by decide +kernel
theorem k0_e7 : (k0_fl.drop 182).take 35 = k0_sc "TicketHouse" 123 [110, 111, 32, 115, 117, 99, 104, 32, 117, 115, 101, 114, 32, 111, 114, 32, 101, 110, 97, 98, 108, 101, 100, 32, 115, 101, 114, 118, 105, 99, 101] := by decide +kernel
theorem k0_e8 : (k0_fl.drop 217).take 31 = k0_sc "TicketHouse" 128 [110, 111, 32, 109, 111, 114, 101, 32, 115, 101, 115, 115, 105, 111, 110, 115, 32, 111, 114, 32, 116, 105, 99, 107, 101, 116, 115] := by decide +kernel
theorem k0_e9 : (k0_fl.drop 248).take 38 = k0_sc "TicketHouse" 143 [110, 111, 32, 115, 117, 99, 104, 32, 115, 101, 115, 115, 105, 111, 110, 32, 111, 114, 32, 101, 110, 97, 98, 108, 101, 100, 32, 115, 101, 114, 118, 105, 99, 101] := by decide +kernel
theorem k0_e10 : (k0_fl.drop 286).take 45 = k0_sc "TicketHouse" 148 [116, 104, 101, 32, 115, 101, 115, 115, 105, 111, 110, 32, 104, 97, 115, 32, 101, 110, 100, 101, 100, 44, 32, 111, 114, 32, 110, 111, 32, 109, 111, 114, 101, 32, 116, 105, 99, 107, 101, 116, 115] := by decide +kernel
theorem k0_e11 : (k0_fl.drop 331).take 46 = k0_sc "TicketHouse" 160 [110, 111, 32, 115, 117, 99, 104, 32, 103, 114, 97, 110, 116, 105, 110, 103, 32, 116, 105, 99, 107, 101, 116, 32, 111, 114, 32, 101, 110, 97, 98, 108, 101, 100, 32, 115, 101, 114, 118, 105, 99, 101] := by decide +kernel
theorem k0_e12 : (k0_fl.drop 377).take 42 = k0_sc "TicketHouse" 165 [116, 104, 101, 32, 116, 105, 99, 107, 101, 116, 32, 105, 115, 32, 100, 101, 97, 100, 44, 32, 111, 114, 32, 110, 111, 32, 109, 111, 114, 101, 32, 116, 105, 99, 107, 101, 116, 115] := by decide +kernel
theorem k0_e13 : (k0_fl.drop 419).take 30 = k0_sc "TicketHouse" 171 [110, 111, 32, 115, 117, 99, 104, 32, 119, 105, 115, 104, 101, 115, 32, 111, 114, 32, 99, 97, 108, 108, 98, 97, 99, 107] := by decide +kernel
theorem k0_e14 : (k0_fl.drop 449).take 11 = k0_sc "TicketHouse" 261 [60, 110, 111, 32, 99, 61, 34] := by decide +kernel
theorem k0_e15 : (k0_fl.drop 460).take 6 = k0_sc "TicketHouse" 269 [34, 62] := by decide +kernel
theorem k0_e16 : (k0_fl.drop 466).take 9 = k0_sc "TicketHouse" 271 [60, 47, 110, 111, 62] := by decide +kernel
theorem k0_e17 : (k0_fl.drop 475).take 11 = k0_sc "TicketHouse" 273 [60, 111, 107, 32, 117, 61, 34] := by decide +kernel
theorem k0_e18 : (k0_fl.drop 486).take 9 = k0_sc "TicketHouse$Text" 48 [38, 97, 109, 112, 59] := by decide +kernel
theorem k0_e19 : (k0_fl.drop 495).take 8 = k0_sc "TicketHouse$Text" 50 [38, 108, 116, 59] := by decide +kernel
theorem k0_e20 : (k0_fl.drop 503).take 8 = k0_sc "TicketHouse$Text" 52 [38, 103, 116, 59] := by decide +kernel
theorem k0_e21 : (k0_fl.drop 511).take 10 = k0_sc "TicketHouse$Text" 54 [38, 113, 117, 111, 116, 59] := by decide +kernel
theorem k0_e22 : (k0_fl.drop 521).take 6 = k0_sc "TicketHouse" 291 [60, 97] := by decide +kernel
theorem k0_e23 : (k0_fl.drop 527).take 7 = k0_sc "TicketHouse" 293 [60, 47, 97] := by decide +kernel
theorem k0_e24 : (k0_fl.drop 534).take 6 = k0_sc "TicketHouse$Text" 39 [60, 47] := by decide +kernel
theorem k0_e25 : (k0_fl.drop 540).take 9 = k0_sc "TicketHouse" 289 [60, 47, 111, 107, 62] := by decide +kernel
theorem k0_e26 : (k0_fl.drop 549).take 19 = k0_sc "TicketHouse" 191 [110, 111, 32, 115, 117, 99, 104, 32, 115, 101, 115, 115, 105, 111, 110] := by decide +kernel
theorem k0_e27 : (k0_fl.drop 568).take 25 = k0_sc "TicketHouse" 193 [116, 104, 101, 32, 115, 101, 115, 115, 105, 111, 110, 32, 104, 97, 115, 32, 101, 110, 100, 101, 100] := by decide +kernel
theorem k0_e28 : (k0_fl.drop 593).take 32 = k0_sc "TicketHouse" 199 [116, 104, 101, 32, 99, 108, 111, 99, 107, 32, 99, 97, 110, 39, 116, 32, 103, 114, 111, 119, 32, 98, 121, 32, 116, 104, 97, 116] := by decide +kernel
