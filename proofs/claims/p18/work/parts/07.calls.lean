/-! Contracts, returns, calls that return. -/
abbrev hw_O : Type := Option Value ⊕ String
abbrev hw_T : Type := hw_O → (Nat → Nat) → hw_St → Nat → Prop
def hw_oc (o : Outcome) (oc : hw_O) (t : State) : Prop := match oc with
  | .inl v => o = .returned v
  | .inr E => ∃ (x : Addr) (cell : Cell), o = .threw x ∧ t.heap[x]? = some cell ∧ cell.vm = .none ∧ t.vm.findClass E = some cell.cls
def hw_fr (B : hw_B) (nb : Nat → Nat) (z : Nat) : Nat → Prop := fun q => (∃ k i : Nat, i < nb k ∧ q = hw_a B k i) ∨ z ≤ q
def hw_Qc (B : hw_B) (fr : Nat → Prop) (Post : hw_T) : Array Value → State → Outcome → State → Prop := fun _ _ o t => ∃ (oc : hw_O) (nb : Nat → Nat) (S : hw_St), Post oc nb S t.heap.size ∧ hw_P B nb S t.heap ∧ hw_oc o oc t ∧ hw_L B fr nb t.heap.size []
def hw_Pc (B : hw_B) (av : List Value) (nb : Nat → Nat) (S : hw_St) (z : Nat) : Array Value → State → Prop := fun v U => v = av.toArray ∧ hw_K B U ∧ hw_P B nb S U.heap ∧ U.heap.size = z
def hw_M (l : Launch) (y : MethodName) (cc : ByteArray) (nL : Nat) (ret : Option FieldType) (rm : Room) (B : hw_B) (av : List Value) (nb : Nat → Nat) (S : hw_St) (z : Nat) (Post : hw_T) : Prop :=
  Met l y [.code y cc nL ret] rm (hw_Pc B av nb S z) (hw_Qc B (hw_fr B nb z) Post) rm.cells rm.slots (hw_fr B nb z)
abbrev hw_MQ (X : hw_X) (B : hw_B) (fr : Nat → Prop) (Post : hw_T) (mc ms : Nat) : State → Prop := MQ (xb X) (hw_Qc B fr Post) (xa X) (xs X) mc ms fr
theorem hw_nost {B : hw_B} {nb : Nat → Nat} {S : hw_St} {z : Nat} {H : Heap} (hP : hw_P B nb S H) (hz : H.size = z) : ∀ (q : Nat) (cell : Cell), hw_fr B nb z q → H[q]? = some cell → cell.vm.isStatics = false := fun q cell hq hc => by
  rcases hq with ⟨k, i, hi, rfl⟩ | hq
  · have h := (hP.2.1 k i hi).2
    cases hk : hw_kd k with
    | inl ci =>
      obtain ⟨r, h1, cell', h2, -, h3, -⟩ := (hw_cel_o hk).mp h
      have e : cell' = cell := Option.some.inj (h2.symm.trans hc)
      rw [← e, h3]; rfl
    | inr et =>
      have h2 := (hw_cel_a hk).mp h
      have e := Option.some.inj (h2.symm.trans hc)
      rw [← e]; rfl
  · exfalso
    have := (Array.getElem?_eq_some_iff.mp hc).1
    omega
theorem hw_frb {B : hw_B} {nb : Nat → Nat} {S : hw_St} {z : Nat} {H : Heap} (hP : hw_P B nb S H) (hz : H.size = z) : ∀ q : Nat, hw_fr B nb z q → B.1 ≤ q := fun q hq => by
  rcases hq with ⟨k, i, hi, rfl⟩ | hq
  · exact (hP.2.1 k i hi).1
  · have := hP.1.1; omega
theorem hw_L0 {B : hw_B} {nb : Nat → Nat} {z : Nat} : hw_L B (hw_fr B nb z) nb z [] := ⟨(fun q h => nomatch h), fun k i hi => Or.inl ⟨k, i, hi, rfl⟩, fun q hq => Or.inr hq⟩
theorem hw_M.of {l : Launch} {y : MethodName} {cc : ByteArray} {nL : Nat} {ret : Option FieldType} {rm : Room} {B : hw_B} {av : List Value} {nb : Nat → Nat} {S : hw_St} {z : Nat} {Post : hw_T} (hy : plainName y.cls = true) (hA : (lg_sl av).length ≤ nL)
    (body : ∀ (X : hw_X) (fr : Nat → Prop), X.2.1 = l → xR X = rm → hw_G X B fr cc nL y.cls → (xt X).sig.returnType = ret → (xt X).name = y.name → hw_V X B fr nb S z 0 0 (hw_MQ X B fr Post rm.cells rm.slots) nL 0 (lv_args 0 av) []) : hw_M l y cc nL ret rm B av nb S z Post := by
  refine Met.ofW (cc := cc) (maxL := nL) (ret := ret) hy rfl ?_
  intro p e s m args below meth c s₁ Bd hml hv
  obtain ⟨rfl, hK, hP, hz⟩ := hv
  have hown : s.vm.findClass y.cls = some m.cls := findClass_of_methodNamed Bd.named
  have h := body (p, l, e, rm, s, m, av.toArray, below, meth, c) (hw_fr B nb z) rfl rfl ⟨Bd.exec, Bd.bytes, hml, hown, hK, Bd.notSynchronized, hw_nost hP hz, hw_frb hP hz, hP.1.2⟩ Bd.returns (name_of_methodNamed Bd.named Bd.method).1
  rw [lg_entry_eq]
  exact h _ _ [] (lv_entry av hA) hP hz hw_L0
theorem hw_K.same {B : hw_B} {u U : State} (h : U.vm = u.vm) (hK : hw_K B u) : hw_K B U := hw_K.moved (by rw [h]; exact State.WarmedH.refl u) hK
theorem hw_blind {B : hw_B} {av : List Value} {nb : Nat → Nat} {S : hw_St} {z : Nat} : FrameBlind (hw_Pc B av nb S z) := fun a U g mk h => ⟨h.1, hw_K.same (u := U) (U := U.calling g mk a) rfl h.2.1, h.2.2.1, h.2.2.2⟩
section HC
variable {X : hw_X} {B : hw_B} {fr : Nat → Prop} {nb : Nat → Nat} {S : hw_St} {z c sl : Nat} {Q : State → Prop} {cc : ByteArray} {nL pc : Nat} {own : String} {L : List (Nat × Value)} {st : List Value} {Post : hw_T}
theorem hr_iret (G : hw_G X B fr cc nL own) {v : Int32} (hr : (xt X).sig.returnType = some .int) (hQ : ∀ t, hw_MQ X B fr Post c sl t → Q t) (d : decode cc pc = .ok (.ireturn, 1)) (h : Post (.inl (some (.int v))) nb S z) : hw_V X B fr nb S z c sl Q nL pc L [.int v] := by
  intro ls H locs hl hP hz hf T hT XX
  obtain ⟨t, h1, h2⟩ := W.iret (Qc := hw_Qc B fr Post) (free := fr) (v := v) (locs := locs) (cells := c) (slots := sl) (H := H) G.1 G.2.1 hr (fun t ht hW => ⟨.inl (some (.int v)), nb, S, by rw [ht, hz]; exact h, by rw [ht]; exact hP, rfl, by rw [ht, hz]; exact ⟨(fun q h => nomatch h), hf.2⟩⟩) hf.1 d G.2.2.2.2.2.1 T hT XX
  exact ⟨t, h1, hQ t h2⟩
theorem hr_zret (G : hw_G X B fr cc nL own) {v : Int32} {ty : FieldType} (hr : (xt X).sig.returnType = some ty) (hn : narrow ty (.int v) = .int v) (hQ : ∀ t, hw_MQ X B fr Post c sl t → Q t) (d : decode cc pc = .ok (.ireturn, 1)) (h : Post (.inl (some (.int v))) nb S z) : hw_V X B fr nb S z c sl Q nL pc L [.int v] := by
  intro ls H locs hl hP hz hf T hT XX
  obtain ⟨t, h1, h2⟩ := W.zret (Qc := hw_Qc B fr Post) (free := fr) (v := v) (locs := locs) (cells := c) (slots := sl) (H := H) G.1 G.2.1 hr hn (fun t ht hW => ⟨.inl (some (.int v)), nb, S, by rw [ht, hz]; exact h, by rw [ht]; exact hP, rfl, by rw [ht, hz]; exact ⟨(fun q h => nomatch h), hf.2⟩⟩) hf.1 d G.2.2.2.2.2.1 T hT XX
  exact ⟨t, h1, hQ t h2⟩
theorem hr_vret (G : hw_G X B fr cc nL own) (hr : (xt X).sig.returnType = none) (hQ : ∀ t, hw_MQ X B fr Post c sl t → Q t) (d : decode cc pc = .ok (.return_, 1)) (h : Post (.inl none) nb S z) : hw_V X B fr nb S z c sl Q nL pc L [] := by
  intro ls H locs hl hP hz hf T hT XX
  obtain ⟨t, h1, h2⟩ := W.vret (Qc := hw_Qc B fr Post) (free := fr) (locs := locs) (cells := c) (slots := sl) (H := H) G.1 G.2.1 hr (fun t ht hW => ⟨.inl none, nb, S, by rw [ht, hz]; exact h, by rw [ht]; exact hP, rfl, by rw [ht, hz]; exact ⟨(fun q h => nomatch h), hf.2⟩⟩) hf.1 d G.2.2.2.2.2.1 T hT XX
  exact ⟨t, h1, hQ t h2⟩
theorem hr_aret (G : hw_G X B fr cc nL own) {v : Value} {C : String} (hr : (xt X).sig.returnType = some (.object C)) (hv : v = .null ∨ ∃ a, v = .ref a) (hQ : ∀ t, hw_MQ X B fr Post c sl t → Q t) (d : decode cc pc = .ok (.areturn, 1)) (h : Post (.inl (some v)) nb S z) : hw_V X B fr nb S z c sl Q nL pc L [v] := by
  intro ls H locs hl hP hz hf T hT XX
  obtain ⟨t, h1, h2⟩ := W.aret (Qc := hw_Qc B fr Post) (free := fr) (v := v) (locs := locs) (cells := c) (slots := sl) (H := H) G.1 G.2.1 hr (Or.inl ⟨C, rfl⟩) hv (fun t ht hW => ⟨.inl (some v), nb, S, by rw [ht, hz]; exact h, by rw [ht]; exact hP, rfl, by rw [ht, hz]; exact ⟨(fun q h => nomatch h), hf.2⟩⟩) hf.1 d G.2.2.2.2.2.1 T hT XX
  exact ⟨t, h1, hQ t h2⟩
theorem hr_objInit (G : hw_G X B fr cc nL own) {a index : Nat} (w1 : Cond.methodLink own index Lib.objectInit ∈ hw_TS) (w2 : Cond.instanceMethod Lib.objectInit ∈ hw_TS) (w3 : Cond.code Lib.objectInit ⟨#[0xb1]⟩ 1 none ∈ hw_TS) (d : decode cc pc = .ok (.invokespecial index, 3)) (hfr : 1 ≤ (xR X).frames) (hlo : (st.map fun v => v.category).sum + 12 ≤ (xR X).locals) (K : hw_V X B fr nb S z c sl Q nL (pc + 3) L st) : hw_V X B fr nb S z c sl Q nL pc L (.ref a :: st) := by
  intro ls H locs hl hP hz hf
  have hN := G.2.2.2.2.1.2.2.1
  exact W.objInit G.1 G.2.1 G.2.2.2.1 (va_any rfl (hN _ w1)) (va_any rfl (hN _ w2)) (va_any rfl (hN _ w3)) rfl (hl.1.trans G.2.2.1.symm) rfl d hfr (by show 2 * 0 + _ + 12 ≤ _; omega) (K ls H locs hl hP hz hf)
/-- what a call of y from own's pool wants of the tables; nest: the link is a nest mate's -/
def hw_C (own : String) (index : Nat) (y : MethodName) (bytes : ByteArray) (maxL : Nat) (ret : Option FieldType) (n : Nat) : Prop :=
  Cond.code y bytes maxL ret ∈ hw_TS ∧ Cond.initialized y.cls ∈ hw_TS ∧ (y.cls ≠ "java/lang/invoke/MethodHandle" ∧ y.cls ≠ "java/lang/invoke/VarHandle" ∧ (parseMethodDescriptor y.desc).map (fun d => d.parameters.length) = some n) ∧ (Cond.methodLink own index y ∈ hw_TS ∨ ∃ host : String, Cond.methodLinkNest own index y host ∈ hw_TS)
theorem hw_len {y : MethodName} {n : Nat} (h : (parseMethodDescriptor y.desc).map (fun d => d.parameters.length) = some n) : ∀ sig, parseMethodDescriptor y.desc = some sig → n = sig.parameters.length := fun sig h1 => by
  rw [h1] at h
  exact (Option.some.inj h).symm
theorem hw_codeW {s : State} {y : MethodName} {bytes : ByteArray} {maxL : Nat} {ret : Option FieldType} (h : va_Nw (Cond.code y bytes maxL ret) s) : ∀ w ∈ [Cond.code y bytes maxL ret], ∀ (a' : Array Value) (U : State), s.WarmedH U.vm → w.before a' U = true := fun w hw a' U hW => by
  rw [List.mem_singleton.mp hw]
  exact word_at (args := #[]) hW (Or.inl rfl) h
theorem hw_fr_up {locs : List Loc} (hf : hw_L B fr nb z locs) {q : Nat} (h : hw_fr B nb z q) : fr q := by
  rcases h with ⟨k, i, hi, rfl⟩ | h
  · exact hf.2.1 k i hi
  · exact hf.2.2 q h
theorem hw_Lcall {locs L' : List Loc} {nb' : Nat → Nat} {z' : Nat} (hf : hw_L B fr nb z locs) (hL : ∀ q ∈ L', hw_fr B nb z q.base) (h : hw_L B (hw_fr B nb z) nb' z' []) : hw_L B fr nb' z' (locs ++ L') :=
  ⟨fun q hq => by
    rcases List.mem_append.mp hq with h1 | h1
    · exact hf.1 q h1
    · exact hw_fr_up hf (hL q h1), fun k i hi => hw_fr_up hf (h.2.1 k i hi), fun q hq => hw_fr_up hf (h.2.2 q hq)⟩
/-- behind a call -/
theorem hw_after {mc ms : Nat} {H : Heap} {locs : List Loc} {ls : Array Slot} {st0 : List Value} {a : Array Value} (hr : va_Run X.1 X.2.1 X.2.2.1 (xR X) (xs X) (xm X) (xa X) (xb X) (xt X) (xc X) H locs c sl mc ms (F0 (xm X) pc ls st0) st (hw_Qc B (hw_fr B nb z) Post a) (hw_fr B nb z)) (hl : lv_has ls nL L) (hf : hw_L B fr nb z locs)
    (K : ∀ (r : Option Value) (nb' : Nat → Nat) (S' : hw_St) (z' : Nat), Post (.inl r) nb' S' z' → hw_V X B fr nb' S' z' (c + mc) (sl + ms) Q nL (pc + 3) L (r.toList ++ st)) : hw_W X H locs c sl Q (F0 (xm X) pc ls st0) := by
  intro T hT XX
  obtain ⟨v, st₀, t, T', L', h0, X', hL, e1, e2, ⟨oc, nb', S', hp, hP', ho, hL'⟩, hgo⟩ := hr T hT XX
  cases oc with
  | inr E =>
    obtain ⟨x, cell, hx, -⟩ := ho
    cases hx
  | inl r =>
    have hv : v = r := by
      have h9 : Outcome.returned v = Outcome.returned r := ho
      injection h9
    subst hv
    obtain ⟨t2, a1, b1⟩ := K v nb' S' _ hp ls T'.heap (locs ++ L') hl (by rw [e1]; exact hP') (by rw [e1]) (hw_Lcall hf hL hL') T' rfl X'
    exact ⟨t2, hgo t2 a1, b1⟩
theorem hr_callV (G : hw_G X B fr cc nL own) {k i index maxL n ci N : Nat} {T : u_T} {y : MethodName} {bytes : ByteArray} {ret : Option FieldType} {rm : Room} {As st0 : List Value} (hk : hw_kd k = .inl ci) (hct : vwCl[ci]? = some (y.cls, T, N)) (hi : i < nb k) (cw : hw_C own index y bytes maxL ret n) (w1 : Cond.instanceMethod y ∈ hw_TS) (w2 : Cond.selects y.cls y y ∈ hw_TS) (hM : hw_M X.2.1 y bytes maxL ret rm B (.ref (hw_a B k i) :: As) nb S z Post) (hn : As.length = n) (hst : st0 = As.reverse ++ .ref (hw_a B k i) :: st) (hW : (st.map fun v => v.category).sum ≤ 8) (hR : rm.frames + 1 ≤ (xR X).frames ∧ 8 + (maxL + 11) + rm.locals ≤ (xR X).locals) (hcs : c + rm.cells ≤ (xR X).cells ∧ sl + rm.slots ≤ (xR X).slots) (d : decode cc pc = .ok (.invokevirtual index, 3))
    (K : ∀ (r : Option Value) (nb' : Nat → Nat) (S' : hw_St) (z' : Nat), Post (.inl r) nb' S' z' → hw_V X B fr nb' S' z' (c + rm.cells) (sl + rm.slots) Q nL (pc + 3) L (r.toList ++ st)) : hw_V X B fr nb S z c sl Q nL pc L st0 := by
  intro ls H locs hl hP hz hf
  obtain ⟨c1, c2, c3, c4⟩ := cw
  have hN := G.2.2.2.2.1.2.2.1
  obtain ⟨r', hr', cellV, g1, g2, g3, -⟩ := (hw_cel_o hk).mp (hP.2.1 k i hi).2
  have hp : PreV (xs X) H y.cls (hw_a B k i) (hw_Pc B (.ref (hw_a B k i) :: As) nb S z) As := ⟨hw_blind, ⟨cellV, g1, by rw [g3]; rfl, by rw [g2]; exact (G.2.2.2.2.1.1 ci _ hct).2.1⟩, fun U hU hWU => ⟨rfl, hw_K.moved hWU G.2.2.2.2.1, by rw [hU]; exact hP, by rw [hU]; exact hz⟩⟩
  have hS : CallFix X.1 (xm X) (xc X) cc nL (xs X) (xa X) [] own := ⟨G.1, G.2.1, G.2.2.1, G.2.2.2.1, fun w hw => by cases hw⟩
  rcases c4 with c4 | ⟨host, c4⟩
  · exact hw_after (va_runV hS hM ⟨⟨rfl, rfl, hR.1, hR.2, hw_codeW (hN _ c1), List.mem_singleton.mpr rfl, va_any rfl (hN _ c1), va_any rfl (hN _ c2), ⟨c3.1, c3.2.1⟩, hw_len c3.2.2, va_any rfl (hN _ c4)⟩, va_any rfl (hN _ w1), va_any rfl (hN _ w2)⟩ hp rfl hn hl.1 hst (by show 2 * 0 + _ ≤ 8; omega) d hcs) hl hf K
  · exact hw_after (va_runVN hS hM ⟨⟨⟨rfl, rfl, hR.1, hR.2, hw_codeW (hN _ c1), List.mem_singleton.mpr rfl⟩, va_any rfl (hN _ c1), va_any rfl (hN _ c2), ⟨c3.1, c3.2.1⟩, hw_len c3.2.2, va_any rfl (hN _ c4)⟩, va_any rfl (hN _ w1), va_any rfl (hN _ w2)⟩ hp rfl hn hl.1 hst (by show 2 * 0 + _ ≤ 8; omega) d hcs) hl hf K
theorem hr_callS (G : hw_G X B fr cc nL own) {index maxL n : Nat} {y : MethodName} {bytes : ByteArray} {ret : Option FieldType} {rm : Room} {As st0 : List Value} (cw : hw_C own index y bytes maxL ret n) (w1 : Cond.static y ∈ hw_TS) (hM : hw_M X.2.1 y bytes maxL ret rm B As nb S z Post) (hn : As.length = n) (hst : st0 = As.reverse ++ st) (hW : (st.map fun v => v.category).sum ≤ 8) (hR : rm.frames + 1 ≤ (xR X).frames ∧ 8 + (maxL + 11) + rm.locals ≤ (xR X).locals) (hcs : c + rm.cells ≤ (xR X).cells ∧ sl + rm.slots ≤ (xR X).slots) (d : decode cc pc = .ok (.invokestatic index, 3))
    (K : ∀ (r : Option Value) (nb' : Nat → Nat) (S' : hw_St) (z' : Nat), Post (.inl r) nb' S' z' → hw_V X B fr nb' S' z' (c + rm.cells) (sl + rm.slots) Q nL (pc + 3) L (r.toList ++ st)) : hw_V X B fr nb S z c sl Q nL pc L st0 := by
  intro ls H locs hl hP hz hf
  obtain ⟨c1, c2, c3, c4⟩ := cw
  have hN := G.2.2.2.2.1.2.2.1
  have hp : PreS (xs X) H (hw_Pc B As nb S z) As := ⟨hw_blind, fun U hU hWU => ⟨rfl, hw_K.moved hWU G.2.2.2.2.1, by rw [hU]; exact hP, by rw [hU]; exact hz⟩⟩
  have hS : CallFix X.1 (xm X) (xc X) cc nL (xs X) (xa X) [] own := ⟨G.1, G.2.1, G.2.2.1, G.2.2.2.1, fun w hw => by cases hw⟩
  rcases c4 with c4 | ⟨host, c4⟩
  · exact hw_after (va_runS hS hM ⟨⟨rfl, rfl, hR.1, hR.2, hw_codeW (hN _ c1), List.mem_singleton.mpr rfl, va_any rfl (hN _ c1), va_any rfl (hN _ c2), ⟨c3.1, c3.2.1⟩, hw_len c3.2.2, va_any rfl (hN _ c4)⟩, va_any rfl (hN _ w1)⟩ hp rfl hn hl.1 hst (by show 2 * 0 + _ ≤ 8; omega) d hcs) hl hf K
  · exact hw_after (va_runSN hS hM ⟨⟨⟨rfl, rfl, hR.1, hR.2, hw_codeW (hN _ c1), List.mem_singleton.mpr rfl⟩, va_any rfl (hN _ c1), va_any rfl (hN _ c2), ⟨c3.1, c3.2.1⟩, hw_len c3.2.2, va_any rfl (hN _ c4)⟩, va_any rfl (hN _ w1), trivial⟩ hp rfl hn hl.1 hst (by show 2 * 0 + _ ≤ 8; omega) d hcs) hl hf K
theorem hr_callI (G : hw_G X B fr cc nL own) {k i index maxL n : Nat} {y : MethodName} {bytes : ByteArray} {rm : Room} {As st0 : List Value} (cw : hw_C own index y bytes maxL none n) (w1 : Cond.instanceMethod y ∈ hw_TS) (hy : y.name = "<init>") (hM : hw_M X.2.1 y bytes maxL none rm B (.ref (hw_a B k i) :: As) nb S z Post) (hn : As.length = n) (hst : st0 = As.reverse ++ .ref (hw_a B k i) :: st) (hW : (st.map fun v => v.category).sum ≤ 8) (hR : rm.frames + 1 ≤ (xR X).frames ∧ 8 + (maxL + 11) + rm.locals ≤ (xR X).locals) (hcs : c + rm.cells ≤ (xR X).cells ∧ sl + rm.slots ≤ (xR X).slots) (d : decode cc pc = .ok (.invokespecial index, 3))
    (K : ∀ (r : Option Value) (nb' : Nat → Nat) (S' : hw_St) (z' : Nat), Post (.inl r) nb' S' z' → hw_V X B fr nb' S' z' (c + rm.cells) (sl + rm.slots) Q nL (pc + 3) L (r.toList ++ st)) : hw_V X B fr nb S z c sl Q nL pc L st0 := by
  intro ls H locs hl hP hz hf
  obtain ⟨c1, c2, c3, c4⟩ := cw
  have hN := G.2.2.2.2.1.2.2.1
  have hp : PreS (xs X) H (hw_Pc B (.ref (hw_a B k i) :: As) nb S z) (.ref (hw_a B k i) :: As) := ⟨hw_blind, fun U hU hWU => ⟨rfl, hw_K.moved hWU G.2.2.2.2.1, by rw [hU]; exact hP, by rw [hU]; exact hz⟩⟩
  have hS : CallFix X.1 (xm X) (xc X) cc nL (xs X) (xa X) [] own := ⟨G.1, G.2.1, G.2.2.1, G.2.2.2.1, fun w hw => by cases hw⟩
  rcases c4 with c4 | ⟨host, c4⟩
  · exact hw_after (va_runI hS hM ⟨⟨rfl, rfl, hR.1, hR.2, hw_codeW (hN _ c1), List.mem_singleton.mpr rfl, va_any rfl (hN _ c1), va_any rfl (hN _ c2), ⟨c3.1, c3.2.1⟩, hw_len c3.2.2, va_any rfl (hN _ c4)⟩, hy, va_any rfl (hN _ w1)⟩ hp rfl hn hl.1 hst (by show 2 * 0 + _ ≤ 8; omega) d hcs) hl hf K
  · exact hw_after (va_runIN hS hM ⟨⟨⟨rfl, rfl, hR.1, hR.2, hw_codeW (hN _ c1), List.mem_singleton.mpr rfl⟩, va_any rfl (hN _ c1), va_any rfl (hN _ c2), ⟨c3.1, c3.2.1⟩, hw_len c3.2.2, va_any rfl (hN _ c4)⟩, hy, va_any rfl (hN _ w1)⟩ hp rfl hn hl.1 hst (by show 2 * 0 + _ ≤ 8; omega) d hcs) hl hf K
end HC
