/-! Methods that may throw, over the task's own rows on exceptions (00.vx): contract, throw, call, catch. -/
def hw_XC (B : hw_B) (fr : Nat → Prop) (Post : hw_T) : String → State → State → Prop := fun E _ t => ∃ (nb : Nat → Nat) (S : hw_St), Post (.inr E) nb S t.heap.size ∧ hw_P B nb S t.heap ∧ hw_L B fr nb t.heap.size []
def hw_MX (l : Launch) (y : MethodName) (cc : ByteArray) (nL : Nat) (ret : Option FieldType) (rm : Room) (B : hw_B) (av : List Value) (nb : Nat → Nat) (S : hw_St) (z : Nat) (Post : hw_T) : Prop :=
  vx_Met l y [.code y cc nL ret] rm (hw_Pc B av nb S z) (hw_Qc B (hw_fr B nb z) Post) (hw_XC B (hw_fr B nb z) Post) rm.cells rm.slots (hw_fr B nb z)
abbrev hw_QX (X : hw_X) (B : hw_B) (fr : Nat → Prop) (Post : hw_T) (mc ms : Nat) : State → Prop := vx_MQ (xb X) (hw_Qc B fr Post) (hw_XC B fr Post) (xa X) (xs X) mc ms fr
theorem hw_QX.of {X : hw_X} {B : hw_B} {fr : Nat → Prop} {Post : hw_T} {mc ms : Nat} (t : State) (h : hw_MQ X B fr Post mc ms t) : hw_QX X B fr Post mc ms t := by
  obtain ⟨o, h1, h2, h3, h4⟩ := h
  exact ⟨o, h1, h2, Or.inl ⟨h3, h4⟩⟩
theorem hw_MX.of {l : Launch} {y : MethodName} {cc : ByteArray} {nL : Nat} {ret : Option FieldType} {rm : Room} {B : hw_B} {av : List Value} {nb : Nat → Nat} {S : hw_St} {z : Nat} {Post : hw_T} (hy : plainName y.cls = true) (hA : (lg_sl av).length ≤ nL)
    (body : ∀ (X : hw_X) (fr : Nat → Prop), X.2.1 = l → xR X = rm → hw_G X B fr cc nL y.cls → (xt X).sig.returnType = ret → (∀ x ∈ (xc X).exceptionTable.toList, False) → hw_V X B fr nb S z 0 0 (hw_QX X B fr Post rm.cells rm.slots) nL 0 (lv_args 0 av) []) : hw_MX l y cc nL ret rm B av nb S z Post := by
  refine vx_ofW (cc := cc) (maxL := nL) (ret := ret) hy rfl ?_
  intro p e s m args below meth c s₁ Bd hml ht hv
  obtain ⟨rfl, hK, hP, hz⟩ := hv
  have hown : s.vm.findClass y.cls = some m.cls := findClass_of_methodNamed Bd.named
  have h := body (p, l, e, rm, s, m, av.toArray, below, meth, c) (hw_fr B nb z) rfl rfl ⟨Bd.exec, Bd.bytes, hml, hown, hK, Bd.notSynchronized, hw_nost hP hz, hw_frb hP hz, hP.1.2⟩ Bd.returns ht
  rw [lg_entry_eq]
  exact h _ _ [] (lv_entry av hA) hP hz hw_L0
theorem hw_P.old {B : hw_B} {nb : Nat → Nat} {S : hw_St} {H H1 : Heap} (h : hw_P B nb S H) (hle : H.size ≤ H1.size) (ho : ∀ q : Nat, q < H.size → H1[q]? = H[q]?) : hw_P B nb S H1 :=
  ⟨⟨Nat.le_trans h.1.1 hle, fun q hq => (ho q (Nat.lt_of_lt_of_le hq h.1.1)).trans (h.1.2 q hq)⟩, fun k i hi => ⟨(h.2.1 k i hi).1, (h.2.1 k i hi).2.kept (ho _ (h.2.1 k i hi).2.lt)⟩, h.2.2⟩
/-- a method with a table of its own -/
def hw_MW (l : Launch) (y : MethodName) (cc : ByteArray) (nL : Nat) (ret : Option FieldType) (hh : List (Nat × Nat × Nat × Nat)) (rm : Room) (B : hw_B) (av : List Value) (nb : Nat → Nat) (S : hw_St) (z : Nat) (Post : hw_T) : Prop :=
  Met l y [.codeWith y cc nL ret hh] rm (hw_Pc B av nb S z) (hw_Qc B (hw_fr B nb z) Post) rm.cells rm.slots (hw_fr B nb z)
theorem hw_MW.of {l : Launch} {y : MethodName} {cc : ByteArray} {nL : Nat} {ret : Option FieldType} {hh : List (Nat × Nat × Nat × Nat)} {rm : Room} {B : hw_B} {av : List Value} {nb : Nat → Nat} {S : hw_St} {z : Nat} {Post : hw_T} (hy : plainName y.cls = true) (hA : (lg_sl av).length ≤ nL)
    (body : ∀ (X : hw_X) (fr : Nat → Prop), X.2.1 = l → xR X = rm → hw_G X B fr cc nL y.cls → (xt X).sig.returnType = ret → (xc X).exceptionTable.toList = tableOf hh → hw_V X B fr nb S z 0 0 (hw_MQ X B fr Post rm.cells rm.slots) nL 0 (lv_args 0 av) []) : hw_MW l y cc nL ret hh rm B av nb S z Post := by
  refine va_MetW (cc := cc) (maxL := nL) (ret := ret) (hh := hh) hy rfl ?_
  intro p e s m args below meth c s₁ Bd hml hv
  obtain ⟨rfl, hK, hP, hz⟩ := hv
  have hown : s.vm.findClass y.cls = some m.cls := findClass_of_methodNamed Bd.named
  have htab := vx_table (x := y) Bd (atoms_spec (ws := [.codeWith y cc nL ret hh]) Bd.pre _ (List.mem_singleton.mpr rfl))
  have h := body (p, l, e, rm, s, m, av.toArray, below, meth, c) (hw_fr B nb z) rfl rfl ⟨Bd.exec, Bd.bytes, hml, hown, hK, Bd.notSynchronized, hw_nost hP hz, hw_frb hP hz, hP.1.2⟩ Bd.returns htab
  rw [lg_entry_eq]
  exact h _ _ [] (lv_entry av hA) hP hz hw_L0
section EY
variable {X : hw_X} {B : hw_B} {fr : Nat → Prop} {nb : Nat → Nat} {S : hw_St} {z c sl : Nat} {Q : State → Prop} {cc : ByteArray} {nL pc : Nat} {own : String} {L : List (Nat × Value)} {st : List Value} {Post : hw_T}
theorem hw_any {s : State} {w : Cond} {a' : Array Value} (hg : vx_ot w = true) (h : va_Nw w s) : w.before a' s = true := vx_ot_at (args := #[]) (State.WarmedH.refl s) rfl hg h
/-- throw new E("text") -/
theorem hr_throw (G : hw_G X B fr cc nL own) {E tx : String} {names : List String} {ik is ic mc ms : Nat} (hl0 : X.2.1.stackTraces = false) (htab : ∀ x ∈ (xc X).exceptionTable.toList, False) (hcls : Bundle.fit E = true) (hnames : ∀ n ∈ names, Bundle.fit n = true) (w1 : Cond.classLink own ik E ∈ hw_TS) (w3 : Cond.initialized E ∈ hw_TS) {si : Nat} (hstr : hw_strs[si]? = some (own, is, tx)) (hat : ∀ w ∈ vx_atS own ic E names, w ∈ hw_TS)
    (hgood : ∀ w ∈ Cond.classLink own ik E :: Cond.initialized E :: vx_atS own ic E names, vx_ot w = true)
    (d0 : decode cc pc = .ok (.new ik, 3)) (d3 : decode cc (pc + 3) = .ok (.dup, 1)) (d4 : decode cc (pc + 4) = .ok (.ldc is, 2)) (d6 : decode cc (pc + 6) = .ok (.invokespecial ic, 3)) (d9 : decode cc (pc + 9) = .ok (.athrow, 1))
    (hRf : names.length + 3 < (xR X).frames) (hRl : (st.map fun v => v.category).sum + (13 * (names.length + 1) + 43) ≤ (xR X).locals) (hRc : c + 1 ≤ (xR X).cells) (hRs : sl + 6 ≤ (xR X).slots) (hc : c + 1 ≤ mc) (hs : sl + 6 ≤ ms)
    (h : ∀ z', z ≤ z' → Post (.inr E) nb S z') : hw_V X B fr nb S z c sl (hw_QX X B fr Post mc ms) nL pc L st := by
  intro ls H locs hl hP hz hf T hT XX
  have hN := G.2.2.2.2.1.2.2.1
  have hZ := G.2.2.2.2.1.2.2.2
  obtain ⟨hR, -⟩ := hZ.2.2.1 _ _ hstr
  have hS : va_S (fun x => B.1 ≤ x) (xs X).heap H locs := ⟨by rw [← hT]; exact XX.same.2.1, fun q _ hq => by
    have hq' : q < B.1 := Nat.not_le.mp hq
    rw [hP.1.2 q hq', G.2.2.2.2.2.2.2.2 q hq'], fun l hl => G.2.2.2.2.2.2.2.1 _ (hf.1 l hl)⟩
  have kq : ∀ a : Nat, a < B.2.1.size → ¬ B.1 ≤ a → (xs X).heap[a]? = B.2.1[a]? := fun a _ ha => G.2.2.2.2.2.2.2.2 a (Nat.not_le.mp ha)
  exact vx_throwS (Qc := hw_Qc B fr Post) (XC := hw_XC B fr Post) (free := fr) (sa := hw_a B 60 si) (text := tx) G.1 G.2.1 hl0 G.2.2.2.1 hcls hnames (hw_any (hgood _ List.mem_cons_self) (hN _ w1)) (hw_any (hgood _ (List.mem_cons_of_mem _ List.mem_cons_self)) (hN _ w3)) hR (fun w hw => hw_any (hgood _ (List.mem_cons_of_mem _ (List.mem_cons_of_mem _ hw))) (hN _ (hat w hw))) hgood (hZ.1.1.kept kq) (hZ.1.2.kept kq) hS (hl.1.trans G.2.2.1.symm) d0 d3 d4 d6 d9 (fun x hx => (htab x hx).elim) hRf hRl hRc hRs G.2.2.2.2.2.1
    (fun t _ h1 h2 => ⟨nb, S, h _ (by rw [← hz]; exact h1), hP.old h1 h2, (fun q h => nomatch h), hf.2.1, fun q hq => hf.2.2 q (by rw [← hz]; exact Nat.le_trans h1 hq)⟩) hf.1 hc hs T hT XX
def hw_ctch (X : hw_X) (own E : String) (pc hpc : Nat) : Prop :=
  ∃ (pre : List ExceptionTableEntry) (x : ExceptionTableEntry) (suf : List ExceptionTableEntry) (nm : String), (xc X).exceptionTable.toList = pre ++ x :: suf ∧ (∀ y ∈ pre, y.catchType ≠ 0 ∧ E = "java/lang/IllegalStateException" ∧ Cond.classLink own y.catchType "java/lang/IllegalArgumentException" ∈ hw_TS) ∧ covers x pc = true ∧ x.catchType ≠ 0 ∧ x.handlerPc = hpc ∧ Cond.classLink own x.catchType nm ∈ hw_TS ∧ Cond.castable E nm ∈ hw_TS
/-- a call of a method that may throw, where this method's table takes what it throws -/
theorem hr_callX (G : hw_G X B fr cc nL own) {k i index maxL n ci N : Nat} {T0 : u_T} {y : MethodName} {bytes : ByteArray} {ret : Option FieldType} {rm : Room} {As st0 : List Value} (hk : hw_kd k = .inl ci) (hct : vwCl[ci]? = some (y.cls, T0, N)) (hi : i < nb k) (c1 : Cond.code y bytes maxL ret ∈ hw_TS) (c2 : Cond.initialized y.cls ∈ hw_TS) (c3 : y.cls ≠ "java/lang/invoke/MethodHandle" ∧ y.cls ≠ "java/lang/invoke/VarHandle" ∧ (parseMethodDescriptor y.desc).map (fun d => d.parameters.length) = some n) (c4 : Cond.methodLink own index y ∈ hw_TS) (w1 : Cond.instanceMethod y ∈ hw_TS) (w2 : Cond.selects y.cls y y ∈ hw_TS)
    (hM : hw_MX X.2.1 y bytes maxL ret rm B (.ref (hw_a B k i) :: As) nb S z Post) (hn : As.length = n) (hst : st0 = As.reverse ++ .ref (hw_a B k i) :: st) (hW : (st.map fun v => v.category).sum ≤ 8) (hR : rm.frames + 1 ≤ (xR X).frames ∧ 8 + (maxL + 11) + rm.locals ≤ (xR X).locals) (hcs : c + rm.cells ≤ (xR X).cells ∧ sl + rm.slots ≤ (xR X).slots) (d : decode cc pc = .ok (.invokevirtual index, 3))
    (K : ∀ (r : Option Value) (nb' : Nat → Nat) (S' : hw_St) (z' : Nat), Post (.inl r) nb' S' z' → hw_V X B fr nb' S' z' (c + rm.cells) (sl + rm.slots) Q nL (pc + 3) L (r.toList ++ st))
    (KX : ∀ (E : String) (x : Nat) (nb' : Nat → Nat) (S' : hw_St) (z' : Nat), Post (.inr E) nb' S' z' → ∃ hpc, hw_ctch X own E pc hpc ∧ hw_V X B fr nb' S' z' (c + rm.cells) (sl + rm.slots) Q nL hpc L [.ref x]) : hw_V X B fr nb S z c sl Q nL pc L st0 := by
  intro ls H locs hl hP hz hf
  have hN := G.2.2.2.2.1.2.2.1
  obtain ⟨r', hr', cellV, g1, g2, g3, -⟩ := (hw_cel_o hk).mp (hP.2.1 k i hi).2
  have hp : PreV (xs X) H y.cls (hw_a B k i) (hw_Pc B (.ref (hw_a B k i) :: As) nb S z) As := ⟨hw_blind, ⟨cellV, g1, by rw [g3]; rfl, by rw [g2]; exact (G.2.2.2.2.1.1 ci _ hct).2.1⟩, fun U hU hWU => ⟨rfl, hw_K.moved hWU G.2.2.2.2.1, by rw [hU]; exact hP, by rw [hU]; exact hz⟩⟩
  have hS : CallFix X.1 (xm X) (xc X) cc nL (xs X) (xa X) [] own := ⟨G.1, G.2.1, G.2.2.1, G.2.2.2.1, fun w hw => nomatch hw⟩
  have hr := vx_runV (p := X.1) (e := X.2.2.1) (below := xb X) (meth := xt X) (locs := locs) (cells := c) (slots := sl) (g := F0 (xm X) pc ls st0) (rest := st) hS hM ⟨⟨rfl, rfl, hR.1, hR.2, hw_codeW (hN _ c1), List.mem_singleton.mpr rfl, va_any rfl (hN _ c1), va_any rfl (hN _ c2), ⟨c3.1, c3.2.1⟩, hw_len c3.2.2, va_any rfl (hN _ c4)⟩, va_any rfl (hN _ w1), va_any rfl (hN _ w2)⟩ hp rfl hn hl.1 hst (by show 2 * 0 + _ ≤ 8; omega) d hcs
  intro T hT XX
  rcases hr T hT XX with ⟨v, st₀, t, T', L', h0, X', hL, e1, e2, ⟨oc, nb', S', hpp, hP', ho, hL'⟩, hgo⟩ | ⟨q, st₀, t, T', L', E, ce, h0, X', hL, e1, e2, ⟨nb', S', hpp, hP', hL'⟩, hce, hcv, hcl, hgo⟩
  · cases oc with
    | inr E =>
      obtain ⟨x, cell, hx, -⟩ := ho
      cases hx
    | inl r =>
      have hv : v = r := by
        have h9 : Outcome.returned v = Outcome.returned r := ho
        injection h9
      subst hv
      obtain ⟨t2, a1, b1⟩ := K v nb' S' _ hpp ls T'.heap (locs ++ L') hl (by rw [e1]; exact hP') (by rw [e1]) (hw_Lcall hf hL hL') T' rfl X'
      exact ⟨t2, hgo t2 a1, b1⟩
  · obtain ⟨hpc, ⟨pre, x, suf, nm, t1, t2, t3, t4, t5, t6, t7⟩, hV⟩ := KX E q nb' S' _ hpp
    subst t5
    have w := vx_catch (p := X.1) (l := X.2.1) (e := X.2.2.1) (R := xR X) (s := xs X) (m := xm X) (args := xa X) (below := xb X) (meth := xt X) (c := xc X) (H := T'.heap) (locs := locs ++ L') (cells := c + rm.cells) (slots := sl + rm.slots) (Q := Q) (pc := pc) (ls := ls) (rest := st) (own := own) (name := nm) (E := E) (ce := ce) (q := q) G.2.2.2.1 pre x suf t1 (fun y hy => by
      obtain ⟨u1, u2, u3⟩ := t2 y hy
      subst u2
      exact Or.inr ⟨u1, _, va_any rfl (hN _ u3), G.2.2.2.2.1.2.2.2.2.1⟩) t3 t4 (va_any rfl (hN _ t6)) (va_any rfl (hN _ t7)) (by rw [e1]; exact hce) hcv hcl (hV ls T'.heap (locs ++ L') hl (by rw [e1]; exact hP') (by rw [e1]) (hw_Lcall hf hL hL'))
    obtain ⟨t2, a1, b1⟩ := w T' rfl X'
    exact ⟨t2, hgo.trans a1, b1⟩
theorem hr_callW (G : hw_G X B fr cc nL own) {index maxL n : Nat} {y : MethodName} {bytes : ByteArray} {ret : Option FieldType} {hh : List (Nat × Nat × Nat × Nat)} {rm : Room} {As st0 : List Value} (c1 : Cond.codeWith y bytes maxL ret hh ∈ hw_TS) (c2 : Cond.initialized y.cls ∈ hw_TS) (c3 : y.cls ≠ "java/lang/invoke/MethodHandle" ∧ y.cls ≠ "java/lang/invoke/VarHandle" ∧ (parseMethodDescriptor y.desc).map (fun d => d.parameters.length) = some n) (c4 : Cond.methodLink own index y ∈ hw_TS) (w1 : Cond.static y ∈ hw_TS) (hM : hw_MW X.2.1 y bytes maxL ret hh rm B As nb S z Post) (hn : As.length = n) (hst : st0 = As.reverse ++ st) (hW : (st.map fun v => v.category).sum ≤ 8) (hR : rm.frames + 1 ≤ (xR X).frames ∧ 8 + (maxL + 11) + rm.locals ≤ (xR X).locals) (hcs : c + rm.cells ≤ (xR X).cells ∧ sl + rm.slots ≤ (xR X).slots) (d : decode cc pc = .ok (.invokestatic index, 3))
    (K : ∀ (r : Option Value) (nb' : Nat → Nat) (S' : hw_St) (z' : Nat), Post (.inl r) nb' S' z' → hw_V X B fr nb' S' z' (c + rm.cells) (sl + rm.slots) Q nL (pc + 3) L (r.toList ++ st)) : hw_V X B fr nb S z c sl Q nL pc L st0 := by
  intro ls H locs hl hP hz hf
  have hN := G.2.2.2.2.1.2.2.1
  have hp : PreS (xs X) H (hw_Pc B As nb S z) As := ⟨hw_blind, fun U hU hWU => ⟨rfl, hw_K.moved hWU G.2.2.2.2.1, by rw [hU]; exact hP, by rw [hU]; exact hz⟩⟩
  have hS : CallFix X.1 (xm X) (xc X) cc nL (xs X) (xa X) [] own := ⟨G.1, G.2.1, G.2.2.1, G.2.2.2.1, fun w hw => nomatch hw⟩
  exact hw_after (vx_runSW hS hM ⟨⟨rfl, rfl, hR.1, hR.2, fun w hw a' U hWU => by rw [List.mem_singleton.mp hw]; exact word_at (args := #[]) hWU (Or.inl rfl) (hN _ c1), List.mem_singleton.mpr rfl⟩, va_any rfl (hN _ c1), va_any rfl (hN _ c2), ⟨c3.1, c3.2.1⟩, hw_len c3.2.2, va_any rfl (hN _ c4), va_any rfl (hN _ w1)⟩ hp rfl hn hl.1 hst (by show 2 * 0 + _ ≤ 8; omega) d hcs) hl hf K
end EY
