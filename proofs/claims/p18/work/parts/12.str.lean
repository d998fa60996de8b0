/-! String constants and statics in the old heap. -/
section HS
variable {X : hw_X} {B : hw_B} {fr : Nat → Prop} {nb nb2 : Nat → Nat} {S S2 : hw_St} {z z2 c sl : Nat} {Q : State → Prop} {cc : ByteArray} {nL pc : Nat} {own : String} {L : List (Nat × Value)} {st : List Value}
theorem hw_vS (G : hw_G X B fr cc nL own) {H : Heap} {locs : List Loc} {T : State} (hP : hw_P B nb S H) (hf : hw_L B fr nb z locs) (hT : T.heap = H) (XX : Stand X.1 X.2.1 X.2.2.1 (xR X) (xs X) (xm X) (xa X) (xb X) (xt X) (xc X) T locs c sl) : va_S (fun x => B.1 ≤ x) (xs X).heap H locs := ⟨by rw [← hT]; exact XX.same.2.1, fun q _ hq => by
    have hq' : q < B.1 := Nat.not_le.mp hq
    rw [hP.1.2 q hq', G.2.2.2.2.2.2.2.2 q hq'], fun l hl => G.2.2.2.2.2.2.2.1 _ (hf.1 l hl)⟩
theorem hw_kq (G : hw_G X B fr cc nL own) : ∀ a : Nat, a < B.2.1.size → ¬ B.1 ≤ a → (xs X).heap[a]? = B.2.1[a]? := fun a _ ha => G.2.2.2.2.2.2.2.2 a (Nat.not_le.mp ha)
theorem hr_gets (G : hw_G X B fr cc nL own) {index : Nat} {C n d : String} {v : Value} (hZ : va_Z C n d v (fun x => B.1 ≤ x) (xs X) B.2.1) (w : Cond.fieldLink own index C n d ∈ hw_TS) (dd : decode cc pc = .ok (.getstatic index, 3)) (K : hw_V X B fr nb S z c sl Q nL (pc + 3) L (v :: st)) : hw_V X B fr nb S z c sl Q nL pc L st := by
  intro ls H locs hl hP hz hf T hT XX
  exact va_gets G.1 G.2.1 (hZ.kept (hw_kq G)) (hw_vS G hP hf hT XX) G.2.2.2.1 (va_any rfl (G.2.2.2.2.1.2.2.1 _ w)) (fun _ h => h) dd (K ls H locs hl hP hz hf) T hT XX
theorem hr_getsq (G : hw_G X B fr cc nL own) {index : Nat} {C n d : String} (hZ : va_Zq C n d (fun x => B.1 ≤ x) (xs X) B.2.1) (w : Cond.fieldLink own index C n d ∈ hw_TS) (dd : decode cc pc = .ok (.getstatic index, 3)) (K : ∀ r : Option Nat, hw_V X B fr nb S z c sl Q nL (pc + 3) L (va_rf r :: st)) : hw_V X B fr nb S z c sl Q nL pc L st := by
  rcases hZ with h | ⟨t, h⟩
  · exact hr_gets G h w dd (K none)
  · exact hr_gets G h w dd (K (some t))
theorem hr_getO (G : hw_G X B fr cc nL own) {a index : Nat} {C n d : String} {v : Value} (h : va_OF C n d v a (fun x => B.1 ≤ x) (xs X) B.2.1) (w : Cond.fieldLink own index C n d ∈ hw_TS) (dd : decode cc pc = .ok (.getfield index, 3)) (K : hw_V X B fr nb S z c sl Q nL (pc + 3) L (v :: st)) : hw_V X B fr nb S z c sl Q nL pc L (.ref a :: st) := by
  intro ls H locs hl hP hz hf T hT XX
  exact va_getX (N := 1) (i := 0) (v := fun _ => v) (ad := fun _ => a) G.1 G.2.1 (fun i hi => h.kept (hw_kq G)) (by decide) (hw_vS G hP hf hT XX) G.2.2.2.1 (va_any rfl (G.2.2.2.2.1.2.2.1 _ w)) (fun _ h => h) dd (K ls H locs hl hP hz hf) T hT XX
theorem hr_tlen (G : hw_G X B fr cc nL own) {t N : Nat} {f : Nat → Value} (h : va_T .byte t N f (fun x => B.1 ≤ x) (xs X) B.2.1) (dd : decode cc pc = .ok (.arraylength, 1)) (K : hw_V X B fr nb S z c sl Q nL (pc + 1) L (.int (nI N) :: st)) : hw_V X B fr nb S z c sl Q nL pc L (.ref t :: st) := by
  intro ls H locs hl hP hz hf T hT XX
  exact va_tlen G.1 G.2.1 (h.kept (hw_kq G)) (hw_vS G hP hf hT XX) rfl dd (K ls H locs hl hP hz hf) T hT XX
theorem hr_tb (G : hw_G X B fr cc nL own) {t N j : Nat} {f : Nat → Int32} {x : Int32} (h : va_T .byte t N (fun j => .int (f j)) (fun x => B.1 ≤ x) (xs X) B.2.1) (hx : x = nI j) (hj : j < N) (hN : N < 2 ^ 31) (dd : decode cc pc = .ok (.baload, 1)) (K : hw_V X B fr nb S z c sl Q nL (pc + 1) L (.int (f j) :: st)) : hw_V X B fr nb S z c sl Q nL pc L (.int x :: .ref t :: st) := by
  intro ls H locs hl hP hz hf T hT XX
  subst hx
  exact va_tb G.1 G.2.1 (h.kept (hw_kq G)) (hw_vS G hP hf hT XX) (vp_in_nI hj hN) (by rw [nI_clamp (by omega)]) dd (K ls H locs hl hP hz hf) T hT XX
theorem hr_callO (G : hw_G X B fr cc nL own) {a index maxL n : Nat} {y : MethodName} {bytes : ByteArray} {ret : Option FieldType} {rm : Room} {As st0 : List Value} {v : Value} (hO : va_O y.cls a (fun x => B.1 ≤ x) (xs X) B.2.1) (cw : hw_C own index y bytes maxL ret n) (w1 : Cond.instanceMethod y ∈ hw_TS) (w2 : Cond.selects y.cls y y ∈ hw_TS) (hM : hw_M X.2.1 y bytes maxL ret rm B (.ref a :: As) nb S z (hw_p (.inl (some v)) nb2 S2 z2)) (hn : As.length = n) (hst : st0 = As.reverse ++ .ref a :: st) (hW : (st.map fun v => v.category).sum ≤ 8) (hR : rm.frames + 1 ≤ (xR X).frames ∧ 8 + (maxL + 11) + rm.locals ≤ (xR X).locals) (hcs : c + rm.cells ≤ (xR X).cells ∧ sl + rm.slots ≤ (xR X).slots) (d : decode cc pc = .ok (.invokevirtual index, 3))
    (K : hw_V X B fr nb2 S2 z2 (c + rm.cells) (sl + rm.slots) Q nL (pc + 3) L (v :: st)) : hw_V X B fr nb S z c sl Q nL pc L st0 := by
  intro ls H locs hl hP hz hf
  obtain ⟨c1, c2, c3, c4⟩ := cw
  have hN := G.2.2.2.2.1.2.2.1
  obtain ⟨cellV, g1, g2, g3, g4⟩ := hO
  have hp : PreV (xs X) H y.cls a (hw_Pc B (.ref a :: As) nb S z) As := ⟨hw_blind, ⟨cellV, (hP.1.2 a (Nat.not_le.mp g4)).trans g1, g2, g3⟩, fun U hU hWU => ⟨rfl, hw_K.moved hWU G.2.2.2.2.1, by rw [hU]; exact hP, by rw [hU]; exact hz⟩⟩
  have hS : CallFix X.1 (xm X) (xc X) cc nL (xs X) (xa X) [] own := ⟨G.1, G.2.1, G.2.2.1, G.2.2.2.1, fun w hw => by cases hw⟩
  have K' : ∀ (r : Option Value) (nb' : Nat → Nat) (S' : hw_St) (z' : Nat), hw_p (.inl (some v)) nb2 S2 z2 (.inl r) nb' S' z' → hw_V X B fr nb' S' z' (c + rm.cells) (sl + rm.slots) Q nL (pc + 3) L (r.toList ++ st) := fun r nb' S' z' hp => by
    obtain ⟨h1, rfl, rfl, rfl⟩ := hp
    have h2 := Sum.inl.inj h1
    subst h2
    exact K
  rcases c4 with c4 | ⟨host, c4⟩
  · exact hw_after (va_runV hS hM ⟨⟨rfl, rfl, hR.1, hR.2, hw_codeW (hN _ c1), List.mem_singleton.mpr rfl, va_any rfl (hN _ c1), va_any rfl (hN _ c2), ⟨c3.1, c3.2.1⟩, hw_len c3.2.2, va_any rfl (hN _ c4)⟩, va_any rfl (hN _ w1), va_any rfl (hN _ w2)⟩ hp rfl hn hl.1 hst (by show 2 * 0 + _ ≤ 8; omega) d hcs) hl hf K'
  · exact hw_after (va_runVN hS hM ⟨⟨⟨rfl, rfl, hR.1, hR.2, hw_codeW (hN _ c1), List.mem_singleton.mpr rfl⟩, va_any rfl (hN _ c1), va_any rfl (hN _ c2), ⟨c3.1, c3.2.1⟩, hw_len c3.2.2, va_any rfl (hN _ c4)⟩, va_any rfl (hN _ w1), va_any rfl (hN _ w2)⟩ hp rfl hn hl.1 hst (by show 2 * 0 + _ ≤ 8; omega) d hcs) hl hf K'
end HS
theorem hw_M.ofF {l : Launch} {y : MethodName} {cc : ByteArray} {nL : Nat} {ret : Option FieldType} {rm : Room} {B : hw_B} {av : List Value} {nb : Nat → Nat} {S : hw_St} {z : Nat} {Post : hw_T} (hy : plainFor y = true) (hA : (lg_sl av).length ≤ nL)
    (body : ∀ (X : hw_X) (fr : Nat → Prop), X.2.1 = l → xR X = rm → hw_G X B fr cc nL y.cls → (xt X).sig.returnType = ret → (xt X).name = y.name → hw_V X B fr nb S z 0 0 (hw_MQ X B fr Post rm.cells rm.slots) nL 0 (lv_args 0 av) []) : hw_M l y cc nL ret rm B av nb S z Post := by
  refine va_MetF (cc := cc) (maxL := nL) (ret := ret) hy rfl ?_
  intro p e s m args below meth c s₁ Bd hml hv
  obtain ⟨rfl, hK, hP, hz⟩ := hv
  have hown : s.vm.findClass y.cls = some m.cls := findClass_of_methodNamed Bd.named
  have h := body (p, l, e, rm, s, m, av.toArray, below, meth, c) (hw_fr B nb z) rfl rfl ⟨Bd.exec, Bd.bytes, hml, hown, hK, Bd.notSynchronized, hw_nost hP hz, hw_frb hP hz, hP.1.2⟩ Bd.returns (name_of_methodNamed Bd.named Bd.method).1
  rw [lg_entry_eq]
  exact h _ _ [] (lv_entry av hA) hP hz hw_L0
theorem hw_M.mono {l : Launch} {y : MethodName} {cc : ByteArray} {nL : Nat} {ret : Option FieldType} {rm : Room} {B : hw_B} {av : List Value} {nb : Nat → Nat} {S : hw_St} {z : Nat} {P P' : hw_T} (h : hw_M l y cc nL ret rm B av nb S z P) (hP : ∀ oc nb' S' z', P oc nb' S' z' → P' oc nb' S' z') : hw_M l y cc nL ret rm B av nb S z P' := by
  intro p e ha hc hk s m args below h1 h2 h3 h4
  obtain ⟨n, o, g1, g2, g3, ⟨oc, nb', S', q1, q2, q3, q4⟩, g5⟩ := h p e ha hc hk s m args below h1 h2 h3 h4
  exact ⟨n, o, g1, g2, g3, ⟨oc, nb', S', hP _ _ _ _ q1, q2, q3, q4⟩, g5⟩
