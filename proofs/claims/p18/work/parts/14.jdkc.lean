/-! Contracts of the JDK's methods on String constants. -/
theorem hw_sln_lt (i : Nat) : hw_sln i < 2 ^ 31 := by
  unfold hw_sln
  split <;> decide
def ib_c (x : Int32) : Prop := narrow .char (.int x) = .int x
/-- some char; nothing else has changed -/
def hw_pc (nb : Nat → Nat) (S : hw_St) (z : Nat) : hw_T := fun oc nb' S' z' => (∃ r : Int32, oc = .inl (some (.int r)) ∧ ib_c r) ∧ nb' = nb ∧ S' = S ∧ z' = z
theorem hr_callOc {X : hw_X} {B : hw_B} {fr : Nat → Prop} {nb : Nat → Nat} {S : hw_St} {z c sl : Nat} {Q : State → Prop} {cc : ByteArray} {nL pc : Nat} {own : String} {L : List (Nat × Value)} {st : List Value} (G : hw_G X B fr cc nL own) {a index maxL n : Nat} {y : MethodName} {bytes : ByteArray} {ret : Option FieldType} {rm : Room} {As st0 : List Value} (hO : va_O y.cls a (fun x => B.1 ≤ x) (xs X) B.2.1) (cw : hw_C own index y bytes maxL ret n) (w1 : Cond.instanceMethod y ∈ hw_TS) (w2 : Cond.selects y.cls y y ∈ hw_TS) (hM : hw_M X.2.1 y bytes maxL ret rm B (.ref a :: As) nb S z (hw_pc nb S z)) (hn : As.length = n) (hst : st0 = As.reverse ++ .ref a :: st) (hW : (st.map fun v => v.category).sum ≤ 8) (hR : rm.frames + 1 ≤ (xR X).frames ∧ 8 + (maxL + 11) + rm.locals ≤ (xR X).locals) (hcs : c + rm.cells ≤ (xR X).cells ∧ sl + rm.slots ≤ (xR X).slots) (d : decode cc pc = .ok (.invokevirtual index, 3))
    (K : ∀ r : Int32, ib_c r → hw_V X B fr nb S z (c + rm.cells) (sl + rm.slots) Q nL (pc + 3) L (.int r :: st)) : hw_V X B fr nb S z c sl Q nL pc L st0 := by
  intro ls H locs hl hP hz hf
  obtain ⟨c1, c2, c3, c4⟩ := cw
  have hN := G.2.2.2.2.1.2.2.1
  obtain ⟨cellV, g1, g2, g3, g4⟩ := hO
  have hp : PreV (xs X) H y.cls a (hw_Pc B (.ref a :: As) nb S z) As := ⟨hw_blind, ⟨cellV, (hP.1.2 a (Nat.not_le.mp g4)).trans g1, g2, g3⟩, fun U hU hWU => ⟨rfl, hw_K.moved hWU G.2.2.2.2.1, by rw [hU]; exact hP, by rw [hU]; exact hz⟩⟩
  have hS : CallFix X.1 (xm X) (xc X) cc nL (xs X) (xa X) [] own := ⟨G.1, G.2.1, G.2.2.1, G.2.2.2.1, fun w hw => by cases hw⟩
  have K' : ∀ (r : Option Value) (nb' : Nat → Nat) (S' : hw_St) (z' : Nat), hw_pc nb S z (.inl r) nb' S' z' → hw_V X B fr nb' S' z' (c + rm.cells) (sl + rm.slots) Q nL (pc + 3) L (r.toList ++ st) := fun r nb' S' z' hp => by
    obtain ⟨⟨x, h1, hx⟩, rfl, rfl, rfl⟩ := hp
    have h2 := Sum.inl.inj h1
    subst h2
    exact K x hx
  rcases c4 with c4 | ⟨host, c4⟩
  · exact hw_after (va_runV hS hM ⟨⟨rfl, rfl, hR.1, hR.2, hw_codeW (hN _ c1), List.mem_singleton.mpr rfl, va_any rfl (hN _ c1), va_any rfl (hN _ c2), ⟨c3.1, c3.2.1⟩, hw_len c3.2.2, va_any rfl (hN _ c4)⟩, va_any rfl (hN _ w1), va_any rfl (hN _ w2)⟩ hp rfl hn hl.1 hst (by show 2 * 0 + _ ≤ 8; omega) d hcs) hl hf K'
  · exact hw_after (va_runVN hS hM ⟨⟨⟨rfl, rfl, hR.1, hR.2, hw_codeW (hN _ c1), List.mem_singleton.mpr rfl⟩, va_any rfl (hN _ c1), va_any rfl (hN _ c2), ⟨c3.1, c3.2.1⟩, hw_len c3.2.2, va_any rfl (hN _ c4)⟩, va_any rfl (hN _ w1), va_any rfl (hN _ w2)⟩ hp rfl hn hl.1 hst (by show 2 * 0 + _ ≤ 8; omega) d hcs) hl hf K'
theorem hw_strK {X : hw_X} {B : hw_B} {fr : Nat → Prop} {cc : ByteArray} {nL : Nat} {own : String} (G : hw_G X B fr cc nL own) {i : Nat} {q : String × Nat × String} (hq : hw_strs[i]? = some q) : hw_sc B i q (xs X) := G.2.2.2.2.1.2.2.2.2.2.1 i q hq
theorem m_Jp_checkIndex (l : Launch) (B : hw_B) (nb : Nat → Nat) (S : hw_St) (z : Nat) (i n : Nat) (r : Option Nat) (hi : i < n) (hn : n < 2 ^ 31) : hw_M l yJp_checkIndex cJp_checkIndex 3 (some .int) ({ frames := 0, cells := 0, slots := 0, locals := 0 }) B [.int (nI i), .int (nI n), va_rf r] nb S z (hw_p (.inl (some (.int (nI i)))) nb S z) := by
  cases r <;>
  · refine hw_M.ofF (by decide +kernel) (Nat.le_of_ble_eq_true rfl) ?_
    intro X fr hl hR G hr hnm
    refine hr_iload_n G dJp_checkIndex_0 rfl rfl ?_
    refine hr_if_lt (tgt := 9) G dJp_checkIndex_1 (by decide) (fun h => absurd h (nI_pos (by omega))) (fun _ => ?_)
    refine hr_iload_n G dJp_checkIndex_4 rfl rfl ?_
    refine hr_iload_n G dJp_checkIndex_5 rfl rfl ?_
    refine hr_icmp_lt (tgt := 16) G dJp_checkIndex_6 (by decide) (fun _ => ?_) (fun h => absurd (nI_lt hi hn) h)
    refine hr_iload_n G dJp_checkIndex_16 rfl rfl ?_
    exact hr_iret G hr (fun _ h => h) dJp_checkIndex_17 hw_pi
theorem m_Js_checkIndex (l : Launch) (B : hw_B) (nb : Nat → Nat) (S : hw_St) (z : Nat) (i n : Nat) (hi : i < n) (hn : n < 2 ^ 31) : hw_M l yJs_checkIndex cJs_checkIndex 2 none ({ frames := 1, cells := 0, slots := 0, locals := 22 }) B [.int (nI i), .int (nI n)] nb S z (hw_p (.inl none) nb S z) := by
  refine hw_M.ofF (by decide +kernel) (Nat.le_of_ble_eq_true rfl) ?_
  intro X fr hl hR G hr hnm
  refine hr_iload_n G dJs_checkIndex_0 rfl rfl ?_
  refine hr_iload_n G dJs_checkIndex_1 rfl rfl ?_
  refine hr_getsq G G.2.2.2.2.1.2.2.2.2.2.2.2 xf_fmt dJs_checkIndex_2 (fun r => ?_)
  refine hr_callSs G xJs_1059 sJp_checkIndex (m_Jp_checkIndex _ _ _ _ _ i n r hi hn) rfl rfl (by decide) ⟨by rw [hR]; decide, by rw [hR]; decide⟩ ⟨by rw [hR]; decide, by rw [hR]; decide⟩ dJs_checkIndex_5 ?_
  refine hr_pop G dJs_checkIndex_8 rfl ?_
  exact hr_vret G hr (fun _ h => h) dJs_checkIndex_9 hw_pi
theorem m_Jl_charAt (l : Launch) (B : hw_B) (nb : Nat → Nat) (S : hw_St) (z : Nat) (i j : Nat) (q : String × Nat × String) (hq : hw_strs[i]? = some q) (hj : j < hw_sln i) : hw_M l yJl_charAt cJl_charAt 2 (some .char) ({ frames := 2, cells := 0, slots := 0, locals := 43 }) B [.ref (hw_a B 61 i), .int (nI j)] nb S z (hw_pc nb S z) := by
  refine hw_M.ofF (by decide +kernel) (Nat.le_of_ble_eq_true rfl) ?_
  intro X fr hl hR G hr hnm
  obtain ⟨f, hT⟩ := (hw_strK G hq).2.2.2.2
  refine hr_iload_n G dJl_charAt_0 rfl rfl ?_
  refine hr_aload_n G dJl_charAt_1 rfl rfl ?_
  refine hr_tlen G hT dJl_charAt_2 ?_
  refine hr_callSn G xJl_9 sJs_checkIndex (m_Js_checkIndex _ _ _ _ _ j (hw_sln i) hj (hw_sln_lt i)) rfl rfl (by decide) ⟨by rw [hR]; decide, by rw [hR]; decide⟩ ⟨by rw [hR]; decide, by rw [hR]; decide⟩ dJl_charAt_3 ?_
  refine hr_aload_n G dJl_charAt_6 rfl rfl ?_
  refine hr_iload_n G dJl_charAt_7 rfl rfl ?_
  refine hr_tb G hT rfl hj (hw_sln_lt i) dJl_charAt_8 ?_
  refine hr_sipush (v := 255) G dJl_charAt_9 (by decide) ?_
  refine hr_iand G dJl_charAt_12 ?_
  refine hr_i2c G dJl_charAt_13 ?_
  exact hr_zret G hr (pk_nc _) (fun _ h => h) dJl_charAt_14 ⟨⟨_, rfl, pk_nc _⟩, rfl, rfl, rfl⟩
theorem m_Js_isLatin1 (l : Launch) (B : hw_B) (nb : Nat → Nat) (S : hw_St) (z : Nat) (i : Nat) (q : String × Nat × String) (hq : hw_strs[i]? = some q) : hw_M l yJs_isLatin1 cJs_isLatin1 1 (some .boolean) ({ frames := 0, cells := 0, slots := 0, locals := 0 }) B [.ref (hw_a B 60 i)] nb S z (hw_p (.inl (some (.int 1))) nb S z) := by
  refine hw_M.ofF (by decide +kernel) (Nat.le_of_ble_eq_true rfl) ?_
  intro X fr hl hR G hr hnm
  refine hr_gets G G.2.2.2.2.1.2.2.2.2.2.2.1 xf_comp dJs_isLatin1_0 ?_
  refine hr_if_eq (tgt := 17) G dJs_isLatin1_3 (by decide) (fun h => absurd h (by decide)) (fun _ => ?_)
  refine hr_aload_n G dJs_isLatin1_6 rfl rfl ?_
  refine hr_getO G (hw_strK G hq).2.2.1 xf_coder dJs_isLatin1_7 ?_
  refine hr_if_ne (tgt := 17) G dJs_isLatin1_10 (by decide) (fun h => absurd rfl h) (fun _ => ?_)
  refine hr_iconst (v := 1) G dJs_isLatin1_13 (by decide) ?_
  refine hr_goto (tgt := 18) G dJs_isLatin1_14 (by decide) ?_
  exact hr_zret G hr rfl (fun _ h => h) dJs_isLatin1_18 hw_pi
theorem m_Js_coder (l : Launch) (B : hw_B) (nb : Nat → Nat) (S : hw_St) (z : Nat) (i : Nat) (q : String × Nat × String) (hq : hw_strs[i]? = some q) : hw_M l yJs_coder cJs_coder 1 (some .byte) ({ frames := 0, cells := 0, slots := 0, locals := 0 }) B [.ref (hw_a B 60 i)] nb S z (hw_p (.inl (some (.int 0))) nb S z) := by
  refine hw_M.ofF (by decide +kernel) (Nat.le_of_ble_eq_true rfl) ?_
  intro X fr hl hR G hr hnm
  refine hr_gets G G.2.2.2.2.1.2.2.2.2.2.2.1 xf_comp dJs_coder_0 ?_
  refine hr_if_eq (tgt := 13) G dJs_coder_3 (by decide) (fun h => absurd h (by decide)) (fun _ => ?_)
  refine hr_aload_n G dJs_coder_6 rfl rfl ?_
  refine hr_getO G (hw_strK G hq).2.2.1 xf_coder dJs_coder_7 ?_
  refine hr_goto (tgt := 14) G dJs_coder_10 (by decide) ?_
  exact hr_zret G hr rfl (fun _ h => h) dJs_coder_14 hw_pi
theorem m_Js_length (l : Launch) (B : hw_B) (nb : Nat → Nat) (S : hw_St) (z : Nat) (i : Nat) (q : String × Nat × String) (hq : hw_strs[i]? = some q) : hw_M l yJs_length cJs_length 1 (some .int) ({ frames := 1, cells := 0, slots := 0, locals := 20 }) B [.ref (hw_a B 60 i)] nb S z (hw_p (.inl (some (.int (nI (hw_sln i))))) nb S z) := by
  refine hw_M.ofF (by decide +kernel) (Nat.le_of_ble_eq_true rfl) ?_
  intro X fr hl hR G hr hnm
  obtain ⟨f, hT⟩ := (hw_strK G hq).2.2.2.2
  refine hr_aload_n G dJs_length_0 rfl rfl ?_
  refine hr_getO G (hw_strK G hq).2.2.2.1 xf_value dJs_length_1 ?_
  refine hr_tlen G hT dJs_length_4 ?_
  refine hr_aload_n G dJs_length_5 rfl rfl ?_
  refine hr_callO G (hw_strK G hq).2.1 xJs_335 iJs_coder vJs_coder (m_Js_coder _ _ _ _ _ i q hq) rfl rfl (Nat.le_of_ble_eq_true rfl) ⟨by rw [hR]; decide, by rw [hR]; decide⟩ ⟨by rw [hR]; decide, by rw [hR]; decide⟩ dJs_length_6 ?_
  refine hr_ishr G dJs_length_9 ?_
  exact hr_iret G hr (fun _ h => h) dJs_length_10 ⟨by rw [sc_shr0 (hw_sln_lt i)], rfl, rfl, rfl⟩
theorem m_Js_charAt (l : Launch) (B : hw_B) (nb : Nat → Nat) (S : hw_St) (z : Nat) (i j : Nat) (q : String × Nat × String) (hq : hw_strs[i]? = some q) (hj : j < hw_sln i) : hw_M l yJs_charAt cJs_charAt 2 (some .char) ({ frames := 3, cells := 0, slots := 0, locals := 64 }) B [.ref (hw_a B 60 i), .int (nI j)] nb S z (hw_pc nb S z) := by
  refine hw_M.ofF (by decide +kernel) (Nat.le_of_ble_eq_true rfl) ?_
  intro X fr hl hR G hr hnm
  refine hr_aload_n G dJs_charAt_0 rfl rfl ?_
  refine hr_callO G (hw_strK G hq).2.1 xJs_492 iJs_isLatin1 vJs_isLatin1 (m_Js_isLatin1 _ _ _ _ _ i q hq) rfl rfl (by decide) ⟨by rw [hR]; decide, by rw [hR]; decide⟩ ⟨by rw [hR]; decide, by rw [hR]; decide⟩ dJs_charAt_1 ?_
  refine hr_if_eq (tgt := 16) G dJs_charAt_4 (by decide) (fun h => absurd h (by decide)) (fun _ => ?_)
  refine hr_aload_n G dJs_charAt_7 rfl rfl ?_
  refine hr_getO G (hw_strK G hq).2.2.2.1 xf_value dJs_charAt_8 ?_
  refine hr_iload_n G dJs_charAt_11 rfl rfl ?_
  refine hr_callS G xJs_495 sJl_charAt (m_Jl_charAt _ _ _ _ _ i j q hq hj) rfl rfl (by decide) ⟨by rw [hR]; decide, by rw [hR]; decide⟩ ⟨by rw [hR]; decide, by rw [hR]; decide⟩ dJs_charAt_12 (fun r nb' S' z' hp => ?_)
  obtain ⟨⟨x, h1, hx⟩, rfl, rfl, rfl⟩ := hp
  have h2 := Sum.inl.inj h1
  subst h2
  exact hr_zret G hr hx (fun _ h => h) dJs_charAt_15 ⟨⟨_, rfl, hx⟩, rfl, rfl, rfl⟩
