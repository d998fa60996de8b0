/-! The reference: text, validate. -/
theorem nI_8 (a k : Nat) : 8 * nI a + nI k = nI (8 * a + k) := by
  rw [← nI_add, ← nI_mul]; rfl
set_option maxRecDepth 100000 in
set_option maxHeartbeats 1000000 in
theorem m_M_text_c (l : Launch) (B : hw_B) (nb : Nat → Nat) (S : hw_St) (z : Nat) (hA : hw_al nb) (hF : hw_Fx S) (u j n : Nat) (hu : u < 4) (hj : j < 4) (hn : n ≤ 8) (hd : S 20 0 3 = nI n) : hw_M l yM_text cM_text 5 (some .int) ({ frames := 2, cells := 0, slots := 0, locals := 60 }) B [.ref (hw_a B 20 0), .int (nI u), .int (nI j)] nb S z (fun oc nb' S' z' => oc = .inl (some (.int (nI n))) ∧ nb' = nb ∧ (∀ a b c, ¬ a = 22 → S' a b c = (hw_sv (hw_sv (hw_sv S 20 0 0 0) 23 0 (4 * u + j) (nI n)) 20 0 3 0) a b c) ∧ z' = z) := by
  refine hw_M.of (by decide) (Nat.le_of_ble_eq_true rfl) ?_
  intro X fr hl hR G hr hnm
  refine hr_aload_n G dM_text_0 rfl rfl ?_
  refine hr_iload_n G dM_text_1 rfl rfl ?_
  refine hr_iconst (v := 0) G dM_text_2 (by decide) ?_
  refine hr_iconst (v := 3) G dM_text_3 (by decide) ?_
  refine hr_callSs G kM_90 sM_within (m_within_y _ _ _ _ _ (nI u) 0 3 (nI_pos (by omega)) (show nI u ≤ 3 from nI_le (b := 3) (by omega) (by decide))) rfl rfl (Nat.le_of_ble_eq_true rfl) ⟨by rw [hR]; decide, by rw [hR]; decide⟩ ⟨by rw [hR]; decide, by rw [hR]; decide⟩ dM_text_4 ?_
  refine hr_if_eq (tgt := 19) G dM_text_7 (by decide) (fun h => absurd h (by decide)) (fun _ => ?_)
  refine hr_iload_n G dM_text_10 rfl rfl ?_
  refine hr_iconst (v := 0) G dM_text_11 (by decide) ?_
  refine hr_iconst (v := 3) G dM_text_12 (by decide) ?_
  refine hr_callSs G kM_90 sM_within (m_within_y _ _ _ _ _ (nI j) 0 3 (nI_pos (by omega)) (show nI j ≤ 3 from nI_le (b := 3) (by omega) (by decide))) rfl rfl (Nat.le_of_ble_eq_true rfl) ⟨by rw [hR]; decide, by rw [hR]; decide⟩ ⟨by rw [hR]; decide, by rw [hR]; decide⟩ dM_text_13 ?_
  refine hr_if_ne (tgt := 23) G dM_text_16 (by decide) (fun _ => ?_) (fun h => absurd h (by decide))
  refine hr_iconst (v := 0) G dM_text_23 (by decide) ?_
  refine hr_put (x := 0) G fM_87 (hA.lt (show 0 < hw_n0 20 by decide)) rfl (rfl) rfl dM_text_24 ?_
  refine hr_aload_n G dM_text_27 rfl rfl ?_
  refine hr_get (v := .int 0) G fM_87 (hA.lt (show 0 < hw_n0 20 by decide)) rfl dM_text_28 ?_
  refine hr_if_le (tgt := 36) G dM_text_31 (by decide) (fun _ => ?_) (fun h => absurd (by decide) h)
  refine hr_iconst (v := 4) G dM_text_36 (by decide) ?_
  refine hr_iload_n G dM_text_37 rfl rfl ?_
  refine hr_imul G dM_text_38 ?_
  refine hr_iload_n G dM_text_39 rfl rfl ?_
  refine hr_iadd G dM_text_40 ?_
  refine hr_istore_n (i := 3) G dM_text_41 rfl (by decide) ?_
  refine hr_iconst (v := 0) G dM_text_42 (by decide) ?_
  refine hr_istore (i := 4) G dM_text_43 (by decide) ?_
  rw [nI_42]
  refine hr_L (L' := [(0, .ref (hw_a B 20 0)), (3, .int (nI (4 * u + j))), (4, .int (nI 0))]) (hw_s1 rfl (hw_s1 rfl (hw_s1 rfl (hw_s0)))) ?_
  suffices H : ∀ (m k : Nat) (S1 : hw_St), (∀ a b c, ¬ a = 22 → S1 a b c = (hw_sv S 20 0 0 0) a b c) → n - k = m → k ≤ n → hw_V X B fr nb S1 z 0 0 (hw_MQ X B fr (fun oc nb' S' z' => oc = .inl (some (.int (nI n))) ∧ nb' = nb ∧ (∀ a b c, ¬ a = 22 → S' a b c = (hw_sv (hw_sv (hw_sv S 20 0 0 0) 23 0 (4 * u + j) (nI n)) 20 0 3 0) a b c) ∧ z' = z) 0 0) 5 45 [(0, .ref (hw_a B 20 0)), (3, .int (nI (4 * u + j))), (4, .int (nI k))] [] from H _ 0 _ (fun _ _ _ _ => rfl) rfl (Nat.zero_le _)
  intro m
  induction m with
  | zero =>
    intro k S1 h1 hm hk
    obtain rfl : k = n := by omega
    have hF1 : hw_Fx S1 := fun a b c v hi hv => by
      rw [h1 a b c (fun e => by rw [e] at hv; exact nomatch hv)]
      exact (hF.sv (k := 20) (i := 0) (j := 0) rfl) a b c v hi hv
    have e3 : S1 20 0 3 = nI k := (h1 20 0 3 (by decide)).trans hd
    refine hr_iload G dM_text_45 rfl ?_
    refine hr_aload_n G dM_text_47 rfl rfl ?_
    refine hr_get (v := .int (S1 20 0 3)) G fM_94 (hA.lt (show 0 < hw_n0 20 by decide)) rfl dM_text_48 ?_
    refine hr_icmp_ge (tgt := 79) G dM_text_51 (by decide) (fun _ => ?_) (fun h => absurd (show S1 20 0 3 ≤ nI k by rw [e3]; exact nI_le (Nat.le_refl _) (by omega)) h)
    refine hr_aload_n G dM_text_79 rfl rfl ?_
    refine hr_get (v := .ref (hw_a B 23 0)) G fM_16 (hA.lt (show 0 < hw_n0 20 by decide)) (hw_rfx hF1 (by decide) rfl (by decide)) dM_text_80 ?_
    refine hr_iload_n G dM_text_83 rfl rfl ?_
    refine hr_aload_n G dM_text_84 rfl rfl ?_
    refine hr_get (v := .int (S1 20 0 3)) G fM_94 (hA.lt (show 0 < hw_n0 20 by decide)) rfl dM_text_85 ?_
    refine hr_iast (n := (4 * u + j)) (y := (S1 20 0 3)) G rfl (by decide) rfl (hA.lt (show 0 < hw_n0 23 by decide)) rfl (show (4 * u + j) < 16 by omega) rfl dM_text_88 ?_
    refine hr_aload_n G dM_text_89 rfl rfl ?_
    refine hr_iconst (v := 0) G dM_text_90 (by decide) ?_
    refine hr_put (x := 0) G fM_94 (hA.lt (show 0 < hw_n0 20 by decide)) rfl (rfl) rfl dM_text_91 ?_
    refine hr_aload_n G dM_text_94 rfl rfl ?_
    refine hr_get (v := .ref (hw_a B 23 0)) G fM_16 (hA.lt (show 0 < hw_n0 20 by decide)) (hw_rfx ((hF1.sv rfl).sv rfl) (by decide) rfl (by decide)) dM_text_95 ?_
    refine hr_iload_n G dM_text_98 rfl rfl ?_
    refine hr_iald (n := (4 * u + j)) (v := .int ((hw_sv (hw_sv S1 23 0 (4 * u + j) (S1 20 0 3)) 20 0 3 0) 23 0 (4 * u + j))) G rfl (by decide) rfl (hA.lt (show 0 < hw_n0 23 by decide)) rfl (show (4 * u + j) < 16 by omega) rfl dM_text_99 ?_
    exact hr_iret G hr (fun _ h => h) dM_text_100 ⟨congrArg (fun q => Sum.inl (some (Value.int q))) (show ((hw_sv (hw_sv S1 23 0 (4 * u + j) (S1 20 0 3)) 20 0 3 0) 23 0 (4 * u + j)) = nI k by simp [hw_sv, e3]), rfl, fun a b c h => by simp only [hw_sv, h1 a b c h, e3], rfl⟩
  | succ m ih =>
    intro k S1 h1 hm hk
    have hF1 : hw_Fx S1 := fun a b c v hi hv => by
      rw [h1 a b c (fun e => by rw [e] at hv; exact nomatch hv)]
      exact (hF.sv (k := 20) (i := 0) (j := 0) rfl) a b c v hi hv
    have e3 : S1 20 0 3 = nI n := (h1 20 0 3 (by decide)).trans hd
    refine hr_iload G dM_text_45 rfl ?_
    refine hr_aload_n G dM_text_47 rfl rfl ?_
    refine hr_get (v := .int (S1 20 0 3)) G fM_94 (hA.lt (show 0 < hw_n0 20 by decide)) rfl dM_text_48 ?_
    refine hr_icmp_ge (tgt := 79) G dM_text_51 (by decide) (fun h => absurd h (show ¬ S1 20 0 3 ≤ nI k by rw [e3]; exact nI_ge (by omega) (by omega))) (fun _ => ?_)
    refine hr_aload_n G dM_text_54 rfl rfl ?_
    refine hr_get (v := .ref (hw_a B 22 0)) G fM_13 (hA.lt (show 0 < hw_n0 20 by decide)) (hw_rfx hF1 (by decide) rfl (by decide)) dM_text_55 ?_
    refine hr_bipush (v := 8) G dM_text_58 (by decide) ?_
    refine hr_iload_n G dM_text_60 rfl rfl ?_
    refine hr_imul G dM_text_61 ?_
    refine hr_iload G dM_text_62 rfl ?_
    refine hr_iadd G dM_text_64 ?_
    refine hr_aload_n G dM_text_65 rfl rfl ?_
    refine hr_get (v := .ref (hw_a B 21 0)) G fM_7 (hA.lt (show 0 < hw_n0 20 by decide)) (hw_rfx hF1 (by decide) rfl (by decide)) dM_text_66 ?_
    refine hr_iload G dM_text_69 rfl ?_
    refine hr_iald (n := k) (v := .int (S1 21 0 k)) G rfl (by decide) rfl (hA.lt (show 0 < hw_n0 21 by decide)) rfl (show k < 8 by omega) rfl dM_text_71 ?_
    refine hr_iast (n := (8 * (4 * u + j) + k)) (y := (S1 21 0 k)) G rfl (by decide) rfl (hA.lt (show 0 < hw_n0 22 by decide)) (nI_8 _ _) (show 8 * (4 * u + j) + k < 128 by omega) rfl dM_text_72 ?_
    refine hr_iinc (v := nI (k + 1)) G dM_text_73 rfl (nI_succ k).symm (by decide) ?_
    refine hr_goto (tgt := 45) G dM_text_76 (by decide) ?_
    refine hr_L (L' := [(0, .ref (hw_a B 20 0)), (3, .int (nI (4 * u + j))), (4, .int (nI (k + 1)))]) (hw_s1 rfl (hw_s1 rfl (hw_s1 rfl (hw_s0)))) ?_
    exact ih (k + 1) _ (fun a b c h => by unfold hw_sv; rw [if_neg (fun e => h e.1)]; exact h1 a b c h) (by omega) (by omega)
set_option maxRecDepth 100000 in
set_option maxHeartbeats 1000000 in
theorem m_M_validate_a (l : Launch) (B : hw_B) (nb : Nat → Nat) (S : hw_St) (z : Nat) (hA : hw_al nb) (hF : hw_Fx S) (x v h c : Int32) (hh : h < 0 ∨ ¬ h ≤ 7) : hw_M l yM_validate cM_validate 7 (some .int) ({ frames := 5, cells := 0, slots := 0, locals := 127 }) B [.ref (hw_a B 20 0), .int x, .int v, .int h, .int c] nb S z (hw_p (.inl (some (.int 0))) nb (hw_sv S 20 0 0 1) z) := by
  refine hw_M.of (by decide) (Nat.le_of_ble_eq_true rfl) ?_
  intro X fr hl hR G hr hnm
  refine hr_aload_n G dM_validate_0 rfl rfl ?_
  refine hr_iload_n G dM_validate_1 rfl rfl ?_
  refine hr_iconst (v := 0) G dM_validate_2 (by decide) ?_
  refine hr_bipush (v := 7) G dM_validate_3 (by decide) ?_
  refine hr_callSs G kM_90 sM_within (m_within_n _ _ _ _ _ h 0 7 hh) rfl rfl (Nat.le_of_ble_eq_true rfl) ⟨by rw [hR]; decide, by rw [hR]; decide⟩ ⟨by rw [hR]; decide, by rw [hR]; decide⟩ dM_validate_5 ?_
  refine hr_if_eq (tgt := 25) G dM_validate_8 (by decide) (fun _ => ?_) (fun h => absurd (by decide) h)
  refine hr_iconst (v := 1) G dM_validate_25 (by decide) ?_
  refine hr_put (x := 1) G fM_87 (hA.lt (show 0 < hw_n0 20 by decide)) rfl (rfl) rfl dM_validate_26 ?_
  refine hr_aload_n G dM_validate_29 rfl rfl ?_
  refine hr_get (v := .int 1) G fM_87 (hA.lt (show 0 < hw_n0 20 by decide)) rfl dM_validate_30 ?_
  refine hr_if_le (tgt := 38) G dM_validate_33 (by decide) (fun h => absurd h (by decide)) (fun _ => ?_)
  refine hr_iconst (v := 0) G dM_validate_36 (by decide) ?_
  exact hr_iret G hr (fun _ h => h) dM_validate_37 hw_pi
set_option maxRecDepth 100000 in
set_option maxHeartbeats 1000000 in
theorem m_M_validate_a2 (l : Launch) (B : hw_B) (nb : Nat → Nat) (S : hw_St) (z : Nat) (hA : hw_al nb) (hF : hw_Fx S) (x v h c : Int32) (hh1 : ¬ h < 0) (hh2 : h ≤ 7) (hc : c < 0 ∨ ¬ c ≤ 5) : hw_M l yM_validate cM_validate 7 (some .int) ({ frames := 5, cells := 0, slots := 0, locals := 127 }) B [.ref (hw_a B 20 0), .int x, .int v, .int h, .int c] nb S z (hw_p (.inl (some (.int 0))) nb (hw_sv S 20 0 0 1) z) := by
  refine hw_M.of (by decide) (Nat.le_of_ble_eq_true rfl) ?_
  intro X fr hl hR G hr hnm
  refine hr_aload_n G dM_validate_0 rfl rfl ?_
  refine hr_iload_n G dM_validate_1 rfl rfl ?_
  refine hr_iconst (v := 0) G dM_validate_2 (by decide) ?_
  refine hr_bipush (v := 7) G dM_validate_3 (by decide) ?_
  refine hr_callSs G kM_90 sM_within (m_within_y _ _ _ _ _ h 0 7 hh1 hh2) rfl rfl (Nat.le_of_ble_eq_true rfl) ⟨by rw [hR]; decide, by rw [hR]; decide⟩ ⟨by rw [hR]; decide, by rw [hR]; decide⟩ dM_validate_5 ?_
  refine hr_if_eq (tgt := 25) G dM_validate_8 (by decide) (fun h => absurd h (by decide)) (fun _ => ?_)
  refine hr_iload G dM_validate_11 rfl ?_
  refine hr_iconst (v := 0) G dM_validate_13 (by decide) ?_
  refine hr_iconst (v := 5) G dM_validate_14 (by decide) ?_
  refine hr_callSs G kM_90 sM_within (m_within_n _ _ _ _ _ c 0 5 hc) rfl rfl (Nat.le_of_ble_eq_true rfl) ⟨by rw [hR]; decide, by rw [hR]; decide⟩ ⟨by rw [hR]; decide, by rw [hR]; decide⟩ dM_validate_15 ?_
  refine hr_if_eq (tgt := 25) G dM_validate_18 (by decide) (fun _ => ?_) (fun h => absurd (by decide) h)
  refine hr_iconst (v := 1) G dM_validate_25 (by decide) ?_
  refine hr_put (x := 1) G fM_87 (hA.lt (show 0 < hw_n0 20 by decide)) rfl (rfl) rfl dM_validate_26 ?_
  refine hr_aload_n G dM_validate_29 rfl rfl ?_
  refine hr_get (v := .int 1) G fM_87 (hA.lt (show 0 < hw_n0 20 by decide)) rfl dM_validate_30 ?_
  refine hr_if_le (tgt := 38) G dM_validate_33 (by decide) (fun h => absurd h (by decide)) (fun _ => ?_)
  refine hr_iconst (v := 0) G dM_validate_36 (by decide) ?_
  exact hr_iret G hr (fun _ h => h) dM_validate_37 hw_pi
set_option maxRecDepth 100000 in
set_option maxHeartbeats 1000000 in
theorem m_M_validate_b (l : Launch) (B : hw_B) (nb : Nat → Nat) (S : hw_St) (z : Nat) (hA : hw_al nb) (hF : hw_Fx S) (x : Int32) (v h : Int32) (c : Nat) (hc : c < 6) (hh1 : ¬ h < 0) (hh2 : h ≤ 7) (J : Int32) (hJ : hw_M l yM_judged cM_judged 4 (some .int) ({ frames := 2, cells := 0, slots := 0, locals := 43 }) B [.ref (hw_a B 20 0), .int x, .int v, .int h] nb (hw_sv S 20 0 0 0) z (hw_p (.inl (some (.int J))) nb (hw_sv S 20 0 0 0) z)) (hJ2 : J ≤ 2) (hJ0 : ¬ J ≤ 0) : hw_M l yM_validate cM_validate 7 (some .int) ({ frames := 5, cells := 0, slots := 0, locals := 127 }) B [.ref (hw_a B 20 0), .int x, .int v, .int h, .int (nI c)] nb S z (fun oc nb' S' z' => oc = .inl (some (.int J)) ∧ nb' = nb ∧ pg_r 1400 (hw_sv S 20 0 0 0) S' ∧ z' = z) := by
  refine hw_M.of (by decide) (Nat.le_of_ble_eq_true rfl) ?_
  intro X fr hl hR G hr hnm
  refine hr_aload_n G dM_validate_0 rfl rfl ?_
  refine hr_iload_n G dM_validate_1 rfl rfl ?_
  refine hr_iconst (v := 0) G dM_validate_2 (by decide) ?_
  refine hr_bipush (v := 7) G dM_validate_3 (by decide) ?_
  refine hr_callSs G kM_90 sM_within (m_within_y _ _ _ _ _ h 0 7 hh1 hh2) rfl rfl (Nat.le_of_ble_eq_true rfl) ⟨by rw [hR]; decide, by rw [hR]; decide⟩ ⟨by rw [hR]; decide, by rw [hR]; decide⟩ dM_validate_5 ?_
  refine hr_if_eq (tgt := 25) G dM_validate_8 (by decide) (fun h => absurd h (by decide)) (fun _ => ?_)
  refine hr_iload G dM_validate_11 rfl ?_
  refine hr_iconst (v := 0) G dM_validate_13 (by decide) ?_
  refine hr_iconst (v := 5) G dM_validate_14 (by decide) ?_
  refine hr_callSs G kM_90 sM_within (m_within_y _ _ _ _ _ (nI c) 0 5 (nI_pos (by omega)) (show nI c ≤ 5 from nI_le (b := 5) (by omega) (by decide))) rfl rfl (Nat.le_of_ble_eq_true rfl) ⟨by rw [hR]; decide, by rw [hR]; decide⟩ ⟨by rw [hR]; decide, by rw [hR]; decide⟩ dM_validate_15 ?_
  refine hr_if_eq (tgt := 25) G dM_validate_18 (by decide) (fun h => absurd h (by decide)) (fun _ => ?_)
  refine hr_iconst (v := 0) G dM_validate_21 (by decide) ?_
  refine hr_goto (tgt := 26) G dM_validate_22 (by decide) ?_
  refine hr_put (x := 0) G fM_87 (hA.lt (show 0 < hw_n0 20 by decide)) rfl (rfl) rfl dM_validate_26 ?_
  refine hr_aload_n G dM_validate_29 rfl rfl ?_
  refine hr_get (v := .int 0) G fM_87 (hA.lt (show 0 < hw_n0 20 by decide)) rfl dM_validate_30 ?_
  refine hr_if_le (tgt := 38) G dM_validate_33 (by decide) (fun _ => ?_) (fun h => absurd (by decide) h)
  refine hr_aload_n G dM_validate_38 rfl rfl ?_
  refine hr_iload_n G dM_validate_39 rfl rfl ?_
  refine hr_iload_n G dM_validate_40 rfl rfl ?_
  refine hr_iload_n G dM_validate_41 rfl rfl ?_
  refine hr_callVs (k := 20) (i := 0) G rfl rfl (hA.lt (show 0 < hw_n0 20 by decide)) kM_152 iM_judged vM_judged (by rw [hl]; exact hJ) rfl rfl (Nat.le_of_ble_eq_true rfl) ⟨by rw [hR]; decide, by rw [hR]; decide⟩ ⟨by rw [hR]; decide, by rw [hR]; decide⟩ dM_validate_42 ?_
  refine hr_istore (i := 5) G dM_validate_45 (by decide) ?_
  refine hr_iload G dM_validate_47 rfl ?_
  refine hr_iconst (v := 2) G dM_validate_49 (by decide) ?_
  refine hr_icmp_le (tgt := 60) G dM_validate_50 (by decide) (fun _ => ?_) (fun h => absurd hJ2 h)
  refine hr_iload G dM_validate_60 rfl ?_
  refine hr_if_le (tgt := 75) G dM_validate_62 (by decide) (fun h => absurd h hJ0) (fun _ => ?_)
  refine hr_aload_n G dM_validate_65 rfl rfl ?_
  refine hr_iload G dM_validate_66 rfl ?_
  refine hr_iload_n G dM_validate_68 rfl rfl ?_
  refine hr_callP (b := 1400) G rfl (hA.lt (show 0 < hw_n0 20 by decide)) kM_156 iM_no vM_no (m_M_no _ _ _ (hw_sv S 20 0 0 0) _ hA (hF.sv rfl) J x) rfl rfl (Nat.le_of_ble_eq_true rfl) ⟨by rw [hR]; decide, by rw [hR]; decide⟩ ⟨by rw [hR]; decide, by rw [hR]; decide⟩ dM_validate_69 (fun S9 q9 => ?_)
  refine hr_iload G dM_validate_72 rfl ?_
  exact hr_iret G hr (fun _ h => h) dM_validate_74 ⟨rfl, rfl, q9, rfl⟩
set_option maxRecDepth 100000 in
set_option maxHeartbeats 1000000 in
theorem m_M_validate_d (l : Launch) (B : hw_B) (nb : Nat → Nat) (S : hw_St) (z : Nat) (hA : hw_al nb) (hF : hw_Fx S) (t : Nat) (ht : t < 150) (v h : Int32) (c : Nat) (hc : c < 6) (hh1 : ¬ h < 0) (hh2 : h ≤ 7) (J : Int32) (hJ : hw_M l yM_judged cM_judged 4 (some .int) ({ frames := 2, cells := 0, slots := 0, locals := 43 }) B [.ref (hw_a B 20 0), .int (nI t), .int v, .int h] nb (hw_sv S 20 0 0 0) z (hw_p (.inl (some (.int J))) nb (hw_sv S 20 0 0 0) z)) (hJ2 : ¬ J ≤ 2) : hw_M l yM_validate cM_validate 7 (some .int) ({ frames := 5, cells := 0, slots := 0, locals := 127 }) B [.ref (hw_a B 20 0), .int (nI t), .int v, .int h, .int (nI c)] nb S z (fun oc nb' S' z' => oc = .inl (some (.int J)) ∧ nb' = nb ∧ pg_r 1400 (hw_sv (hw_sv S 20 0 0 0) 41 0 t 1) S' ∧ z' = z) := by
  refine hw_M.of (by decide) (Nat.le_of_ble_eq_true rfl) ?_
  intro X fr hl hR G hr hnm
  refine hr_aload_n G dM_validate_0 rfl rfl ?_
  refine hr_iload_n G dM_validate_1 rfl rfl ?_
  refine hr_iconst (v := 0) G dM_validate_2 (by decide) ?_
  refine hr_bipush (v := 7) G dM_validate_3 (by decide) ?_
  refine hr_callSs G kM_90 sM_within (m_within_y _ _ _ _ _ h 0 7 hh1 hh2) rfl rfl (Nat.le_of_ble_eq_true rfl) ⟨by rw [hR]; decide, by rw [hR]; decide⟩ ⟨by rw [hR]; decide, by rw [hR]; decide⟩ dM_validate_5 ?_
  refine hr_if_eq (tgt := 25) G dM_validate_8 (by decide) (fun h => absurd h (by decide)) (fun _ => ?_)
  refine hr_iload G dM_validate_11 rfl ?_
  refine hr_iconst (v := 0) G dM_validate_13 (by decide) ?_
  refine hr_iconst (v := 5) G dM_validate_14 (by decide) ?_
  refine hr_callSs G kM_90 sM_within (m_within_y _ _ _ _ _ (nI c) 0 5 (nI_pos (by omega)) (show nI c ≤ 5 from nI_le (b := 5) (by omega) (by decide))) rfl rfl (Nat.le_of_ble_eq_true rfl) ⟨by rw [hR]; decide, by rw [hR]; decide⟩ ⟨by rw [hR]; decide, by rw [hR]; decide⟩ dM_validate_15 ?_
  refine hr_if_eq (tgt := 25) G dM_validate_18 (by decide) (fun h => absurd h (by decide)) (fun _ => ?_)
  refine hr_iconst (v := 0) G dM_validate_21 (by decide) ?_
  refine hr_goto (tgt := 26) G dM_validate_22 (by decide) ?_
  refine hr_put (x := 0) G fM_87 (hA.lt (show 0 < hw_n0 20 by decide)) rfl (rfl) rfl dM_validate_26 ?_
  refine hr_aload_n G dM_validate_29 rfl rfl ?_
  refine hr_get (v := .int 0) G fM_87 (hA.lt (show 0 < hw_n0 20 by decide)) rfl dM_validate_30 ?_
  refine hr_if_le (tgt := 38) G dM_validate_33 (by decide) (fun _ => ?_) (fun h => absurd (by decide) h)
  refine hr_aload_n G dM_validate_38 rfl rfl ?_
  refine hr_iload_n G dM_validate_39 rfl rfl ?_
  refine hr_iload_n G dM_validate_40 rfl rfl ?_
  refine hr_iload_n G dM_validate_41 rfl rfl ?_
  refine hr_callVs (k := 20) (i := 0) G rfl rfl (hA.lt (show 0 < hw_n0 20 by decide)) kM_152 iM_judged vM_judged (by rw [hl]; exact hJ) rfl rfl (Nat.le_of_ble_eq_true rfl) ⟨by rw [hR]; decide, by rw [hR]; decide⟩ ⟨by rw [hR]; decide, by rw [hR]; decide⟩ dM_validate_42 ?_
  refine hr_istore (i := 5) G dM_validate_45 (by decide) ?_
  refine hr_iload G dM_validate_47 rfl ?_
  refine hr_iconst (v := 2) G dM_validate_49 (by decide) ?_
  refine hr_icmp_le (tgt := 60) G dM_validate_50 (by decide) (fun h => absurd h hJ2) (fun _ => ?_)
  refine hr_aload_n G dM_validate_53 rfl rfl ?_
  refine hr_get (v := .ref (hw_a B 41 0)) G fM_71 (hA.lt (show 0 < hw_n0 20 by decide)) (hw_rfx (hF.sv rfl) (by decide) rfl (by decide)) dM_validate_54 ?_
  refine hr_iload_n G dM_validate_57 rfl rfl ?_
  refine hr_iconst (v := 1) G dM_validate_58 (by decide) ?_
  refine hr_zast (n := t) (y := 1) G rfl (by decide) rfl (hA.lt (show 0 < hw_n0 41 by decide)) rfl (show t < 150 from ht) rfl (rfl) dM_validate_59 ?_
  refine hr_iload G dM_validate_60 rfl ?_
  refine hr_if_le (tgt := 75) G dM_validate_62 (by decide) (fun h => absurd h (fun q => hJ2 (Int32.le_trans q (by decide)))) (fun _ => ?_)
  refine hr_aload_n G dM_validate_65 rfl rfl ?_
  refine hr_iload G dM_validate_66 rfl ?_
  refine hr_iload_n G dM_validate_68 rfl rfl ?_
  refine hr_callP (b := 1400) G rfl (hA.lt (show 0 < hw_n0 20 by decide)) kM_156 iM_no vM_no (m_M_no _ _ _ (hw_sv (hw_sv S 20 0 0 0) 41 0 t 1) _ hA ((hF.sv rfl).sv rfl) J (nI t)) rfl rfl (Nat.le_of_ble_eq_true rfl) ⟨by rw [hR]; decide, by rw [hR]; decide⟩ ⟨by rw [hR]; decide, by rw [hR]; decide⟩ dM_validate_69 (fun S9 q9 => ?_)
  refine hr_iload G dM_validate_72 rfl ?_
  exact hr_iret G hr (fun _ h => h) dM_validate_74 ⟨rfl, rfl, q9, rfl⟩
