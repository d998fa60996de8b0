/-! The world when the law's loop begins. -/
theorem nb_ne {nb : Nat → Nat} {k j : Nat} (h : ¬ k = j) : hw_nb nb j k = nb k := if_neg h
theorem nC_hi {k : Nat} (h : 21 ≤ k) : n_C k = 0 := by
  unfold n_C n_U
  simp only [nb_ne (show ¬ k = 1 by omega), nb_ne (show ¬ k = 2 by omega), nb_ne (show ¬ k = 3 by omega), nb_ne (show ¬ k = 4 by omega), nb_ne (show ¬ k = 5 by omega), nb_ne (show ¬ k = 6 by omega), nb_ne (show ¬ k = 7 by omega), nb_ne (show ¬ k = 8 by omega), nb_ne (show ¬ k = 10 by omega), nb_ne (show ¬ k = 12 by omega), nb_ne (show ¬ k = 14 by omega), nb_ne (show ¬ k = 15 by omega)]
  unfold n_H
  rw [if_neg (show ¬ k = 0 by omega)]
theorem nM_eq : hw_nb (n_ren n_C) 20 = n_M := funext fun k => by
  by_cases h : k < 21
  · exact (by decide +kernel : ∀ k, k < 21 → hw_nb (n_ren n_C) 20 k = n_M k) k h
  · rw [nb_ne (show ¬ k = 20 by omega)]
    unfold n_ren n_M
    rw [if_neg (show ¬ (k = 4 ∨ k = 5) by omega), if_neg (show ¬ (k = 14 ∨ k = 15) by omega), nC_hi (by omega), if_neg (show ¬ k < 13 by omega), if_neg (show ¬ k = 20 by omega)]
theorem arrV_ext {cI : ClassId} {n : Nat} {f g : Nat → Value} (h : ∀ j, j < n → f j = g j) : arrV cI n f = arrV cI n g := by
  unfold arrV
  rw [show (fun j : Fin n => f j.val) = fun j : Fin n => g j.val from funext fun j => h j.val j.isLt]
/-- behind the ends of the arrays of users and texts -/
def hs_fix (S : hw_St) : hw_St := fun k i j => if k = 1 ∧ 4 ≤ j then nI j else if k = 3 ∧ 4 ≤ j then nI (4 * i + j) else S k i j
theorem hs_fix_o {S : hw_St} {k i j : Nat} (h : ¬ (4 ≤ j ∧ (k = 1 ∨ k = 3))) : hs_fix S k i j = S k i j := by
  unfold hs_fix
  rw [if_neg (fun q => h ⟨q.2, Or.inl q.1⟩), if_neg (fun q => h ⟨q.2, Or.inr q.1⟩)]
theorem hr_fix {X : hw_X} {B : hw_B} {fr : Nat → Prop} {nb : Nat → Nat} {S : hw_St} {z c sl : Nat} {Q : State → Prop} {nL pc : Nat} {L : List (Nat × Value)} {st : List Value} (K : hw_V X B fr nb (hs_fix S) z c sl Q nL pc L st) : hw_V X B fr nb S z c sl Q nL pc L st := by
  intro ls H locs hl hP hz hf
  refine K ls H locs hl ⟨hP.1, fun k i hi => ⟨(hP.2.1 k i hi).1, ?_⟩, hP.2.2⟩ hz hf
  have h := (hP.2.1 k i hi).2
  by_cases e1 : k = 1
  · subst e1
    refine (hw_cel_a (k := 1) (et := 4) rfl).mpr (((hw_cel_a (k := 1) (et := 4) rfl).mp h).trans (congrArg some ?_))
    exact arrV_ext fun j hj => by
      have hj : j < 4 := hj
      show hw_rd B (hw_ty 1 j) (S 1 i j) = hw_rd B (hw_ty 1 j) (hs_fix S 1 i j)
      rw [hs_fix_o (by omega)]
  · by_cases e3 : k = 3
    · subst e3
      refine (hw_cel_a (k := 3) (et := 5) rfl).mpr (((hw_cel_a (k := 3) (et := 5) rfl).mp h).trans (congrArg some ?_))
      exact arrV_ext fun j hj => by
        have hj : j < 4 := hj
        show hw_rd B (hw_ty 3 j) (S 3 i j) = hw_rd B (hw_ty 3 j) (hs_fix S 3 i j)
        rw [hs_fix_o (by omega)]
    · rw [show hs_fix S k i = S k i from funext fun j => hs_fix_o (by omega)]; exact h
def lw_S0 : hw_St := hs_fix (hw_nw (md_0 (hw_nw (hs_ren (hs_0 (hw_nw (fun _ _ _ => 0) 0 0))) 20 0)) 50 0)
def lw_n0 : Nat → Nat := hw_nb n_R 50
set_option maxRecDepth 100000 in
theorem lw_al0 : hw_al lw_n0 := fun k hk => by
  have h51 : k < 51 := by
    refine Nat.not_le.mp fun q => hk ?_
    unfold hw_n0
    split <;> first | omega | (rw [if_neg (by omega)])
  exact (by decide +kernel : ∀ k, k < 51 → hw_n0 k ≠ 0 → lw_n0 k = hw_n0 k) k h51 hk
set_option maxRecDepth 100000 in
theorem lw_fx0 : hw_Fx lw_S0 := fun k i j v hi hv => by
  have q0 : ∀ j, j < 8 → lw_S0 0 0 j = nI (if j = 6 then 16 else if j = 7 then 17 else 0) := by decide +kernel
  have q1 : ∀ j, j < 4 → lw_S0 1 0 j = nI j := by decide +kernel
  have q2 : ∀ i, i < 4 → lw_S0 2 i 0 = nI i ∧ lw_S0 2 i 1 = nI i := by decide +kernel
  have q3 : ∀ i, i < 4 → ∀ j, j < 4 → lw_S0 3 i j = nI (4 * i + j) := by decide +kernel
  have q4 : ∀ i, i < 18 → lw_S0 4 i 0 = nI i := by decide +kernel
  have q20 : ∀ j, j < 31 → ¬ (j = 0 ∨ j = 1 ∨ j = 3 ∨ j = 12 ∨ j = 18 ∨ j = 26 ∨ j = 29) → lw_S0 20 0 j = nI 0 := by decide +kernel
  by_cases k1 : k = 1
  · subst k1
    have hi : i < 1 := hi
    obtain rfl : i = 0 := by omega
    obtain rfl : j = v := Option.some.inj hv
    by_cases hj : j < 4
    · exact q1 j hj
    · show hs_fix _ 1 0 j = _
      unfold hs_fix
      rw [if_pos ⟨rfl, by omega⟩]
  by_cases k3 : k = 3
  · subst k3
    have hi : i < 4 := hi
    obtain rfl : 4 * i + j = v := Option.some.inj hv
    by_cases hj : j < 4
    · exact q3 i hi j hj
    · show hs_fix _ 3 i j = _
      unfold hs_fix
      rw [if_neg (fun q => absurd q.1 (by decide)), if_pos ⟨rfl, by omega⟩]
  unfold hw_fx at hv
  split at hv
  · have hi : i < 1 := hi
    obtain rfl : i = 0 := by omega
    split at hv <;> first | (obtain rfl := Option.some.inj hv; exact q0 _ (by decide)) | (cases hv; done)
  · split at hv <;> first | (obtain rfl := Option.some.inj hv; first | exact (q2 _ hi).1 | exact (q2 _ hi).2) | (cases hv; done)
  · split at hv <;> first | (obtain rfl := Option.some.inj hv; exact q4 _ hi) | (cases hv; done)
  · have hi : i < 1 := hi
    obtain rfl : i = 0 := by omega
    split at hv <;> first | (obtain rfl := Option.some.inj hv; exact q20 _ (by decide) (by decide)) | (cases hv; done)
  · exact absurd rfl k1
  · exact absurd rfl k3
  · exact nomatch hv
set_option maxRecDepth 100000 in
theorem lw_ic0 : ic lw_n0 lw_S0 := by
  refine ⟨lw_al0, lw_fx0, ⟨by decide, by decide +kernel⟩, ⟨by decide, by decide +kernel⟩, ⟨0, by decide, by decide +kernel⟩, fun t ht => ⟨⟨0, Nat.zero_le _, (by decide +kernel : ∀ t, t < 18 → lw_S0 4 t 1 = nI 0) t ht⟩, fun j => ?_⟩, fun i hi => absurd hi (by show ¬ i < 0; omega), fun i hi => absurd hi (by show ¬ i < 0; omega), fun u hu => ⟨Or.inl ((by decide +kernel : ∀ u, u < 4 → lw_S0 2 u 2 = 0) u hu), 0, by decide, (by decide +kernel : ∀ u, u < 4 → lw_S0 2 u 4 = nI 0) u hu⟩, by decide +kernel, fun k hk => (by decide +kernel : ∀ k, k < 6 → lw_S0 7 0 k = 0 ∨ lw_S0 7 0 k = 1) k hk⟩
  have e : lw_S0 5 t j = 0 := match t, ht with | 0, _ => rfl | 1, _ => rfl | 2, _ => rfl | 3, _ => rfl | 4, _ => rfl | 5, _ => rfl | 6, _ => rfl | 7, _ => rfl | 8, _ => rfl | 9, _ => rfl | 10, _ => rfl | 11, _ => rfl | 12, _ => rfl | 13, _ => rfl | 14, _ => rfl | 15, _ => rfl | 16, _ => rfl | 17, _ => rfl | k + 18, h => absurd h (by omega)
  rw [e]; rfl
set_option maxRecDepth 100000 in
theorem lw_jv0 : jw 0 lw_n0 lw_S0 := by
  refine ⟨lw_ic0, ⟨fun j _ => rfl, fun j _ => rfl⟩, ⟨⟨⟨by decide, by decide +kernel⟩, ⟨by decide, by decide +kernel⟩, ⟨0, by decide, by decide +kernel⟩, fun t ht => ⟨0, by decide, rfl⟩, fun i hi => absurd hi (by show ¬ i < 0; omega), fun i hi => absurd hi (by show ¬ i < 0; omega), fun i hi => absurd hi (by show ¬ i < 0; omega), fun i hi => absurd hi (by show ¬ i < 0; omega), fun i hi => absurd hi (by show ¬ i < 0; omega)⟩, 0, by decide +kernel, Nat.le_refl _⟩, Or.inl (by decide +kernel), ⟨fun w hw => (by decide +kernel : ∀ w, w < 6 → lw_S0 28 0 w = lw_S0 6 0 w) w hw, by decide +kernel, fun c h1 h2 => (by decide +kernel : ∀ c, c < 6 → 1 ≤ c → lw_S0 29 0 c = md_nt (lw_S0 7 0 c)) c h2 h1, by decide +kernel⟩, fun w hw => ⟨0, by decide, (by decide +kernel : ∀ w, w < 6 → lw_S0 6 0 w = nI 0) w hw⟩, fun u hu => (by decide +kernel : ∀ u, u < 4 → lw_S0 24 0 u = lw_S0 2 u 2 ∧ lw_S0 25 0 u = lw_S0 2 u 3 ∧ md_cnt lw_S0 u = lw_S0 2 u 4 ∧ (lw_S0 2 u 4 = 3 → lw_S0 27 0 u = lw_S0 2 u 5)) u hu, ⟨0, Nat.le_refl _, by decide +kernel, fun u hu => ⟨0, Nat.le_refl _, (by decide +kernel : ∀ u, u < 4 → lw_S0 27 0 u = nI 0) u hu⟩⟩, fun i hi => absurd hi (by show ¬ i < 0; omega), fun i hi => absurd hi (by show ¬ i < 0; omega), ⟨0, by decide, by decide +kernel, by decide +kernel, fun i hi => absurd hi (Nat.not_lt_zero _)⟩, ⟨by decide +kernel, by decide +kernel⟩, fun i hi => absurd hi (by show ¬ i < 0; omega)⟩
set_option maxRecDepth 100000 in
set_option maxHeartbeats 1000000 in
theorem lw_init {X : hw_X} {B : hw_B} {fr : Nat → Prop} {Q : State → Prop} (G : hw_G X B fr cL_law 7 "TicketHouseLaw") {b z : Nat} (a0 : hw_a B 0 0 = z) (aH : ∀ k i, 0 < k → k < 16 → ¬ k = 9 → ¬ k = 11 → hw_a B k i = z + 1 + hw_ad k i) (a20 : hw_a B 20 0 = z + 51) (aM : ∀ i, i < 24 → hw_a B (21 + i) 0 = z + 52 + i) (a50 : hw_a B 50 0 = z + 76) (hRf : 12 ≤ (xR X).frames) (hRl : 300 ≤ (xR X).locals) (hcc : 100 ≤ (xR X).cells) (hss : 5000 ≤ (xR X).slots) (K : hw_V X B fr lw_n0 lw_S0 (z + 77) 100 5000 Q 7 23 (lw_L B b 0) []) : hw_V X B fr (fun _ => 0) (fun _ _ _ => 0) z 0 0 Q 7 0 [(0, .ref b)] [] := by
  refine hr_new (k := 0) (N := 12) G wL_8 (show hw_a B 0 0 = z from a0) (Nat.le_trans (Nat.le_of_ble_eq_true rfl) hcc) (Nat.le_trans (Nat.le_of_ble_eq_true rfl) hss) dL_law_0 ?_
  show hw_V X B fr n_H (hw_nw (fun _ _ _ => 0) 0 0) (z + 1) 1 12 Q 7 3 [(0, .ref b)] [.ref (hw_a B 0 0)]
  refine hr_dup G dL_law_3 rfl ?_
  refine hr_callIn (k := 0) (i := 0) G kL_56 iH_init rfl (m_H_init _ _ _ _ aH) rfl rfl (Nat.le_of_ble_eq_true rfl) ⟨(Nat.le_trans (Nat.le_of_ble_eq_true rfl) hRf), (Nat.le_trans (Nat.le_of_ble_eq_true rfl) hRl)⟩ ⟨(Nat.le_trans (Nat.le_of_ble_eq_true rfl) hcc), (Nat.le_trans (Nat.le_of_ble_eq_true rfl) hss)⟩ dL_law_4 ?_
  refine hr_astore_n (i := 1) G dL_law_7 rfl (by decide) ?_
  refine hr_ren1 rfl rfl rfl rfl ((aH 4 16 (by decide) (by decide) (by decide) (by decide)).trans (aH 14 0 (by decide) (by decide) (by decide) (by decide)).symm) ((aH 4 17 (by decide) (by decide) (by decide) (by decide)).trans (aH 14 1 (by decide) (by decide) (by decide) (by decide)).symm) ((aH 5 16 (by decide) (by decide) (by decide) (by decide)).trans (aH 15 0 (by decide) (by decide) (by decide) (by decide)).symm) ((aH 5 17 (by decide) (by decide) (by decide) (by decide)).trans (aH 15 1 (by decide) (by decide) (by decide) (by decide)).symm) ?_
  refine hr_new (k := 20) (N := 31) G wL_57 (show hw_a B 20 0 = z + 1 + 50 from a20) (Nat.le_trans (Nat.le_of_ble_eq_true rfl) hcc) (Nat.le_trans (Nat.le_of_ble_eq_true rfl) hss) dL_law_8 ?_
  show hw_V X B fr (hw_nb (n_ren n_C) 20) (hw_nw (hs_ren (hs_0 (hw_nw (fun _ _ _ => 0) 0 0))) 20 0) (z + 52) 52 1635 Q 7 11 [(1, .ref (hw_a B 0 0)), (0, .ref b)] [.ref (hw_a B 20 0)]
  rw [nM_eq]
  refine hr_dup G dL_law_11 rfl ?_
  refine hr_callIn (k := 20) (i := 0) G kL_59 iM_init rfl (m_M_init _ _ _ _ aM) rfl rfl (Nat.le_of_ble_eq_true rfl) ⟨(Nat.le_trans (Nat.le_of_ble_eq_true rfl) hRf), (Nat.le_trans (Nat.le_of_ble_eq_true rfl) hRl)⟩ ⟨(Nat.le_trans (Nat.le_of_ble_eq_true rfl) hcc), (Nat.le_trans (Nat.le_of_ble_eq_true rfl) hss)⟩ dL_law_12 ?_
  refine hr_astore_n (i := 2) G dL_law_15 rfl (by decide) ?_
  refine hr_iconst (v := 1) G dL_law_16 (by decide) ?_
  refine hr_newa (atype := .long) (k := 50) (n := 1) G rfl (by decide) rfl ac_long (fun h => h) (fun _ _ h => h) (fun _ _ => rfl) (by decide) rfl (by decide) (show hw_a B 50 0 = z + 52 + 24 from a50) (Nat.le_trans (Nat.le_of_ble_eq_true rfl) hcc) (Nat.le_trans (Nat.le_of_ble_eq_true rfl) hss) dL_law_17 ?_
  refine hr_astore_n (i := 3) G dL_law_19 rfl (by decide) ?_
  refine hr_iconst (v := 0) G dL_law_20 (by decide) ?_
  refine hr_istore (i := 4) G dL_law_21 (by decide) ?_
  refine hr_wide (c' := 100) (sl' := 5000) (Nat.le_of_ble_eq_true rfl) (Nat.le_of_ble_eq_true rfl) ?_
  refine hr_L (L' := lw_L B b 0) (hw_s1 rfl (hw_s1 rfl (hw_s1 rfl (hw_s1 rfl (hw_s1 rfl hw_s0))))) ?_
  exact hr_fix K
