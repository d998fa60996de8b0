/-! Leaves. -/
set_option maxRecDepth 100000 in
set_option maxHeartbeats 1000000 in
theorem m_H_isService (l : Launch) (B : hw_B) (nb : Nat → Nat) (S : hw_St) (z : Nat) (s : Int32) : hw_M l yH_isService cH_isService 1 (some .boolean) ({ frames := 0, cells := 0, slots := 0, locals := 0 }) B [.int s] nb S z (hw_p (.inl (some (.int (if s < 0 ∨ 6 ≤ s then 0 else 1)))) nb S z) := by
  refine hw_M.of (by decide) (Nat.le_of_ble_eq_true rfl) ?_
  intro X fr hl hR G hr hnm
  refine hr_iload_n G dH_isService_0 rfl rfl ?_
  refine hr_if_lt (tgt := 14) G dH_isService_1 (by decide) (fun h1 => ?_) (fun h1 => ?_)
  · skip
    refine hr_iconst (v := 0) G dH_isService_14 (by decide) ?_
    exact hr_zret G hr (rfl) (fun _ h => h) dH_isService_15 ⟨by simp only [h1, ↓reduceIte, eq_self, true_or, or_true, or_self], rfl, (by first | rfl | simp only [h1, ↓reduceIte, eq_self, true_or, or_true, or_self]), rfl⟩
  · skip
    refine hr_iload_n G dH_isService_4 rfl rfl ?_
    refine hr_bipush (v := 6) G dH_isService_5 (by decide) ?_
    refine hr_icmp_ge (tgt := 14) G dH_isService_7 (by decide) (fun h7 => ?_) (fun h7 => ?_)
    · skip
      refine hr_iconst (v := 0) G dH_isService_14 (by decide) ?_
      exact hr_zret G hr (rfl) (fun _ h => h) dH_isService_15 ⟨by simp only [h1, h7, ↓reduceIte, eq_self, true_or, or_true, or_self], rfl, (by first | rfl | simp only [h1, h7, ↓reduceIte, eq_self, true_or, or_true, or_self]), rfl⟩
    · skip
      refine hr_iconst (v := 1) G dH_isService_10 (by decide) ?_
      refine hr_goto (tgt := 15) G dH_isService_11 (by decide) ?_
      exact hr_zret G hr (rfl) (fun _ h => h) dH_isService_15 ⟨by simp only [h1, h7, ↓reduceIte, eq_self, true_or, or_true, or_self], rfl, (by first | rfl | simp only [h1, h7, ↓reduceIte, eq_self, true_or, or_true, or_self]), rfl⟩
set_option maxRecDepth 100000 in
set_option maxHeartbeats 1000000 in
theorem m_H_oneIf (l : Launch) (B : hw_B) (nb : Nat → Nat) (S : hw_St) (z : Nat) (b : Int32) : hw_M l yH_oneIf cH_oneIf 1 (some .int) ({ frames := 0, cells := 0, slots := 0, locals := 0 }) B [.int b] nb S z (hw_p (.inl (some (.int (if b = 0 then 0 else 1)))) nb S z) := by
  refine hw_M.of (by decide) (Nat.le_of_ble_eq_true rfl) ?_
  intro X fr hl hR G hr hnm
  refine hr_iload_n G dH_oneIf_0 rfl rfl ?_
  refine hr_if_eq (tgt := 8) G dH_oneIf_1 (by decide) (fun h1 => ?_) (fun h1 => ?_)
  · skip
    refine hr_iconst (v := 0) G dH_oneIf_8 (by decide) ?_
    exact hr_iret G hr (fun _ h => h) dH_oneIf_9 ⟨by simp only [h1, ↓reduceIte, eq_self, true_or, or_true, or_self], rfl, (by first | rfl | simp only [h1, ↓reduceIte, eq_self, true_or, or_true, or_self]), rfl⟩
  · skip
    refine hr_iconst (v := 1) G dH_oneIf_4 (by decide) ?_
    refine hr_goto (tgt := 9) G dH_oneIf_5 (by decide) ?_
    exact hr_iret G hr (fun _ h => h) dH_oneIf_9 ⟨by simp only [h1, ↓reduceIte, eq_self, true_or, or_true, or_self], rfl, (by first | rfl | simp only [h1, ↓reduceIte, eq_self, true_or, or_true, or_self]), rfl⟩
set_option maxRecDepth 100000 in
set_option maxHeartbeats 1000000 in
theorem m_T_clear (l : Launch) (B : hw_B) (nb : Nat → Nat) (S : hw_St) (z : Nat) (t : Nat) (hA : hw_al nb) (hF : hw_Fx S) (ht : t < 18) : hw_M l yT_clear cT_clear 1 none ({ frames := 0, cells := 0, slots := 0, locals := 0 }) B [.ref (hw_a B 4 t)] nb S z (hw_p (.inl none) nb (hw_sv S 4 t 1 0) z) := by
  refine hw_M.of (by decide) (Nat.le_of_ble_eq_true rfl) ?_
  intro X fr hl hR G hr hnm
  refine hr_aload_n G dT_clear_0 rfl rfl ?_
  refine hr_iconst (v := 0) G dT_clear_1 (by decide) ?_
  refine hr_put (x := 0) G fT_15 (hA.lt ht) rfl (rfl) rfl dT_clear_2 ?_
  exact hr_vret G hr (fun _ h => h) dT_clear_5 hw_pi
def tx_add (S : hw_St) (t n : Nat) (c : Int32) : hw_St := if n < hw_ln 5 t then hw_sv (hw_sv S 5 t n c) 4 t 1 (nI (n + 1)) else S
set_option maxRecDepth 100000 in
set_option maxHeartbeats 1000000 in
theorem m_T_add (l : Launch) (B : hw_B) (nb : Nat → Nat) (S : hw_St) (z : Nat) (t : Nat) (hA : hw_al nb) (hF : hw_Fx S) (ht : t < 18) (n : Nat) (c : Int32) (hn : S 4 t 1 = nI n) (hle : n ≤ hw_ln 5 t) (hc : narrow .char (.int c) = .int c) : hw_M l yT_add cT_add 2 none ({ frames := 0, cells := 0, slots := 0, locals := 0 }) B [.ref (hw_a B 4 t), .int c] nb S z (hw_p (.inl none) nb (tx_add S t n c) z) := by
  refine hw_M.of (by decide) (Nat.le_of_ble_eq_true rfl) ?_
  intro X fr hl hR G hr hnm
  refine hr_aload_n G dT_add_0 rfl rfl ?_
  refine hr_get (v := .int (S 4 t 1)) G fT_15 (hA.lt ht) rfl dT_add_1 ?_
  refine hr_aload_n G dT_add_4 rfl rfl ?_
  refine hr_get (v := .ref (hw_a B 5 t)) G fT_9 (hA.lt ht) (hw_rfx hF ht rfl (by omega)) dT_add_5 ?_
  refine hr_alen (v := (nI (hw_ln 5 t))) G rfl (by decide) (hA.lt ht) rfl dT_add_8 ?_
  refine hr_icmp_ge (tgt := 32) G dT_add_9 (by decide) (fun h9 => ?_) (fun h9 => ?_)
  · skip
    exact hr_vret G hr (fun _ h => h) dT_add_32 ⟨rfl, rfl, by rw [hn] at h9; rw [tx_add, if_neg (Nat.not_lt.mpr ((nI_leI (hw_ln_lt 5 t) (Nat.lt_of_le_of_lt hle (hw_ln_lt 5 t))).mp h9))], rfl⟩
  · skip
    have hlt : n < hw_ln 5 t := by
      rw [hn] at h9
      exact Nat.not_le.mp (fun q => h9 ((nI_leI (hw_ln_lt 5 t) (Nat.lt_of_le_of_lt hle (hw_ln_lt 5 t))).mpr q))
    refine hr_aload_n G dT_add_12 rfl rfl ?_
    refine hr_get (v := .ref (hw_a B 5 t)) G fT_9 (hA.lt ht) (hw_rfx hF ht rfl (by omega)) dT_add_13 ?_
    refine hr_aload_n G dT_add_16 rfl rfl ?_
    refine hr_get (v := .int (S 4 t 1)) G fT_15 (hA.lt ht) rfl dT_add_17 ?_
    refine hr_iload_n G dT_add_20 rfl rfl ?_
    refine hr_cast (n := n) (y := c) G rfl (by decide) rfl (hA.lt ht) (by first | exact hn | (rw [show (S 4 t 1) = nI n from (by first | exact hn | simp [hw_sv, hn])])) hlt rfl (hc) dT_add_21 ?_
    refine hr_aload_n G dT_add_22 rfl rfl ?_
    refine hr_dup G dT_add_23 rfl ?_
    refine hr_get (v := .int ((hw_sv S 5 t n c) 4 t 1)) G fT_15 (hA.lt ht) rfl dT_add_24 ?_
    refine hr_iconst (v := 1) G dT_add_27 (by decide) ?_
    refine hr_iadd G dT_add_28 ?_
    refine hr_put (x := (((hw_sv S 5 t n c) 4 t 1) + 1)) G fT_15 (hA.lt ht) rfl (rfl) rfl dT_add_29 ?_
    exact hr_vret G hr (fun _ h => h) dT_add_32 ⟨rfl, rfl, by rw [tx_add, if_pos hlt]; congr 1; simp [hw_sv, hn, nI_succ], rfl⟩
set_option maxRecDepth 100000 in
set_option maxHeartbeats 1000000 in
theorem m_U_setWord (l : Launch) (B : hw_B) (nb : Nat → Nat) (S : hw_St) (z : Nat) (u : Nat) (hA : hw_al nb) (hu : u < 4) (x : Int32) : hw_M l yU_setWord cU_setWord 2 none ({ frames := 0, cells := 0, slots := 0, locals := 0 }) B [.ref (hw_a B 2 u), .int x] nb S z (hw_p (.inl none) nb (hw_sv (hw_sv (hw_sv S 2 u 3 x) 2 u 2 1) 2 u 4 0) z) := by
  refine hw_M.of (by decide) (Nat.le_of_ble_eq_true rfl) ?_
  intro X fr hl hR G hr hnm
  refine hr_aload_n G dU_setWord_0 rfl rfl ?_
  refine hr_iload_n G dU_setWord_1 rfl rfl ?_
  refine hr_put (x := x) G fU_24 (hA.lt hu) rfl (rfl) rfl dU_setWord_2 ?_
  refine hr_aload_n G dU_setWord_5 rfl rfl ?_
  refine hr_iconst (v := 1) G dU_setWord_6 (by decide) ?_
  refine hr_put (x := 1) G fU_27 (hA.lt hu) rfl (rfl) rfl dU_setWord_7 ?_
  refine hr_aload_n G dU_setWord_10 rfl rfl ?_
  refine hr_iconst (v := 0) G dU_setWord_11 (by decide) ?_
  refine hr_put (x := 0) G fU_31 (hA.lt hu) rfl (rfl) rfl dU_setWord_12 ?_
  exact hr_vret G hr (fun _ h => h) dU_setWord_15 hw_pi
def us_att (S : hw_St) (u : Nat) (x t : Int32) : Int32 × hw_St := if S 2 u 2 = 0 then (-2, S) else if S 2 u 4 < 3 then (if x = S 2 u 3 then (0, hw_sv S 2 u 4 0) else (-2, hw_sv (hw_sv S 2 u 4 (S 2 u 4 + 1)) 2 u 5 t)) else (-3, S)
set_option maxRecDepth 100000 in
set_option maxHeartbeats 1000000 in
theorem m_U_attempt (l : Launch) (B : hw_B) (nb : Nat → Nat) (S : hw_St) (z : Nat) (u : Nat) (hA : hw_al nb) (hu : u < 4) (x t : Int32) : hw_M l yU_attempt cU_attempt 3 (some .int) ({ frames := 0, cells := 0, slots := 0, locals := 0 }) B [.ref (hw_a B 2 u), .int x, .int t] nb S z (hw_p (.inl (some (.int (us_att S u x t).1))) nb (us_att S u x t).2 z) := by
  refine hw_M.of (by decide) (Nat.le_of_ble_eq_true rfl) ?_
  intro X fr hl hR G hr hnm
  refine hr_aload_n G dU_attempt_0 rfl rfl ?_
  refine hr_get (v := .int (S 2 u 2)) G fU_27 (hA.lt hu) rfl dU_attempt_1 ?_
  refine hr_if_ne (tgt := 10) G dU_attempt_4 (by decide) (fun h4 => ?_) (fun h4 => ?_)
  · skip
    refine hr_aload_n G dU_attempt_10 rfl rfl ?_
    refine hr_get (v := .int (S 2 u 4)) G fU_31 (hA.lt hu) rfl dU_attempt_11 ?_
    refine hr_iconst (v := 3) G dU_attempt_14 (by decide) ?_
    refine hr_icmp_lt (tgt := 21) G dU_attempt_15 (by decide) (fun h15 => ?_) (fun h15 => ?_)
    · skip
      refine hr_iload_n G dU_attempt_21 rfl rfl ?_
      refine hr_aload_n G dU_attempt_22 rfl rfl ?_
      refine hr_get (v := .int (S 2 u 3)) G fU_24 (hA.lt hu) rfl dU_attempt_23 ?_
      refine hr_icmp_ne (tgt := 36) G dU_attempt_26 (by decide) (fun h26 => ?_) (fun h26 => ?_)
      · skip
        refine hr_aload_n G dU_attempt_36 rfl rfl ?_
        refine hr_dup G dU_attempt_37 rfl ?_
        refine hr_get (v := .int (S 2 u 4)) G fU_31 (hA.lt hu) rfl dU_attempt_38 ?_
        refine hr_iconst (v := 1) G dU_attempt_41 (by decide) ?_
        refine hr_iadd G dU_attempt_42 ?_
        refine hr_put (x := ((S 2 u 4) + 1)) G fU_31 (hA.lt hu) rfl (rfl) rfl dU_attempt_43 ?_
        refine hr_aload_n G dU_attempt_46 rfl rfl ?_
        refine hr_iload_n G dU_attempt_47 rfl rfl ?_
        refine hr_put (x := t) G fU_34 (hA.lt hu) rfl (rfl) rfl dU_attempt_48 ?_
        refine hr_bipush (v := -2) G dU_attempt_51 (by decide) ?_
        exact hr_iret G hr (fun _ h => h) dU_attempt_53 ⟨by simp only [us_att, h4, h15, h26, ↓reduceIte, eq_self, true_or, or_true, or_self], rfl, by simp only [us_att, h4, h15, h26, ↓reduceIte, eq_self, true_or, or_true, or_self], rfl⟩
      · skip
        refine hr_aload_n G dU_attempt_29 rfl rfl ?_
        refine hr_iconst (v := 0) G dU_attempt_30 (by decide) ?_
        refine hr_put (x := 0) G fU_31 (hA.lt hu) rfl (rfl) rfl dU_attempt_31 ?_
        refine hr_iconst (v := 0) G dU_attempt_34 (by decide) ?_
        exact hr_iret G hr (fun _ h => h) dU_attempt_35 ⟨by simp only [us_att, h4, h15, h26, ↓reduceIte, eq_self, true_or, or_true, or_self], rfl, by simp only [us_att, h4, h15, h26, ↓reduceIte, eq_self, true_or, or_true, or_self], rfl⟩
    · skip
      refine hr_bipush (v := -3) G dU_attempt_18 (by decide) ?_
      exact hr_iret G hr (fun _ h => h) dU_attempt_20 ⟨by simp only [us_att, h4, h15, ↓reduceIte, eq_self, true_or, or_true, or_self], rfl, (by first | rfl | simp only [us_att, h4, h15, ↓reduceIte, eq_self, true_or, or_true, or_self]), rfl⟩
  · skip
    refine hr_bipush (v := -2) G dU_attempt_7 (by decide) ?_
    exact hr_iret G hr (fun _ h => h) dU_attempt_9 ⟨by simp only [us_att, h4, ↓reduceIte, eq_self, true_or, or_true, or_self], rfl, (by first | rfl | simp only [us_att, h4, ↓reduceIte, eq_self, true_or, or_true, or_self]), rfl⟩
def us_unl (S : hw_St) (u : Nat) (t : Int32) : hw_St := if S 2 u 4 < 3 then S else if t - S 2 u 5 ≤ 20 then S else hw_sv S 2 u 4 0
set_option maxRecDepth 100000 in
set_option maxHeartbeats 1000000 in
theorem m_U_unlockIfDue (l : Launch) (B : hw_B) (nb : Nat → Nat) (S : hw_St) (z : Nat) (u : Nat) (hA : hw_al nb) (hu : u < 4) (t : Int32) : hw_M l yU_unlockIfDue cU_unlockIfDue 2 none ({ frames := 0, cells := 0, slots := 0, locals := 0 }) B [.ref (hw_a B 2 u), .int t] nb S z (hw_p (.inl none) nb (us_unl S u t) z) := by
  refine hw_M.of (by decide) (Nat.le_of_ble_eq_true rfl) ?_
  intro X fr hl hR G hr hnm
  refine hr_aload_n G dU_unlockIfDue_0 rfl rfl ?_
  refine hr_get (v := .int (S 2 u 4)) G fU_31 (hA.lt hu) rfl dU_unlockIfDue_1 ?_
  refine hr_iconst (v := 3) G dU_unlockIfDue_4 (by decide) ?_
  refine hr_icmp_lt (tgt := 24) G dU_unlockIfDue_5 (by decide) (fun h5 => ?_) (fun h5 => ?_)
  · skip
    exact hr_vret G hr (fun _ h => h) dU_unlockIfDue_24 ⟨rfl, rfl, by simp only [us_unl, h5, ↓reduceIte, eq_self, true_or, or_true, or_self], rfl⟩
  · skip
    refine hr_iload_n G dU_unlockIfDue_8 rfl rfl ?_
    refine hr_aload_n G dU_unlockIfDue_9 rfl rfl ?_
    refine hr_get (v := .int (S 2 u 5)) G fU_34 (hA.lt hu) rfl dU_unlockIfDue_10 ?_
    refine hr_isub G dU_unlockIfDue_13 ?_
    refine hr_bipush (v := 20) G dU_unlockIfDue_14 (by decide) ?_
    refine hr_icmp_le (tgt := 24) G dU_unlockIfDue_16 (by decide) (fun h16 => ?_) (fun h16 => ?_)
    · skip
      exact hr_vret G hr (fun _ h => h) dU_unlockIfDue_24 ⟨rfl, rfl, by simp only [us_unl, h5, h16, ↓reduceIte, eq_self, true_or, or_true, or_self], rfl⟩
    · skip
      refine hr_aload_n G dU_unlockIfDue_19 rfl rfl ?_
      refine hr_iconst (v := 0) G dU_unlockIfDue_20 (by decide) ?_
      refine hr_put (x := 0) G fU_31 (hA.lt hu) rfl (rfl) rfl dU_unlockIfDue_21 ?_
      exact hr_vret G hr (fun _ h => h) dU_unlockIfDue_24 ⟨rfl, rfl, by simp only [us_unl, h5, h16, ↓reduceIte, eq_self, true_or, or_true, or_self], rfl⟩
def ss_over (S : hw_St) (i : Nat) (t : Int32) : Int32 := if (if S 9 i 3 = 0 then (30 : Int32) else 150) < t - S 9 i 4 then 1 else if t - S 9 i 2 ≤ (if S 9 i 3 = 0 then (120 : Int32) else 400) then 0 else 1
set_option maxRecDepth 100000 in
set_option maxHeartbeats 1000000 in
theorem m_S_isOver (l : Launch) (B : hw_B) (nb : Nat → Nat) (S : hw_St) (z : Nat) (i : Nat) (t : Int32) (hi : i < nb 9) : hw_M l yS_isOver cS_isOver 4 (some .boolean) ({ frames := 0, cells := 0, slots := 0, locals := 0 }) B [.ref (hw_a B 9 i), .int t] nb S z (hw_p (.inl (some (.int (ss_over S i t)))) nb S z) := by
  refine hw_M.of (by decide) (Nat.le_of_ble_eq_true rfl) ?_
  intro X fr hl hR G hr hnm
  refine hr_aload_n G dS_isOver_0 rfl rfl ?_
  refine hr_get (v := .int (S 9 i 3)) G fS_24 hi rfl dS_isOver_1 ?_
  refine hr_if_eq (tgt := 13) G dS_isOver_4 (by decide) (fun h4 => ?_) (fun h4 => ?_)
  · skip
    refine hr_bipush (v := 30) G dS_isOver_13 (by decide) ?_
    refine hr_istore_n (i := 2) G dS_isOver_15 rfl (by decide) ?_
    refine hr_aload_n G dS_isOver_16 rfl rfl ?_
    refine hr_get (v := .int (S 9 i 3)) G fS_24 hi rfl dS_isOver_17 ?_
    refine hr_if_eq (tgt := 29) G dS_isOver_20 (by decide) (fun _ => ?_) (fun h => absurd h4 h)
    refine hr_bipush (v := 120) G dS_isOver_29 (by decide) ?_
    refine hr_istore_n (i := 3) G dS_isOver_31 rfl (by decide) ?_
    refine hr_iload_n G dS_isOver_32 rfl rfl ?_
    refine hr_aload_n G dS_isOver_33 rfl rfl ?_
    refine hr_get (v := .int (S 9 i 4)) G fS_27 hi rfl dS_isOver_34 ?_
    refine hr_isub G dS_isOver_37 ?_
    refine hr_iload_n G dS_isOver_38 rfl rfl ?_
    refine hr_icmp_gt (tgt := 52) G dS_isOver_39 (by decide) (fun h39 => ?_) (fun h39 => ?_)
    · skip
      refine hr_iconst (v := 1) G dS_isOver_52 (by decide) ?_
      refine hr_goto (tgt := 57) G dS_isOver_53 (by decide) ?_
      exact hr_zret G hr (rfl) (fun _ h => h) dS_isOver_57 ⟨by simp only [ss_over, h4, h39, ↓reduceIte, eq_self, true_or, or_true, or_self], rfl, (by first | rfl | simp only [ss_over, h4, h39, ↓reduceIte, eq_self, true_or, or_true, or_self]), rfl⟩
    · skip
      refine hr_iload_n G dS_isOver_42 rfl rfl ?_
      refine hr_aload_n G dS_isOver_43 rfl rfl ?_
      refine hr_get (v := .int (S 9 i 2)) G fS_21 hi rfl dS_isOver_44 ?_
      refine hr_isub G dS_isOver_47 ?_
      refine hr_iload_n G dS_isOver_48 rfl rfl ?_
      refine hr_icmp_le (tgt := 56) G dS_isOver_49 (by decide) (fun h49 => ?_) (fun h49 => ?_)
      · skip
        refine hr_iconst (v := 0) G dS_isOver_56 (by decide) ?_
        exact hr_zret G hr (rfl) (fun _ h => h) dS_isOver_57 ⟨by simp only [ss_over, h4, h39, h49, ↓reduceIte, eq_self, true_or, or_true, or_self], rfl, (by first | rfl | simp only [ss_over, h4, h39, h49, ↓reduceIte, eq_self, true_or, or_true, or_self]), rfl⟩
      · skip
        refine hr_iconst (v := 1) G dS_isOver_52 (by decide) ?_
        refine hr_goto (tgt := 57) G dS_isOver_53 (by decide) ?_
        exact hr_zret G hr (rfl) (fun _ h => h) dS_isOver_57 ⟨by simp only [ss_over, h4, h39, h49, ↓reduceIte, eq_self, true_or, or_true, or_self], rfl, (by first | rfl | simp only [ss_over, h4, h39, h49, ↓reduceIte, eq_self, true_or, or_true, or_self]), rfl⟩
  · skip
    refine hr_sipush (v := 150) G dS_isOver_7 (by decide) ?_
    refine hr_goto (tgt := 15) G dS_isOver_10 (by decide) ?_
    refine hr_istore_n (i := 2) G dS_isOver_15 rfl (by decide) ?_
    refine hr_aload_n G dS_isOver_16 rfl rfl ?_
    refine hr_get (v := .int (S 9 i 3)) G fS_24 hi rfl dS_isOver_17 ?_
    refine hr_if_eq (tgt := 29) G dS_isOver_20 (by decide) (fun h => absurd h h4) (fun _ => ?_)
    refine hr_sipush (v := 400) G dS_isOver_23 (by decide) ?_
    refine hr_goto (tgt := 31) G dS_isOver_26 (by decide) ?_
    refine hr_istore_n (i := 3) G dS_isOver_31 rfl (by decide) ?_
    refine hr_iload_n G dS_isOver_32 rfl rfl ?_
    refine hr_aload_n G dS_isOver_33 rfl rfl ?_
    refine hr_get (v := .int (S 9 i 4)) G fS_27 hi rfl dS_isOver_34 ?_
    refine hr_isub G dS_isOver_37 ?_
    refine hr_iload_n G dS_isOver_38 rfl rfl ?_
    refine hr_icmp_gt (tgt := 52) G dS_isOver_39 (by decide) (fun h39 => ?_) (fun h39 => ?_)
    · skip
      refine hr_iconst (v := 1) G dS_isOver_52 (by decide) ?_
      refine hr_goto (tgt := 57) G dS_isOver_53 (by decide) ?_
      exact hr_zret G hr (rfl) (fun _ h => h) dS_isOver_57 ⟨by simp only [ss_over, h4, h39, ↓reduceIte, eq_self, true_or, or_true, or_self], rfl, (by first | rfl | simp only [ss_over, h4, h39, ↓reduceIte, eq_self, true_or, or_true, or_self]), rfl⟩
    · skip
      refine hr_iload_n G dS_isOver_42 rfl rfl ?_
      refine hr_aload_n G dS_isOver_43 rfl rfl ?_
      refine hr_get (v := .int (S 9 i 2)) G fS_21 hi rfl dS_isOver_44 ?_
      refine hr_isub G dS_isOver_47 ?_
      refine hr_iload_n G dS_isOver_48 rfl rfl ?_
      refine hr_icmp_le (tgt := 56) G dS_isOver_49 (by decide) (fun h49 => ?_) (fun h49 => ?_)
      · skip
        refine hr_iconst (v := 0) G dS_isOver_56 (by decide) ?_
        exact hr_zret G hr (rfl) (fun _ h => h) dS_isOver_57 ⟨by simp only [ss_over, h4, h39, h49, ↓reduceIte, eq_self, true_or, or_true, or_self], rfl, (by first | rfl | simp only [ss_over, h4, h39, h49, ↓reduceIte, eq_self, true_or, or_true, or_self]), rfl⟩
      · skip
        refine hr_iconst (v := 1) G dS_isOver_52 (by decide) ?_
        refine hr_goto (tgt := 57) G dS_isOver_53 (by decide) ?_
        exact hr_zret G hr (rfl) (fun _ h => h) dS_isOver_57 ⟨by simp only [ss_over, h4, h39, h49, ↓reduceIte, eq_self, true_or, or_true, or_self], rfl, (by first | rfl | simp only [ss_over, h4, h39, h49, ↓reduceIte, eq_self, true_or, or_true, or_self]), rfl⟩
def tk_good (S : hw_St) (i s : Nat) (t : Int32) : Int32 := if S 11 i 8 = 0 then (if S 9 s 5 = 0 then 0 else if (if S 11 i 1 = 2 then (60 : Int32) else 10) < t - S 11 i 4 then 0 else 1) else 0
set_option maxRecDepth 100000 in
set_option maxHeartbeats 1000000 in
theorem m_K_isGood (l : Launch) (B : hw_B) (nb : Nat → Nat) (S : hw_St) (z : Nat) (i s : Nat) (hi : i < nb 11) (hs : s < nb 9) (h31 : s < 2 ^ 31) (hS : S 11 i 2 = nI s) (t : Int32) : hw_M l yK_isGood cK_isGood 3 (some .boolean) ({ frames := 0, cells := 0, slots := 0, locals := 0 }) B [.ref (hw_a B 11 i), .int t] nb S z (hw_p (.inl (some (.int (tk_good S i s t)))) nb S z) := by
  refine hw_M.of (by decide) (Nat.le_of_ble_eq_true rfl) ?_
  intro X fr hl hR G hr hnm
  refine hr_aload_n G dK_isGood_0 rfl rfl ?_
  refine hr_get (v := .int (S 11 i 1)) G fK_15 hi rfl dK_isGood_1 ?_
  refine hr_iconst (v := 2) G dK_isGood_4 (by decide) ?_
  refine hr_icmp_ne (tgt := 13) G dK_isGood_5 (by decide) (fun h5 => ?_) (fun h5 => ?_)
  · skip
    refine hr_bipush (v := 10) G dK_isGood_13 (by decide) ?_
    refine hr_istore_n (i := 2) G dK_isGood_15 rfl (by decide) ?_
    refine hr_aload_n G dK_isGood_16 rfl rfl ?_
    refine hr_get (v := .int (S 11 i 8)) G fK_35 hi rfl dK_isGood_17 ?_
    refine hr_if_ne (tgt := 47) G dK_isGood_20 (by decide) (fun h20 => ?_) (fun h20 => ?_)
    · skip
      refine hr_iconst (v := 0) G dK_isGood_47 (by decide) ?_
      exact hr_zret G hr (rfl) (fun _ h => h) dK_isGood_48 ⟨by simp only [tk_good, h5, h20, ↓reduceIte, eq_self, true_or, or_true, or_self], rfl, (by first | rfl | simp only [tk_good, h5, h20, ↓reduceIte, eq_self, true_or, or_true, or_self]), rfl⟩
    · skip
      refine hr_aload_n G dK_isGood_23 rfl rfl ?_
      refine hr_get (v := .ref (hw_a B 9 s)) G fK_18 hi (hw_rdy hS (by omega)) dK_isGood_24 ?_
      refine hr_get (v := .int (S 9 s 5)) G fK_39 hs rfl dK_isGood_27 ?_
      refine hr_if_eq (tgt := 47) G dK_isGood_30 (by decide) (fun h30 => ?_) (fun h30 => ?_)
      · skip
        refine hr_iconst (v := 0) G dK_isGood_47 (by decide) ?_
        exact hr_zret G hr (rfl) (fun _ h => h) dK_isGood_48 ⟨by simp only [tk_good, h5, h20, h30, ↓reduceIte, eq_self, true_or, or_true, or_self], rfl, (by first | rfl | simp only [tk_good, h5, h20, h30, ↓reduceIte, eq_self, true_or, or_true, or_self]), rfl⟩
      · skip
        refine hr_iload_n G dK_isGood_33 rfl rfl ?_
        refine hr_aload_n G dK_isGood_34 rfl rfl ?_
        refine hr_get (v := .int (S 11 i 4)) G fK_25 hi rfl dK_isGood_35 ?_
        refine hr_isub G dK_isGood_38 ?_
        refine hr_iload_n G dK_isGood_39 rfl rfl ?_
        refine hr_icmp_gt (tgt := 47) G dK_isGood_40 (by decide) (fun h40 => ?_) (fun h40 => ?_)
        · skip
          refine hr_iconst (v := 0) G dK_isGood_47 (by decide) ?_
          exact hr_zret G hr (rfl) (fun _ h => h) dK_isGood_48 ⟨by simp only [tk_good, h5, h20, h30, h40, ↓reduceIte, eq_self, true_or, or_true, or_self], rfl, (by first | rfl | simp only [tk_good, h5, h20, h30, h40, ↓reduceIte, eq_self, true_or, or_true, or_self]), rfl⟩
        · skip
          refine hr_iconst (v := 1) G dK_isGood_43 (by decide) ?_
          refine hr_goto (tgt := 48) G dK_isGood_44 (by decide) ?_
          exact hr_zret G hr (rfl) (fun _ h => h) dK_isGood_48 ⟨by simp only [tk_good, h5, h20, h30, h40, ↓reduceIte, eq_self, true_or, or_true, or_self], rfl, (by first | rfl | simp only [tk_good, h5, h20, h30, h40, ↓reduceIte, eq_self, true_or, or_true, or_self]), rfl⟩
  · skip
    refine hr_bipush (v := 60) G dK_isGood_8 (by decide) ?_
    refine hr_goto (tgt := 15) G dK_isGood_10 (by decide) ?_
    refine hr_istore_n (i := 2) G dK_isGood_15 rfl (by decide) ?_
    refine hr_aload_n G dK_isGood_16 rfl rfl ?_
    refine hr_get (v := .int (S 11 i 8)) G fK_35 hi rfl dK_isGood_17 ?_
    refine hr_if_ne (tgt := 47) G dK_isGood_20 (by decide) (fun h20 => ?_) (fun h20 => ?_)
    · skip
      refine hr_iconst (v := 0) G dK_isGood_47 (by decide) ?_
      exact hr_zret G hr (rfl) (fun _ h => h) dK_isGood_48 ⟨by simp only [tk_good, h5, h20, ↓reduceIte, eq_self, true_or, or_true, or_self], rfl, (by first | rfl | simp only [tk_good, h5, h20, ↓reduceIte, eq_self, true_or, or_true, or_self]), rfl⟩
    · skip
      refine hr_aload_n G dK_isGood_23 rfl rfl ?_
      refine hr_get (v := .ref (hw_a B 9 s)) G fK_18 hi (hw_rdy hS (by omega)) dK_isGood_24 ?_
      refine hr_get (v := .int (S 9 s 5)) G fK_39 hs rfl dK_isGood_27 ?_
      refine hr_if_eq (tgt := 47) G dK_isGood_30 (by decide) (fun h30 => ?_) (fun h30 => ?_)
      · skip
        refine hr_iconst (v := 0) G dK_isGood_47 (by decide) ?_
        exact hr_zret G hr (rfl) (fun _ h => h) dK_isGood_48 ⟨by simp only [tk_good, h5, h20, h30, ↓reduceIte, eq_self, true_or, or_true, or_self], rfl, (by first | rfl | simp only [tk_good, h5, h20, h30, ↓reduceIte, eq_self, true_or, or_true, or_self]), rfl⟩
      · skip
        refine hr_iload_n G dK_isGood_33 rfl rfl ?_
        refine hr_aload_n G dK_isGood_34 rfl rfl ?_
        refine hr_get (v := .int (S 11 i 4)) G fK_25 hi rfl dK_isGood_35 ?_
        refine hr_isub G dK_isGood_38 ?_
        refine hr_iload_n G dK_isGood_39 rfl rfl ?_
        refine hr_icmp_gt (tgt := 47) G dK_isGood_40 (by decide) (fun h40 => ?_) (fun h40 => ?_)
        · skip
          refine hr_iconst (v := 0) G dK_isGood_47 (by decide) ?_
          exact hr_zret G hr (rfl) (fun _ h => h) dK_isGood_48 ⟨by simp only [tk_good, h5, h20, h30, h40, ↓reduceIte, eq_self, true_or, or_true, or_self], rfl, (by first | rfl | simp only [tk_good, h5, h20, h30, h40, ↓reduceIte, eq_self, true_or, or_true, or_self]), rfl⟩
        · skip
          refine hr_iconst (v := 1) G dK_isGood_43 (by decide) ?_
          refine hr_goto (tgt := 48) G dK_isGood_44 (by decide) ?_
          exact hr_zret G hr (rfl) (fun _ h => h) dK_isGood_48 ⟨by simp only [tk_good, h5, h20, h30, h40, ↓reduceIte, eq_self, true_or, or_true, or_self], rfl, (by first | rfl | simp only [tk_good, h5, h20, h30, h40, ↓reduceIte, eq_self, true_or, or_true, or_self]), rfl⟩
