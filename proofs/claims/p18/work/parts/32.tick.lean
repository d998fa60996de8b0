/-! tick. -/
set_option maxRecDepth 100000 in
set_option maxHeartbeats 1000000 in
theorem m_H_tick_a (l : Launch) (hst : l.stackTraces = false) (B : hw_B) (nb : Nat → Nat) (S : hw_St) (z : Nat) (x : Int32) (hx : x < 1 ∨ ¬ x ≤ 200) (hI : ic nb S) : hw_MX l yH_tick cH_tick 3 (some .int) ({ frames := 6, cells := 1, slots := 6, locals := 100 }) B [.ref (hw_a B 0 0), .int x] nb S z (hw_qp (.inr "java/lang/IllegalArgumentException") nb S) := by
  refine hw_MX.of (by decide) (Nat.le_of_ble_eq_true rfl) ?_
  intro X fr hl hR G hr htab
  obtain ⟨hA, hF, ⟨hn9, hc9⟩, ⟨hn11, hc11⟩, ⟨nm, hnm1, hnm2⟩, hT, hSe, hTi, hU, hW0, hW⟩ := hI
  refine hr_iload_n G dH_tick_0 rfl rfl ?_
  refine hr_iconst (v := 1) G dH_tick_1 (by decide) ?_
  refine hr_icmp_lt (tgt := 12) G dH_tick_2 (by decide) (fun h2 => ?_) (fun h2 => ?_)
  · skip
    exact hr_throw (E := "java/lang/IllegalArgumentException") (names := ["java/lang/RuntimeException", "java/lang/Exception"]) (si := 28) G (by rw [hl]; exact hst) htab (by decide) (by decide) qH_51 in_IAE rfl at_IAE go_IAE dH_tick_12 dH_tick_15 dH_tick_16 dH_tick_18 dH_tick_21 (by rw [hR]; decide) (by rw [hR]; decide) (by rw [hR]; decide) (by rw [hR]; decide) (by decide) (by decide) (fun _ _ => ⟨rfl, rfl, eqv.rf hT⟩)
  · skip
    refine hr_iload_n G dH_tick_5 rfl rfl ?_
    refine hr_sipush (v := 200) G dH_tick_6 (by decide) ?_
    refine hr_icmp_le (tgt := 22) G dH_tick_9 (by decide) (fun h => absurd h (hx.resolve_left h2)) (fun _ => ?_)
    exact hr_throw (E := "java/lang/IllegalArgumentException") (names := ["java/lang/RuntimeException", "java/lang/Exception"]) (si := 28) G (by rw [hl]; exact hst) htab (by decide) (by decide) qH_51 in_IAE rfl at_IAE go_IAE dH_tick_12 dH_tick_15 dH_tick_16 dH_tick_18 dH_tick_21 (by rw [hR]; decide) (by rw [hR]; decide) (by rw [hR]; decide) (by rw [hR]; decide) (by decide) (by decide) (fun _ _ => ⟨rfl, rfl, eqv.rf hT⟩)
theorem us_unl_k {S : hw_St} {u : Nat} {t : Int32} : ∀ k i j, ¬ k = 2 → us_unl S u t k i j = S k i j := fun k i j hk => by
  unfold us_unl hw_sv
  repeat' split
  all_goals first | rfl | (simp only []; split <;> first | (rename_i e; exact absurd e.1 hk) | rfl)
theorem ic_unl {nb : Nat → Nat} {S : hw_St} (h : ic nb S) (u : Nat) (t : Int32) : ic nb (us_unl S u t) := by
  unfold us_unl
  split
  · exact h
  · split
    · exact h
    · exact ic_sv h (ipp_2_4 ⟨0, by omega, rfl⟩)
def hs_unl (S : hw_St) (t : Int32) : hw_St := us_unl (us_unl (us_unl (us_unl S 0 t) 1 t) 2 t) 3 t
def hs_tk (n : Nat) (t : Int32) (S : hw_St) : Nat → hw_St
  | 0 => S
  | k + 1 => if hs_tk n t S k 9 k 5 = 0 then hs_tk n t S k else if ss_over (hs_tk n t S k) k t = 0 then hs_tk n t S k else hs_endk k (hw_sv (hs_tk n t S k) 9 k 5 0) n
theorem hs_tk_i {nb : Nat → Nat} {S : hw_St} {t : Int32} (h : ic nb S) (ht : S 0 0 11 = t) (k : Nat) : ic nb (hs_tk (nb 11) t S k) ∧ hs_tk (nb 11) t S k 0 0 11 = t := by
  induction k with
  | zero => exact ⟨h, ht⟩
  | succ k ih =>
    unfold hs_tk
    split
    · exact ih
    · split
      · exact ih
      · have q := ic_end ih.1 k (nb 11)
        exact ⟨q.2, by rw [q.1.1 0 0 11 (by decide) (by decide)]; exact ih.2⟩
set_option maxRecDepth 100000 in
set_option maxHeartbeats 1000000 in
theorem m_H_tick_c (l : Launch) (hst : l.stackTraces = false) (B : hw_B) (nb : Nat → Nat) (S : hw_St) (z : Nat) (x : Int32) (hx1 : ¬ x < 1) (hx2 : x ≤ 200) (hI : ic nb S) : hw_MX l yH_tick cH_tick 3 (some .int) ({ frames := 6, cells := 1, slots := 6, locals := 100 }) B [.ref (hw_a B 0 0), .int x] nb S z (hw_qp (.inl (some (.int (S 0 0 11 + x)))) nb (hs_tk (nb 11) (S 0 0 11 + x) (hs_unl (hw_sv S 0 0 11 (S 0 0 11 + x)) (S 0 0 11 + x)) (nb 9))) := by
  refine hw_MX.of (by decide) (Nat.le_of_ble_eq_true rfl) ?_
  intro X fr hl hR G hr htab
  have hI1 : ic nb (hw_sv S 0 0 11 (S 0 0 11 + x)) := ic_sv hI ipp_0_11
  have hI2 : ic nb (us_unl (hw_sv S 0 0 11 (S 0 0 11 + x)) 0 (S 0 0 11 + x)) := ic_unl hI1 0 _
  have hc1 : (us_unl (hw_sv S 0 0 11 (S 0 0 11 + x)) 0 (S 0 0 11 + x)) 0 0 11 = (S 0 0 11 + x) := by rw [us_unl_k _ _ _ (by decide)]; exact hw_sv_same
  have hI3 : ic nb (us_unl (us_unl (hw_sv S 0 0 11 (S 0 0 11 + x)) 0 (S 0 0 11 + x)) 1 (S 0 0 11 + x)) := ic_unl hI2 1 _
  have hc2 : (us_unl (us_unl (hw_sv S 0 0 11 (S 0 0 11 + x)) 0 (S 0 0 11 + x)) 1 (S 0 0 11 + x)) 0 0 11 = (S 0 0 11 + x) := by rw [us_unl_k _ _ _ (by decide)]; exact hc1
  have hI4 : ic nb (us_unl (us_unl (us_unl (hw_sv S 0 0 11 (S 0 0 11 + x)) 0 (S 0 0 11 + x)) 1 (S 0 0 11 + x)) 2 (S 0 0 11 + x)) := ic_unl hI3 2 _
  have hc3 : (us_unl (us_unl (us_unl (hw_sv S 0 0 11 (S 0 0 11 + x)) 0 (S 0 0 11 + x)) 1 (S 0 0 11 + x)) 2 (S 0 0 11 + x)) 0 0 11 = (S 0 0 11 + x) := by rw [us_unl_k _ _ _ (by decide)]; exact hc2
  have hI5 : ic nb (us_unl (us_unl (us_unl (us_unl (hw_sv S 0 0 11 (S 0 0 11 + x)) 0 (S 0 0 11 + x)) 1 (S 0 0 11 + x)) 2 (S 0 0 11 + x)) 3 (S 0 0 11 + x)) := ic_unl hI4 3 _
  have hc4 : (us_unl (us_unl (us_unl (us_unl (hw_sv S 0 0 11 (S 0 0 11 + x)) 0 (S 0 0 11 + x)) 1 (S 0 0 11 + x)) 2 (S 0 0 11 + x)) 3 (S 0 0 11 + x)) 0 0 11 = (S 0 0 11 + x) := by rw [us_unl_k _ _ _ (by decide)]; exact hc3
  have hc0 : (hw_sv S 0 0 11 (S 0 0 11 + x)) 0 0 11 = (S 0 0 11 + x) := hw_sv_same
  obtain ⟨hA, hF1, ⟨hn9, hc9⟩, ⟨hn11, hc11⟩, -, hT, hSe, hTi, hU, hW0, hW⟩ := hI1
  refine hr_iload_n G dH_tick_0 rfl rfl ?_
  refine hr_iconst (v := 1) G dH_tick_1 (by decide) ?_
  refine hr_icmp_lt (tgt := 12) G dH_tick_2 (by decide) (fun h => absurd h hx1) (fun _ => ?_)
  refine hr_iload_n G dH_tick_5 rfl rfl ?_
  refine hr_sipush (v := 200) G dH_tick_6 (by decide) ?_
  refine hr_icmp_le (tgt := 22) G dH_tick_9 (by decide) (fun _ => ?_) (fun h => absurd hx2 h)
  refine hr_aload_n G dH_tick_22 rfl rfl ?_
  refine hr_dup G dH_tick_23 rfl ?_
  refine hr_get (v := .int (S 0 0 11)) G fH_106 (hA.lt (show 0 < hw_n0 0 by decide)) rfl dH_tick_24 ?_
  refine hr_iload_n G dH_tick_27 rfl rfl ?_
  refine hr_iadd G dH_tick_28 ?_
  refine hr_put (x := ((S 0 0 11) + x)) G fH_106 (hA.lt (show 0 < hw_n0 0 by decide)) rfl (rfl) rfl dH_tick_29 ?_
  refine hr_iconst (v := 0) G dH_tick_32 (by decide) ?_
  refine hr_istore_n (i := 2) G dH_tick_33 rfl (by decide) ?_
  refine hr_iload_n G dH_tick_34 rfl rfl ?_
  refine hr_iconst (v := 4) G dH_tick_35 (by decide) ?_
  refine hr_icmp_ge (tgt := 58) G dH_tick_36 (by decide) (fun h => absurd h (by decide)) (fun _ => ?_)
  refine hr_aload_n G dH_tick_39 rfl rfl ?_
  refine hr_get (v := .ref (hw_a B 1 0)) G fH_11 (hA.lt (show 0 < hw_n0 0 by decide)) (hw_rfx hF1 (by decide) rfl (by decide)) dH_tick_40 ?_
  refine hr_iload_n G dH_tick_43 rfl rfl ?_
  refine hr_aald (n := 0) (v := .ref (hw_a B 2 0)) G rfl (by decide) rfl (hA.lt (show 0 < hw_n0 1 by decide)) (by decide) (by decide) (hw_rfx hF1 (by decide) rfl (by omega)) dH_tick_44 ?_
  refine hr_aload_n G dH_tick_45 rfl rfl ?_
  refine hr_get (v := .int (S 0 0 11 + x)) G fH_106 (hA.lt (show 0 < hw_n0 0 by decide)) (congrArg Value.int hc0) dH_tick_46 ?_
  refine hr_callVn (k := 2) (i := 0) G rfl rfl (hA.lt (show 0 < hw_n0 2 by decide)) kH_201 iU_unlockIfDue vU_unlockIfDue (m_U_unlockIfDue _ _ _ _ _ 0 hA (by decide) (S 0 0 11 + x)) rfl rfl (Nat.le_of_ble_eq_true rfl) ⟨by rw [hR]; decide, by rw [hR]; decide⟩ ⟨by rw [hR]; decide, by rw [hR]; decide⟩ dH_tick_49 ?_
  refine hr_iinc (v := 1) G dH_tick_52 rfl (by decide) (by decide) ?_
  refine hr_goto (tgt := 34) G dH_tick_55 (by decide) ?_
  refine hr_iload_n G dH_tick_34 rfl rfl ?_
  refine hr_iconst (v := 4) G dH_tick_35 (by decide) ?_
  refine hr_icmp_ge (tgt := 58) G dH_tick_36 (by decide) (fun h => absurd h (by decide)) (fun _ => ?_)
  refine hr_aload_n G dH_tick_39 rfl rfl ?_
  refine hr_get (v := .ref (hw_a B 1 0)) G fH_11 (hA.lt (show 0 < hw_n0 0 by decide)) (hw_rfx hI2.2.1 (by decide) rfl (by decide)) dH_tick_40 ?_
  refine hr_iload_n G dH_tick_43 rfl rfl ?_
  refine hr_aald (n := 1) (v := .ref (hw_a B 2 1)) G rfl (by decide) rfl (hA.lt (show 0 < hw_n0 1 by decide)) (by decide) (by decide) (hw_rfx hI2.2.1 (by decide) rfl (by omega)) dH_tick_44 ?_
  refine hr_aload_n G dH_tick_45 rfl rfl ?_
  refine hr_get (v := .int (S 0 0 11 + x)) G fH_106 (hA.lt (show 0 < hw_n0 0 by decide)) (congrArg Value.int hc1) dH_tick_46 ?_
  refine hr_callVn (k := 2) (i := 1) G rfl rfl (hA.lt (show 1 < hw_n0 2 by decide)) kH_201 iU_unlockIfDue vU_unlockIfDue (m_U_unlockIfDue _ _ _ _ _ 1 hA (by decide) (S 0 0 11 + x)) rfl rfl (Nat.le_of_ble_eq_true rfl) ⟨by rw [hR]; decide, by rw [hR]; decide⟩ ⟨by rw [hR]; decide, by rw [hR]; decide⟩ dH_tick_49 ?_
  refine hr_iinc (v := 2) G dH_tick_52 rfl (by decide) (by decide) ?_
  refine hr_goto (tgt := 34) G dH_tick_55 (by decide) ?_
  refine hr_iload_n G dH_tick_34 rfl rfl ?_
  refine hr_iconst (v := 4) G dH_tick_35 (by decide) ?_
  refine hr_icmp_ge (tgt := 58) G dH_tick_36 (by decide) (fun h => absurd h (by decide)) (fun _ => ?_)
  refine hr_aload_n G dH_tick_39 rfl rfl ?_
  refine hr_get (v := .ref (hw_a B 1 0)) G fH_11 (hA.lt (show 0 < hw_n0 0 by decide)) (hw_rfx hI3.2.1 (by decide) rfl (by decide)) dH_tick_40 ?_
  refine hr_iload_n G dH_tick_43 rfl rfl ?_
  refine hr_aald (n := 2) (v := .ref (hw_a B 2 2)) G rfl (by decide) rfl (hA.lt (show 0 < hw_n0 1 by decide)) (by decide) (by decide) (hw_rfx hI3.2.1 (by decide) rfl (by omega)) dH_tick_44 ?_
  refine hr_aload_n G dH_tick_45 rfl rfl ?_
  refine hr_get (v := .int (S 0 0 11 + x)) G fH_106 (hA.lt (show 0 < hw_n0 0 by decide)) (congrArg Value.int hc2) dH_tick_46 ?_
  refine hr_callVn (k := 2) (i := 2) G rfl rfl (hA.lt (show 2 < hw_n0 2 by decide)) kH_201 iU_unlockIfDue vU_unlockIfDue (m_U_unlockIfDue _ _ _ _ _ 2 hA (by decide) (S 0 0 11 + x)) rfl rfl (Nat.le_of_ble_eq_true rfl) ⟨by rw [hR]; decide, by rw [hR]; decide⟩ ⟨by rw [hR]; decide, by rw [hR]; decide⟩ dH_tick_49 ?_
  refine hr_iinc (v := 3) G dH_tick_52 rfl (by decide) (by decide) ?_
  refine hr_goto (tgt := 34) G dH_tick_55 (by decide) ?_
  refine hr_iload_n G dH_tick_34 rfl rfl ?_
  refine hr_iconst (v := 4) G dH_tick_35 (by decide) ?_
  refine hr_icmp_ge (tgt := 58) G dH_tick_36 (by decide) (fun h => absurd h (by decide)) (fun _ => ?_)
  refine hr_aload_n G dH_tick_39 rfl rfl ?_
  refine hr_get (v := .ref (hw_a B 1 0)) G fH_11 (hA.lt (show 0 < hw_n0 0 by decide)) (hw_rfx hI4.2.1 (by decide) rfl (by decide)) dH_tick_40 ?_
  refine hr_iload_n G dH_tick_43 rfl rfl ?_
  refine hr_aald (n := 3) (v := .ref (hw_a B 2 3)) G rfl (by decide) rfl (hA.lt (show 0 < hw_n0 1 by decide)) (by decide) (by decide) (hw_rfx hI4.2.1 (by decide) rfl (by omega)) dH_tick_44 ?_
  refine hr_aload_n G dH_tick_45 rfl rfl ?_
  refine hr_get (v := .int (S 0 0 11 + x)) G fH_106 (hA.lt (show 0 < hw_n0 0 by decide)) (congrArg Value.int hc3) dH_tick_46 ?_
  refine hr_callVn (k := 2) (i := 3) G rfl rfl (hA.lt (show 3 < hw_n0 2 by decide)) kH_201 iU_unlockIfDue vU_unlockIfDue (m_U_unlockIfDue _ _ _ _ _ 3 hA (by decide) (S 0 0 11 + x)) rfl rfl (Nat.le_of_ble_eq_true rfl) ⟨by rw [hR]; decide, by rw [hR]; decide⟩ ⟨by rw [hR]; decide, by rw [hR]; decide⟩ dH_tick_49 ?_
  refine hr_iinc (v := 4) G dH_tick_52 rfl (by decide) (by decide) ?_
  refine hr_goto (tgt := 34) G dH_tick_55 (by decide) ?_
  refine hr_iload_n G dH_tick_34 rfl rfl ?_
  refine hr_iconst (v := 4) G dH_tick_35 (by decide) ?_
  refine hr_icmp_ge (tgt := 58) G dH_tick_36 (by decide) (fun _ => ?_) (fun h => absurd (by decide) h)
  refine hr_iconst (v := 0) G dH_tick_58 (by decide) ?_
  refine hr_istore_n (i := 2) G dH_tick_59 rfl (by decide) ?_
  refine hr_S (S' := (hs_unl (hw_sv S 0 0 11 (S 0 0 11 + x)) (S 0 0 11 + x))) rfl ?_
  refine hr_L (L' := [(0, .ref (hw_a B 0 0)), (2, .int (nI 0))]) (hw_s1 rfl (hw_s1 rfl (hw_s0))) ?_
  have hs0 := fun k => hs_tk_i (nb := nb) (S := (hs_unl (hw_sv S 0 0 11 (S 0 0 11 + x)) (S 0 0 11 + x))) (t := (S 0 0 11 + x)) hI5 hc4 k
  suffices H : ∀ (m k : Nat) (S1 : hw_St), S1 = hs_tk (nb 11) (S 0 0 11 + x) (hs_unl (hw_sv S 0 0 11 (S 0 0 11 + x)) (S 0 0 11 + x)) k → nb 9 - k = m → k ≤ nb 9 → hw_V X B fr nb S1 z 0 0 (hw_QX X B fr (hw_qp (.inl (some (.int (S 0 0 11 + x)))) nb (hs_tk (nb 11) (S 0 0 11 + x) (hs_unl (hw_sv S 0 0 11 (S 0 0 11 + x)) (S 0 0 11 + x)) (nb 9))) 1 6) 3 60 [(0, .ref (hw_a B 0 0)), (2, .int (nI k))] [] from H _ 0 _ rfl rfl (Nat.zero_le _)
  intro m
  induction m with
  | zero =>
    intro k S1 hS1 hm hk
    obtain rfl : k = nb 9 := by omega
    have hJ := hs0 (nb 9)
    rw [← hS1] at hJ
    have hF2 := hJ.1.2.1
    have e8 : S1 0 0 8 = nI (nb 9) := hJ.1.2.2.1.2
    refine hr_iload_n G dH_tick_60 rfl rfl ?_
    refine hr_aload_n G dH_tick_61 rfl rfl ?_
    refine hr_get (v := .int (S1 0 0 8)) G fH_101 (hA.lt (show 0 < hw_n0 0 by decide)) rfl dH_tick_62 ?_
    refine hr_icmp_ge (tgt := 113) G dH_tick_65 (by decide) (fun _ => ?_) (fun h => absurd (show S1 0 0 8 ≤ nI (nb 9) by rw [e8]; exact nI_le (Nat.le_refl _) (by omega)) h)
    refine hr_aload_n G dH_tick_113 rfl rfl ?_
    refine hr_get (v := .int (S1 0 0 11)) G fH_106 (hA.lt (show 0 < hw_n0 0 by decide)) rfl dH_tick_114 ?_
    refine hr_wide (c' := 1) (sl' := 6) (Nat.le_of_ble_eq_true rfl) (Nat.le_of_ble_eq_true rfl) ?_
    exact hr_iret G hr hw_QX.of dH_tick_117 ⟨by rw [hJ.2], rfl, by rw [← hS1]; exact eqv.rf hJ.1.2.2.2.2.2.1⟩
  | succ m ih =>
    intro k S1 hS1 hm hk
    have hJ := hs0 k
    rw [← hS1] at hJ
    have hF2 := hJ.1.2.1
    have e8 : S1 0 0 8 = nI (nb 9) := hJ.1.2.2.1.2
    have hk9 : k < nb 9 := by omega
    have e1 := (hJ.1.2.2.2.2.2.2.1 k hk9).1
    refine hr_iload_n G dH_tick_60 rfl rfl ?_
    refine hr_aload_n G dH_tick_61 rfl rfl ?_
    refine hr_get (v := .int (S1 0 0 8)) G fH_101 (hA.lt (show 0 < hw_n0 0 by decide)) rfl dH_tick_62 ?_
    refine hr_icmp_ge (tgt := 113) G dH_tick_65 (by decide) (fun h => absurd h (show ¬ S1 0 0 8 ≤ nI k by rw [e8]; exact nI_ge (by omega) (by omega))) (fun _ => ?_)
    refine hr_aload_n G dH_tick_68 rfl rfl ?_
    refine hr_get (v := .ref (hw_a B 8 0)) G fH_25 (hA.lt (show 0 < hw_n0 0 by decide)) (hw_rfx hF2 (by decide) rfl (by decide)) dH_tick_69 ?_
    refine hr_iload_n G dH_tick_72 rfl rfl ?_
    refine hr_aald (n := k) (v := .ref (hw_a B 9 k)) G rfl (by decide) rfl (hA.lt (show 0 < hw_n0 8 by decide)) rfl (show k < 40 by omega) (hw_rdy e1 (by omega)) dH_tick_73 ?_
    refine hr_get (v := .int (S1 9 k 5)) G fH_145 hk9 rfl dH_tick_74 ?_
    refine hr_if_eq (tgt := 107) G dH_tick_77 (by decide) (fun h77 => ?_) (fun h77 => ?_)
    · skip
      refine hr_iinc (v := nI (k + 1)) G dH_tick_107 rfl (nI_succ k).symm (by decide) ?_
      refine hr_goto (tgt := 60) G dH_tick_110 (by decide) ?_
      refine hr_L (L' := [(0, .ref (hw_a B 0 0)), (2, .int (nI (k + 1)))]) (hw_s1 rfl (hw_s1 rfl (hw_s0))) ?_
      exact ih (k + 1) _ (by rw [hs_tk, ← hS1, if_pos h77]; done) (by omega) (by omega)
    · skip
      refine hr_aload_n G dH_tick_80 rfl rfl ?_
      refine hr_get (v := .ref (hw_a B 8 0)) G fH_25 (hA.lt (show 0 < hw_n0 0 by decide)) (hw_rfx hF2 (by decide) rfl (by decide)) dH_tick_81 ?_
      refine hr_iload_n G dH_tick_84 rfl rfl ?_
      refine hr_aald (n := k) (v := .ref (hw_a B 9 k)) G rfl (by decide) rfl (hA.lt (show 0 < hw_n0 8 by decide)) rfl (show k < 40 by omega) (hw_rdy e1 (by omega)) dH_tick_85 ?_
      refine hr_aload_n G dH_tick_86 rfl rfl ?_
      refine hr_get (v := .int (S 0 0 11 + x)) G fH_106 (hA.lt (show 0 < hw_n0 0 by decide)) (congrArg Value.int hJ.2) dH_tick_87 ?_
      refine hr_callVs (k := 9) (i := k) G rfl rfl hk9 kH_204 iS_isOver vS_isOver (m_S_isOver _ _ _ _ _ k (S 0 0 11 + x) hk9) rfl rfl (Nat.le_of_ble_eq_true rfl) ⟨by rw [hR]; decide, by rw [hR]; decide⟩ ⟨by rw [hR]; decide, by rw [hR]; decide⟩ dH_tick_90 ?_
      refine hr_if_eq (tgt := 107) G dH_tick_93 (by decide) (fun h93 => ?_) (fun h93 => ?_)
      · skip
        refine hr_iinc (v := nI (k + 1)) G dH_tick_107 rfl (nI_succ k).symm (by decide) ?_
        refine hr_goto (tgt := 60) G dH_tick_110 (by decide) ?_
        refine hr_L (L' := [(0, .ref (hw_a B 0 0)), (2, .int (nI (k + 1)))]) (hw_s1 rfl (hw_s1 rfl (hw_s0))) ?_
        exact ih (k + 1) _ (by rw [hs_tk, ← hS1, if_neg h77, if_pos h93]; done) (by omega) (by omega)
      · skip
        refine hr_aload_n G dH_tick_96 rfl rfl ?_
        refine hr_aload_n G dH_tick_97 rfl rfl ?_
        refine hr_get (v := .ref (hw_a B 8 0)) G fH_25 (hA.lt (show 0 < hw_n0 0 by decide)) (hw_rfx hF2 (by decide) rfl (by decide)) dH_tick_98 ?_
        refine hr_iload_n G dH_tick_101 rfl rfl ?_
        refine hr_aald (n := k) (v := .ref (hw_a B 9 k)) G rfl (by decide) rfl (hA.lt (show 0 < hw_n0 8 by decide)) rfl (show k < 40 by omega) (hw_rdy e1 (by omega)) dH_tick_102 ?_
        refine hr_callVs (k := 0) (i := 0) G rfl rfl (hA.lt (show 0 < hw_n0 0 by decide)) kH_195 iH_end vH_end (m_H_end _ _ _ _ _ k hJ.1 hk9) rfl rfl (Nat.le_of_ble_eq_true rfl) ⟨by rw [hR]; decide, by rw [hR]; decide⟩ ⟨by rw [hR]; decide, by rw [hR]; decide⟩ dH_tick_103 ?_
        refine hr_pop G dH_tick_106 rfl ?_
        refine hr_iinc (v := nI (k + 1)) G dH_tick_107 rfl (nI_succ k).symm (by decide) ?_
        refine hr_goto (tgt := 60) G dH_tick_110 (by decide) ?_
        refine hr_L (L' := [(0, .ref (hw_a B 0 0)), (2, .int (nI (k + 1)))]) (hw_s1 rfl (hw_s1 rfl (hw_s0))) ?_
        exact ih (k + 1) _ (by rw [hs_tk, ← hS1, if_neg h77, if_neg h93]; done) (by omega) (by omega)
