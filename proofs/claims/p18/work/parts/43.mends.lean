/-! The reference: judged, ends. -/
def md_jr (S : hw_St) (t s : Nat) (x h : Int32) : Int32 := if md_good S t s = 0 then 3 else if S 37 0 t = x then (if h - h / 2 * 2 = 1 then (if S 39 0 t = 0 then 5 else 0) else 0) else 4
def md_j (S : hw_St) (t s : Nat) (x h : Int32) : Int32 := if S 35 0 t = 2 then 2 else if S 35 0 t = 1 then (if h / 2 - h / 2 / 2 * 2 = 0 then 2 else md_jr S t s x h) else md_jr S t s x h
set_option maxRecDepth 100000 in
set_option maxHeartbeats 1000000 in
theorem m_M_judged_a (l : Launch) (B : hw_B) (nb : Nat → Nat) (S : hw_St) (z : Nat) (hA : hw_al nb) (hF : hw_Fx S) (v x h : Int32) (hv : v < 0 ∨ ¬ v ≤ S 20 0 18 - 1) : hw_M l yM_judged cM_judged 4 (some .int) ({ frames := 2, cells := 0, slots := 0, locals := 43 }) B [.ref (hw_a B 20 0), .int v, .int x, .int h] nb S z (hw_p (.inl (some (.int 1))) nb S z) := by
  refine hw_M.of (by decide) (Nat.le_of_ble_eq_true rfl) ?_
  intro X fr hl hR G hr hnm
  refine hr_iload_n G dM_judged_0 rfl rfl ?_
  refine hr_iconst (v := 0) G dM_judged_1 (by decide) ?_
  refine hr_aload_n G dM_judged_2 rfl rfl ?_
  refine hr_get (v := .int (S 20 0 18)) G fM_111 (hA.lt (show 0 < hw_n0 20 by decide)) rfl dM_judged_3 ?_
  refine hr_iconst (v := 1) G dM_judged_6 (by decide) ?_
  refine hr_isub G dM_judged_7 ?_
  refine hr_callSs G kM_90 sM_within (m_within_n _ _ _ _ _ v 0 ((S 20 0 18) - 1) hv) rfl rfl (Nat.le_of_ble_eq_true rfl) ⟨by rw [hR]; decide, by rw [hR]; decide⟩ ⟨by rw [hR]; decide, by rw [hR]; decide⟩ dM_judged_8 ?_
  refine hr_if_eq (tgt := 22) G dM_judged_11 (by decide) (fun _ => ?_) (fun h => absurd (by decide) h)
  refine hr_iconst (v := 1) G dM_judged_22 (by decide) ?_
  exact hr_iret G hr (fun _ h => h) dM_judged_23 hw_pi
set_option maxRecDepth 100000 in
set_option maxHeartbeats 1000000 in
theorem m_M_judged_b (l : Launch) (B : hw_B) (nb : Nat → Nat) (S : hw_St) (z : Nat) (hA : hw_al nb) (hF : hw_Fx S) (ns nt : Nat) (hM : im ns nt S) (t : Nat) (ht : t < nt) (x h : Int32) (he : md_en S x = 0) : hw_M l yM_judged cM_judged 4 (some .int) ({ frames := 2, cells := 0, slots := 0, locals := 43 }) B [.ref (hw_a B 20 0), .int (nI t), .int x, .int h] nb S z (hw_p (.inl (some (.int 1))) nb S z) := by
  refine hw_M.of (by decide) (Nat.le_of_ble_eq_true rfl) ?_
  intro X fr hl hR G hr hnm
  have hM0 := hM
  obtain ⟨⟨hs1, hs2⟩, ⟨ht1, ht2⟩, hd, hlen, hus, hof, hwh, hpa, hkk⟩ := hM
  refine hr_iload_n G dM_judged_0 rfl rfl ?_
  refine hr_iconst (v := 0) G dM_judged_1 (by decide) ?_
  refine hr_aload_n G dM_judged_2 rfl rfl ?_
  refine hr_get (v := .int (S 20 0 18)) G fM_111 (hA.lt (show 0 < hw_n0 20 by decide)) rfl dM_judged_3 ?_
  refine hr_iconst (v := 1) G dM_judged_6 (by decide) ?_
  refine hr_isub G dM_judged_7 ?_
  refine hr_callSs G kM_90 sM_within (m_within_y _ _ _ _ _ (nI t) 0 ((S 20 0 18) - 1) (nI_pos (by omega)) (show nI t ≤ S 20 0 18 - 1 by rw [ht2]; exact nI_lt_p ht (by omega))) rfl rfl (Nat.le_of_ble_eq_true rfl) ⟨by rw [hR]; decide, by rw [hR]; decide⟩ ⟨by rw [hR]; decide, by rw [hR]; decide⟩ dM_judged_8 ?_
  refine hr_if_eq (tgt := 22) G dM_judged_11 (by decide) (fun h => absurd h (by decide)) (fun _ => ?_)
  refine hr_aload_n G dM_judged_14 rfl rfl ?_
  refine hr_iload_n G dM_judged_15 rfl rfl ?_
  refine hr_callVs (k := 20) (i := 0) G rfl rfl (hA.lt (show 0 < hw_n0 20 by decide)) kM_114 iM_enabled vM_enabled (m_M_enabled _ _ _ _ _ hA hF x) rfl rfl (Nat.le_of_ble_eq_true rfl) ⟨by rw [hR]; decide, by rw [hR]; decide⟩ ⟨by rw [hR]; decide, by rw [hR]; decide⟩ dM_judged_16 ?_
  refine hr_if_ne (tgt := 24) G dM_judged_19 (by decide) (fun h => absurd he h) (fun _ => ?_)
  refine hr_iconst (v := 1) G dM_judged_22 (by decide) ?_
  exact hr_iret G hr (fun _ h => h) dM_judged_23 hw_pi
set_option maxRecDepth 100000 in
set_option maxHeartbeats 1000000 in
theorem m_M_judged_c (l : Launch) (B : hw_B) (nb : Nat → Nat) (S : hw_St) (z : Nat) (hA : hw_al nb) (hF : hw_Fx S) (ns nt : Nat) (hM : im ns nt S) (t : Nat) (ht : t < nt) (s : Nat) (hs : s < 40) (hts : S 36 0 t = nI s) (x h : Int32) (he : ¬ md_en S x = 0) : hw_M l yM_judged cM_judged 4 (some .int) ({ frames := 2, cells := 0, slots := 0, locals := 43 }) B [.ref (hw_a B 20 0), .int (nI t), .int x, .int h] nb S z (hw_p (.inl (some (.int (md_j S t s x h)))) nb S z) := by
  refine hw_M.of (by decide) (Nat.le_of_ble_eq_true rfl) ?_
  intro X fr hl hR G hr hnm
  have hM0 := hM
  obtain ⟨⟨hs1, hs2⟩, ⟨ht1, ht2⟩, hd, hlen, hus, hof, hwh, hpa, hkk⟩ := hM
  refine hr_iload_n G dM_judged_0 rfl rfl ?_
  refine hr_iconst (v := 0) G dM_judged_1 (by decide) ?_
  refine hr_aload_n G dM_judged_2 rfl rfl ?_
  refine hr_get (v := .int (S 20 0 18)) G fM_111 (hA.lt (show 0 < hw_n0 20 by decide)) rfl dM_judged_3 ?_
  refine hr_iconst (v := 1) G dM_judged_6 (by decide) ?_
  refine hr_isub G dM_judged_7 ?_
  refine hr_callSs G kM_90 sM_within (m_within_y _ _ _ _ _ (nI t) 0 ((S 20 0 18) - 1) (nI_pos (by omega)) (show nI t ≤ S 20 0 18 - 1 by rw [ht2]; exact nI_lt_p ht (by omega))) rfl rfl (Nat.le_of_ble_eq_true rfl) ⟨by rw [hR]; decide, by rw [hR]; decide⟩ ⟨by rw [hR]; decide, by rw [hR]; decide⟩ dM_judged_8 ?_
  refine hr_if_eq (tgt := 22) G dM_judged_11 (by decide) (fun h => absurd h (by decide)) (fun _ => ?_)
  refine hr_aload_n G dM_judged_14 rfl rfl ?_
  refine hr_iload_n G dM_judged_15 rfl rfl ?_
  refine hr_callVs (k := 20) (i := 0) G rfl rfl (hA.lt (show 0 < hw_n0 20 by decide)) kM_114 iM_enabled vM_enabled (m_M_enabled _ _ _ _ _ hA hF x) rfl rfl (Nat.le_of_ble_eq_true rfl) ⟨by rw [hR]; decide, by rw [hR]; decide⟩ ⟨by rw [hR]; decide, by rw [hR]; decide⟩ dM_judged_16 ?_
  refine hr_if_ne (tgt := 24) G dM_judged_19 (by decide) (fun _ => ?_) (fun h => absurd h he)
  refine hr_aload_n G dM_judged_24 rfl rfl ?_
  refine hr_get (v := .ref (hw_a B 35 0)) G fM_53 (hA.lt (show 0 < hw_n0 20 by decide)) (hw_rfx hF (by decide) rfl (by decide)) dM_judged_25 ?_
  refine hr_iload_n G dM_judged_28 rfl rfl ?_
  refine hr_iald (n := t) (v := .int (S 35 0 t)) G rfl (by decide) rfl (hA.lt (show 0 < hw_n0 35 by decide)) rfl (show t < 150 by omega) rfl dM_judged_29 ?_
  refine hr_iconst (v := 2) G dM_judged_30 (by decide) ?_
  refine hr_icmp_eq (tgt := 52) G dM_judged_31 (by decide) (fun h31 => ?_) (fun h31 => ?_)
  · skip
    refine hr_iconst (v := 2) G dM_judged_52 (by decide) ?_
    exact hr_iret G hr (fun _ h => h) dM_judged_53 ⟨by first | rfl | (simp only [md_j, md_jr, h31, ↓reduceIte, eq_self, true_or, or_true, or_self]; done) | (simp only [md_j, md_jr, h31, ↓reduceIte, eq_self, true_or, or_true, or_self]; rfl), rfl, rfl, rfl⟩
  · skip
    refine hr_aload_n G dM_judged_34 rfl rfl ?_
    refine hr_get (v := .ref (hw_a B 35 0)) G fM_53 (hA.lt (show 0 < hw_n0 20 by decide)) (hw_rfx hF (by decide) rfl (by decide)) dM_judged_35 ?_
    refine hr_iload_n G dM_judged_38 rfl rfl ?_
    refine hr_iald (n := t) (v := .int (S 35 0 t)) G rfl (by decide) rfl (hA.lt (show 0 < hw_n0 35 by decide)) rfl (show t < 150 by omega) rfl dM_judged_39 ?_
    refine hr_iconst (v := 1) G dM_judged_40 (by decide) ?_
    refine hr_icmp_ne (tgt := 54) G dM_judged_41 (by decide) (fun h41 => ?_) (fun h41 => ?_)
    · skip
      refine hr_aload_n G dM_judged_54 rfl rfl ?_
      refine hr_iload_n G dM_judged_55 rfl rfl ?_
      refine hr_callVs (k := 20) (i := 0) G rfl rfl (hA.lt (show 0 < hw_n0 20 by decide)) kM_122 iM_good vM_good (m_M_good _ _ _ _ _ hA hF t s (by omega) hs hts) rfl rfl (Nat.le_of_ble_eq_true rfl) ⟨by rw [hR]; decide, by rw [hR]; decide⟩ ⟨by rw [hR]; decide, by rw [hR]; decide⟩ dM_judged_56 ?_
      refine hr_if_ne (tgt := 66) G dM_judged_59 (by decide) (fun h59 => ?_) (fun h59 => ?_)
      · skip
        refine hr_aload_n G dM_judged_66 rfl rfl ?_
        refine hr_get (v := .ref (hw_a B 37 0)) G fM_59 (hA.lt (show 0 < hw_n0 20 by decide)) (hw_rfx hF (by decide) rfl (by decide)) dM_judged_67 ?_
        refine hr_iload_n G dM_judged_70 rfl rfl ?_
        refine hr_iald (n := t) (v := .int (S 37 0 t)) G rfl (by decide) rfl (hA.lt (show 0 < hw_n0 37 by decide)) rfl (show t < 150 by omega) rfl dM_judged_71 ?_
        refine hr_iload_n G dM_judged_72 rfl rfl ?_
        refine hr_icmp_eq (tgt := 80) G dM_judged_73 (by decide) (fun h73 => ?_) (fun h73 => ?_)
        · skip
          refine hr_iload_n G dM_judged_80 rfl rfl ?_
          refine hr_iconst (v := 2) G dM_judged_81 (by decide) ?_
          refine hr_irem G dM_judged_82 (by decide) ?_
          refine hr_iconst (v := 1) G dM_judged_83 (by decide) ?_
          refine hr_icmp_ne (tgt := 100) G dM_judged_84 (by decide) (fun h84 => ?_) (fun h84 => ?_)
          · skip
            refine hr_iconst (v := 0) G dM_judged_100 (by decide) ?_
            exact hr_iret G hr (fun _ h => h) dM_judged_101 ⟨by first | rfl | (simp only [md_j, md_jr, h31, h41, h59, h73, h84, ↓reduceIte, eq_self, true_or, or_true, or_self]; done) | (simp only [md_j, md_jr, h31, h41, h59, h73, h84, ↓reduceIte, eq_self, true_or, or_true, or_self]; rfl), rfl, rfl, rfl⟩
          · skip
            refine hr_aload_n G dM_judged_87 rfl rfl ?_
            refine hr_get (v := .ref (hw_a B 39 0)) G fM_65 (hA.lt (show 0 < hw_n0 20 by decide)) (hw_rfx hF (by decide) rfl (by decide)) dM_judged_88 ?_
            refine hr_iload_n G dM_judged_91 rfl rfl ?_
            refine hr_zald (n := t) (v := .int (S 39 0 t)) G rfl (by decide) rfl (hA.lt (show 0 < hw_n0 39 by decide)) rfl (show t < 150 by omega) rfl dM_judged_92 ?_
            refine hr_if_ne (tgt := 100) G dM_judged_93 (by decide) (fun h93 => ?_) (fun h93 => ?_)
            · skip
              refine hr_iconst (v := 0) G dM_judged_100 (by decide) ?_
              exact hr_iret G hr (fun _ h => h) dM_judged_101 ⟨by first | rfl | (simp only [md_j, md_jr, h31, h41, h59, h73, h84, h93, ↓reduceIte, eq_self, true_or, or_true, or_self]; done) | (simp only [md_j, md_jr, h31, h41, h59, h73, h84, h93, ↓reduceIte, eq_self, true_or, or_true, or_self]; rfl), rfl, rfl, rfl⟩
            · skip
              refine hr_iconst (v := 5) G dM_judged_96 (by decide) ?_
              refine hr_goto (tgt := 101) G dM_judged_97 (by decide) ?_
              exact hr_iret G hr (fun _ h => h) dM_judged_101 ⟨by first | rfl | (simp only [md_j, md_jr, h31, h41, h59, h73, h84, h93, ↓reduceIte, eq_self, true_or, or_true, or_self]; done) | (simp only [md_j, md_jr, h31, h41, h59, h73, h84, h93, ↓reduceIte, eq_self, true_or, or_true, or_self]; rfl), rfl, rfl, rfl⟩
        · skip
          refine hr_iconst (v := 4) G dM_judged_76 (by decide) ?_
          refine hr_goto (tgt := 101) G dM_judged_77 (by decide) ?_
          exact hr_iret G hr (fun _ h => h) dM_judged_101 ⟨by first | rfl | (simp only [md_j, md_jr, h31, h41, h59, h73, ↓reduceIte, eq_self, true_or, or_true, or_self]; done) | (simp only [md_j, md_jr, h31, h41, h59, h73, ↓reduceIte, eq_self, true_or, or_true, or_self]; rfl), rfl, rfl, rfl⟩
      · skip
        refine hr_iconst (v := 3) G dM_judged_62 (by decide) ?_
        refine hr_goto (tgt := 101) G dM_judged_63 (by decide) ?_
        exact hr_iret G hr (fun _ h => h) dM_judged_101 ⟨by first | rfl | (simp only [md_j, md_jr, h31, h41, h59, ↓reduceIte, eq_self, true_or, or_true, or_self]; done) | (simp only [md_j, md_jr, h31, h41, h59, ↓reduceIte, eq_self, true_or, or_true, or_self]; rfl), rfl, rfl, rfl⟩
    · skip
      refine hr_iload_n G dM_judged_44 rfl rfl ?_
      refine hr_iconst (v := 2) G dM_judged_45 (by decide) ?_
      refine hr_idiv G dM_judged_46 (by decide) ?_
      refine hr_iconst (v := 2) G dM_judged_47 (by decide) ?_
      refine hr_irem G dM_judged_48 (by decide) ?_
      refine hr_if_ne (tgt := 54) G dM_judged_49 (by decide) (fun h49 => ?_) (fun h49 => ?_)
      · skip
        refine hr_aload_n G dM_judged_54 rfl rfl ?_
        refine hr_iload_n G dM_judged_55 rfl rfl ?_
        refine hr_callVs (k := 20) (i := 0) G rfl rfl (hA.lt (show 0 < hw_n0 20 by decide)) kM_122 iM_good vM_good (m_M_good _ _ _ _ _ hA hF t s (by omega) hs hts) rfl rfl (Nat.le_of_ble_eq_true rfl) ⟨by rw [hR]; decide, by rw [hR]; decide⟩ ⟨by rw [hR]; decide, by rw [hR]; decide⟩ dM_judged_56 ?_
        refine hr_if_ne (tgt := 66) G dM_judged_59 (by decide) (fun h59 => ?_) (fun h59 => ?_)
        · skip
          refine hr_aload_n G dM_judged_66 rfl rfl ?_
          refine hr_get (v := .ref (hw_a B 37 0)) G fM_59 (hA.lt (show 0 < hw_n0 20 by decide)) (hw_rfx hF (by decide) rfl (by decide)) dM_judged_67 ?_
          refine hr_iload_n G dM_judged_70 rfl rfl ?_
          refine hr_iald (n := t) (v := .int (S 37 0 t)) G rfl (by decide) rfl (hA.lt (show 0 < hw_n0 37 by decide)) rfl (show t < 150 by omega) rfl dM_judged_71 ?_
          refine hr_iload_n G dM_judged_72 rfl rfl ?_
          refine hr_icmp_eq (tgt := 80) G dM_judged_73 (by decide) (fun h73 => ?_) (fun h73 => ?_)
          · skip
            refine hr_iload_n G dM_judged_80 rfl rfl ?_
            refine hr_iconst (v := 2) G dM_judged_81 (by decide) ?_
            refine hr_irem G dM_judged_82 (by decide) ?_
            refine hr_iconst (v := 1) G dM_judged_83 (by decide) ?_
            refine hr_icmp_ne (tgt := 100) G dM_judged_84 (by decide) (fun h84 => ?_) (fun h84 => ?_)
            · skip
              refine hr_iconst (v := 0) G dM_judged_100 (by decide) ?_
              exact hr_iret G hr (fun _ h => h) dM_judged_101 ⟨by first | rfl | (simp only [md_j, md_jr, h31, h41, h49, h59, h73, h84, ↓reduceIte, eq_self, true_or, or_true, or_self]; done) | (simp only [md_j, md_jr, h31, h41, h49, h59, h73, h84, ↓reduceIte, eq_self, true_or, or_true, or_self]; rfl), rfl, rfl, rfl⟩
            · skip
              refine hr_aload_n G dM_judged_87 rfl rfl ?_
              refine hr_get (v := .ref (hw_a B 39 0)) G fM_65 (hA.lt (show 0 < hw_n0 20 by decide)) (hw_rfx hF (by decide) rfl (by decide)) dM_judged_88 ?_
              refine hr_iload_n G dM_judged_91 rfl rfl ?_
              refine hr_zald (n := t) (v := .int (S 39 0 t)) G rfl (by decide) rfl (hA.lt (show 0 < hw_n0 39 by decide)) rfl (show t < 150 by omega) rfl dM_judged_92 ?_
              refine hr_if_ne (tgt := 100) G dM_judged_93 (by decide) (fun h93 => ?_) (fun h93 => ?_)
              · skip
                refine hr_iconst (v := 0) G dM_judged_100 (by decide) ?_
                exact hr_iret G hr (fun _ h => h) dM_judged_101 ⟨by first | rfl | (simp only [md_j, md_jr, h31, h41, h49, h59, h73, h84, h93, ↓reduceIte, eq_self, true_or, or_true, or_self]; done) | (simp only [md_j, md_jr, h31, h41, h49, h59, h73, h84, h93, ↓reduceIte, eq_self, true_or, or_true, or_self]; rfl), rfl, rfl, rfl⟩
              · skip
                refine hr_iconst (v := 5) G dM_judged_96 (by decide) ?_
                refine hr_goto (tgt := 101) G dM_judged_97 (by decide) ?_
                exact hr_iret G hr (fun _ h => h) dM_judged_101 ⟨by first | rfl | (simp only [md_j, md_jr, h31, h41, h49, h59, h73, h84, h93, ↓reduceIte, eq_self, true_or, or_true, or_self]; done) | (simp only [md_j, md_jr, h31, h41, h49, h59, h73, h84, h93, ↓reduceIte, eq_self, true_or, or_true, or_self]; rfl), rfl, rfl, rfl⟩
          · skip
            refine hr_iconst (v := 4) G dM_judged_76 (by decide) ?_
            refine hr_goto (tgt := 101) G dM_judged_77 (by decide) ?_
            exact hr_iret G hr (fun _ h => h) dM_judged_101 ⟨by first | rfl | (simp only [md_j, md_jr, h31, h41, h49, h59, h73, ↓reduceIte, eq_self, true_or, or_true, or_self]; done) | (simp only [md_j, md_jr, h31, h41, h49, h59, h73, ↓reduceIte, eq_self, true_or, or_true, or_self]; rfl), rfl, rfl, rfl⟩
        · skip
          refine hr_iconst (v := 3) G dM_judged_62 (by decide) ?_
          refine hr_goto (tgt := 101) G dM_judged_63 (by decide) ?_
          exact hr_iret G hr (fun _ h => h) dM_judged_101 ⟨by first | rfl | (simp only [md_j, md_jr, h31, h41, h49, h59, ↓reduceIte, eq_self, true_or, or_true, or_self]; done) | (simp only [md_j, md_jr, h31, h41, h49, h59, ↓reduceIte, eq_self, true_or, or_true, or_self]; rfl), rfl, rfl, rfl⟩
      · skip
        refine hr_iconst (v := 2) G dM_judged_52 (by decide) ?_
        exact hr_iret G hr (fun _ h => h) dM_judged_53 ⟨by first | rfl | (simp only [md_j, md_jr, h31, h41, h49, ↓reduceIte, eq_self, true_or, or_true, or_self]; done) | (simp only [md_j, md_jr, h31, h41, h49, ↓reduceIte, eq_self, true_or, or_true, or_self]; rfl), rfl, rfl, rfl⟩
def md_end1 (S : hw_St) (s k w m : Nat) : hw_St := if S 36 0 k = nI s then (if S 35 0 k = 0 then (if S 28 0 w / 4 - S 28 0 w / 4 / 2 * 2 = 1 then hw_sv (hw_sv S 42 0 m (1000 * S 37 0 k + nI k)) 20 0 26 (S 20 0 26 + 1) else S) else S) else S
def md_endk (s : Nat) (S : hw_St) : Nat → hw_St
  | 0 => S
  | k + 1 => md_end1 (md_endk s S k) s k (S 37 0 k).toNatClampNeg (md_endk s S k 20 0 26).toNatClampNeg
def md_co (s : Nat) (S : hw_St) : Nat → Nat
  | 0 => 0
  | k + 1 => md_co s S k + (if S 36 0 k = nI s then 1 else 0)
theorem md_co_le (s : Nat) (S : hw_St) (k : Nat) : md_co s S k ≤ k := by
  induction k with
  | zero => exact Nat.le_refl _
  | succ k ih => unfold md_co; split <;> omega
theorem md_co_mono (s : Nat) (S : hw_St) {k n : Nat} (h : k ≤ n) : md_co s S k ≤ md_co s S n := by
  induction n with
  | zero => obtain rfl : k = 0 := by omega
            exact Nat.le_refl _
  | succ n ih =>
    by_cases e : k = n + 1
    · subst e; exact Nat.le_refl _
    · exact Nat.le_trans (ih (by omega)) (by conv => rhs; unfold md_co
                                             omega)
/-- the reference's messages have changed, nothing else -/
def mm_r (S S' : hw_St) : Prop := ∀ k i j, ¬ k = 42 → ¬ (k = 20 ∧ j = 26) → S' k i j = S k i j
theorem mm_r.fx {S S' : hw_St} (h : mm_r S S') (hF : hw_Fx S) : hw_Fx S' := fun k i j v hi hv => by
  rw [h k i j (fun e => by rw [e] at hv; exact nomatch hv) (fun e => by rw [e.1, e.2] at hv; exact nomatch hv)]
  exact hF k i j v hi hv
theorem md_end1_r {S : hw_St} {s k w m : Nat} : mm_r S (md_end1 S s k w m) := by
  unfold md_end1
  repeat' split
  · intro k i j a b; unfold hw_sv; rw [if_neg (fun e => b ⟨e.1, e.2.2⟩), if_neg (fun e => a e.1)]
  all_goals exact fun _ _ _ _ _ => rfl
theorem md_endk_r {s : Nat} {S : hw_St} (k : Nat) : mm_r S (md_endk s S k) := by
  induction k with
  | zero => exact fun _ _ _ _ _ => rfl
  | succ k ih => exact fun a i j x y => (md_end1_r a i j x y).trans (ih a i j x y)
set_option maxRecDepth 100000 in
set_option maxHeartbeats 1000000 in
theorem m_M_ends (l : Launch) (B : hw_B) (nb : Nat → Nat) (S : hw_St) (z : Nat) (hA : hw_al nb) (hF : hw_Fx S) (ns nt : Nat) (hM : im ns nt S) (s nm : Nat) (hs : s < ns) (hms : S 20 0 26 = nI nm) (hco : nm + md_co s S nt ≤ 200) : hw_M l yM_ends cM_ends 4 (some .int) ({ frames := 0, cells := 0, slots := 0, locals := 0 }) B [.ref (hw_a B 20 0), .int (nI s)] nb S z (fun oc nb' S' z' => (∃ j, j ≤ md_co s S nt ∧ oc = .inl (some (.int (nI j))) ∧ S' 20 0 26 = nI (nm + j)) ∧ nb' = nb ∧ S' = md_endk s (hw_sv S 34 0 s 1) nt ∧ z' = z) := by
  refine hw_M.of (by decide) (Nat.le_of_ble_eq_true rfl) ?_
  intro X fr hl hR G hr hnm
  have hM0 := hM
  obtain ⟨⟨hs1, hs2⟩, ⟨ht1, ht2⟩, hd, hlen, hus, hof, hwh, hpa, hkk⟩ := hM
  refine hr_aload_n G dM_ends_0 rfl rfl ?_
  refine hr_get (v := .ref (hw_a B 34 0)) G fM_50 (hA.lt (show 0 < hw_n0 20 by decide)) (hw_rfx hF (by decide) rfl (by decide)) dM_ends_1 ?_
  refine hr_iload_n G dM_ends_4 rfl rfl ?_
  refine hr_iconst (v := 1) G dM_ends_5 (by decide) ?_
  refine hr_zast (n := s) (y := 1) G rfl (by decide) rfl (hA.lt (show 0 < hw_n0 34 by decide)) rfl (show s < 40 by omega) rfl (rfl) dM_ends_6 ?_
  refine hr_iconst (v := 0) G dM_ends_7 (by decide) ?_
  refine hr_istore_n (i := 2) G dM_ends_8 rfl (by decide) ?_
  refine hr_iconst (v := 0) G dM_ends_9 (by decide) ?_
  refine hr_istore_n (i := 3) G dM_ends_10 rfl (by decide) ?_
  refine hr_L (L' := [(0, .ref (hw_a B 20 0)), (1, .int (nI s)), (2, .int (nI 0)), (3, .int (nI 0))]) (hw_s1 rfl (hw_s1 rfl (hw_s1 rfl (hw_s1 rfl (hw_s0))))) ?_
  suffices H : ∀ (m k j : Nat) (S1 : hw_St), S1 = md_endk s (hw_sv S 34 0 s 1) k → S1 20 0 26 = nI (nm + j) → j ≤ md_co s S k → nt - k = m → k ≤ nt → hw_V X B fr nb S1 z 0 0 (hw_MQ X B fr (fun oc nb' S' z' => (∃ j, j ≤ md_co s S nt ∧ oc = .inl (some (.int (nI j))) ∧ S' 20 0 26 = nI (nm + j)) ∧ nb' = nb ∧ S' = md_endk s (hw_sv S 34 0 s 1) nt ∧ z' = z) 0 0) 4 11 [(0, .ref (hw_a B 20 0)), (1, .int (nI s)), (2, .int (nI j)), (3, .int (nI k))] [] from H _ 0 0 _ rfl hms (Nat.le_refl _) rfl (Nat.zero_le _)
  intro m
  induction m with
  | zero =>
    intro k j S1 hS1 hj1 hj2 hm hk
    obtain rfl : k = nt := by omega
    have h1 : mm_r (hw_sv S 34 0 s 1) S1 := by rw [hS1]; exact md_endk_r _
    have hF1 : hw_Fx S1 := h1.fx (hF.sv rfl)
    have e18 : S1 20 0 18 = nI k := (h1 20 0 18 (by decide) (by decide)).trans ht2
    refine hr_iload_n G dM_ends_11 rfl rfl ?_
    refine hr_aload_n G dM_ends_12 rfl rfl ?_
    refine hr_get (v := .int (S1 20 0 18)) G fM_111 (hA.lt (show 0 < hw_n0 20 by decide)) rfl dM_ends_13 ?_
    refine hr_icmp_ge (tgt := 97) G dM_ends_16 (by decide) (fun _ => ?_) (fun h => absurd (show S1 20 0 18 ≤ nI k by rw [e18]; exact nI_le (Nat.le_refl _) (by omega)) h)
    refine hr_iload_n G dM_ends_97 rfl rfl ?_
    exact hr_iret G hr (fun _ h => h) dM_ends_98 ⟨⟨j, hj2, rfl, hj1⟩, rfl, hS1, rfl⟩
  | succ m ih =>
    intro k j S1 hS1 hj1 hj2 hm hk
    have h1 : mm_r (hw_sv S 34 0 s 1) S1 := by rw [hS1]; exact md_endk_r _
    have hF1 : hw_Fx S1 := h1.fx (hF.sv rfl)
    have e18 : S1 20 0 18 = nI nt := (h1 20 0 18 (by decide) (by decide)).trans ht2
    obtain ⟨w, hw, hw2⟩ := hwh k (by omega)
    have e37 : S1 37 0 k = nI w := (h1 37 0 k (by decide) (by omega)).trans hw2
    have e36 : S1 36 0 k = S 36 0 k := h1 36 0 k (by decide) (by omega)
    have hmo := md_co_mono s S hk
    have hcs : md_co s S (k + 1) = md_co s S k + (if S 36 0 k = nI s then 1 else 0) := rfl
    have hcm := md_co_mono s S (show k + 1 ≤ nt by omega)
    have hE : md_endk s (hw_sv S 34 0 s 1) (k + 1) = md_end1 S1 s k w (nm + j) := by
      rw [md_endk, ← hS1, show (hw_sv S 34 0 s 1) 37 0 k = nI w from hw2, nI_clamp (by omega), hj1, nI_clamp (by have := md_co_le s S nt; omega)]
    refine hr_iload_n G dM_ends_11 rfl rfl ?_
    refine hr_aload_n G dM_ends_12 rfl rfl ?_
    refine hr_get (v := .int (S1 20 0 18)) G fM_111 (hA.lt (show 0 < hw_n0 20 by decide)) rfl dM_ends_13 ?_
    refine hr_icmp_ge (tgt := 97) G dM_ends_16 (by decide) (fun h => absurd h (show ¬ S1 20 0 18 ≤ nI k by rw [e18]; exact nI_ge (by omega) (by omega))) (fun _ => ?_)
    refine hr_aload_n G dM_ends_19 rfl rfl ?_
    refine hr_get (v := .ref (hw_a B 36 0)) G fM_56 (hA.lt (show 0 < hw_n0 20 by decide)) (hw_rfx hF1 (by decide) rfl (by decide)) dM_ends_20 ?_
    refine hr_iload_n G dM_ends_23 rfl rfl ?_
    refine hr_iald (n := k) (v := .int (S1 36 0 k)) G rfl (by decide) rfl (hA.lt (show 0 < hw_n0 36 by decide)) rfl (show k < 150 by omega) rfl dM_ends_24 ?_
    refine hr_iload_n G dM_ends_25 rfl rfl ?_
    refine hr_icmp_ne (tgt := 91) G dM_ends_26 (by decide) (fun h26 => ?_) (fun h26 => ?_)
    · skip
      refine hr_iinc (v := nI (k + 1)) G dM_ends_91 rfl (nI_succ k).symm (by decide) ?_
      refine hr_goto (tgt := 11) G dM_ends_94 (by decide) ?_
      refine hr_L (L' := [(0, .ref (hw_a B 20 0)), (1, .int (nI s)), (2, .int (nI j)), (3, .int (nI (k + 1)))]) (hw_s1 rfl (hw_s1 rfl (hw_s1 rfl (hw_s1 rfl (hw_s0))))) ?_
      exact ih (k + 1) j _ (by rw [hE]; unfold md_end1; rw [if_neg h26]) hj1 (by rw [hcs]; omega) (by omega) (by omega)
    · skip
      refine hr_aload_n G dM_ends_29 rfl rfl ?_
      refine hr_get (v := .ref (hw_a B 35 0)) G fM_53 (hA.lt (show 0 < hw_n0 20 by decide)) (hw_rfx hF1 (by decide) rfl (by decide)) dM_ends_30 ?_
      refine hr_iload_n G dM_ends_33 rfl rfl ?_
      refine hr_iald (n := k) (v := .int (S1 35 0 k)) G rfl (by decide) rfl (hA.lt (show 0 < hw_n0 35 by decide)) rfl (show k < 150 by omega) rfl dM_ends_34 ?_
      refine hr_if_ne (tgt := 91) G dM_ends_35 (by decide) (fun h35 => ?_) (fun h35 => ?_)
      · skip
        refine hr_iinc (v := nI (k + 1)) G dM_ends_91 rfl (nI_succ k).symm (by decide) ?_
        refine hr_goto (tgt := 11) G dM_ends_94 (by decide) ?_
        refine hr_L (L' := [(0, .ref (hw_a B 20 0)), (1, .int (nI s)), (2, .int (nI j)), (3, .int (nI (k + 1)))]) (hw_s1 rfl (hw_s1 rfl (hw_s1 rfl (hw_s1 rfl (hw_s0))))) ?_
        exact ih (k + 1) j _ (by rw [hE]; unfold md_end1; rw [if_pos h26, if_neg h35]) hj1 (by rw [hcs]; omega) (by omega) (by omega)
      · skip
        refine hr_aload_n G dM_ends_38 rfl rfl ?_
        refine hr_get (v := .ref (hw_a B 28 0)) G fM_32 (hA.lt (show 0 < hw_n0 20 by decide)) (hw_rfx hF1 (by decide) rfl (by decide)) dM_ends_39 ?_
        refine hr_aload_n G dM_ends_42 rfl rfl ?_
        refine hr_get (v := .ref (hw_a B 37 0)) G fM_59 (hA.lt (show 0 < hw_n0 20 by decide)) (hw_rfx hF1 (by decide) rfl (by decide)) dM_ends_43 ?_
        refine hr_iload_n G dM_ends_46 rfl rfl ?_
        refine hr_iald (n := k) (v := .int (S1 37 0 k)) G rfl (by decide) rfl (hA.lt (show 0 < hw_n0 37 by decide)) rfl (show k < 150 by omega) rfl dM_ends_47 ?_
        refine hr_iald (n := w) (v := .int (S1 28 0 w)) G rfl (by decide) rfl (hA.lt (show 0 < hw_n0 28 by decide)) e37 (show w < 6 from hw) rfl dM_ends_48 ?_
        refine hr_iconst (v := 4) G dM_ends_49 (by decide) ?_
        refine hr_idiv G dM_ends_50 (by decide) ?_
        refine hr_iconst (v := 2) G dM_ends_51 (by decide) ?_
        refine hr_irem G dM_ends_52 (by decide) ?_
        refine hr_iconst (v := 1) G dM_ends_53 (by decide) ?_
        refine hr_icmp_ne (tgt := 91) G dM_ends_54 (by decide) (fun h54 => ?_) (fun h54 => ?_)
        · skip
          refine hr_iinc (v := nI (k + 1)) G dM_ends_91 rfl (nI_succ k).symm (by decide) ?_
          refine hr_goto (tgt := 11) G dM_ends_94 (by decide) ?_
          refine hr_L (L' := [(0, .ref (hw_a B 20 0)), (1, .int (nI s)), (2, .int (nI j)), (3, .int (nI (k + 1)))]) (hw_s1 rfl (hw_s1 rfl (hw_s1 rfl (hw_s1 rfl (hw_s0))))) ?_
          exact ih (k + 1) j _ (by rw [hE]; unfold md_end1; rw [if_pos h26, if_pos h35, if_neg h54]) hj1 (by rw [hcs]; omega) (by omega) (by omega)
        · skip
          refine hr_aload_n G dM_ends_57 rfl rfl ?_
          refine hr_get (v := .ref (hw_a B 42 0)) G fM_74 (hA.lt (show 0 < hw_n0 20 by decide)) (hw_rfx hF1 (by decide) rfl (by decide)) dM_ends_58 ?_
          refine hr_aload_n G dM_ends_61 rfl rfl ?_
          refine hr_get (v := .int (S1 20 0 26)) G fM_163 (hA.lt (show 0 < hw_n0 20 by decide)) rfl dM_ends_62 ?_
          refine hr_sipush (v := 1000) G dM_ends_65 (by decide) ?_
          refine hr_aload_n G dM_ends_68 rfl rfl ?_
          refine hr_get (v := .ref (hw_a B 37 0)) G fM_59 (hA.lt (show 0 < hw_n0 20 by decide)) (hw_rfx hF1 (by decide) rfl (by decide)) dM_ends_69 ?_
          refine hr_iload_n G dM_ends_72 rfl rfl ?_
          refine hr_iald (n := k) (v := .int (S1 37 0 k)) G rfl (by decide) rfl (hA.lt (show 0 < hw_n0 37 by decide)) rfl (show k < 150 by omega) rfl dM_ends_73 ?_
          refine hr_imul G dM_ends_74 ?_
          refine hr_iload_n G dM_ends_75 rfl rfl ?_
          refine hr_iadd G dM_ends_76 ?_
          refine hr_iast (n := (nm + j)) (y := ((1000 * (S1 37 0 k)) + (nI k))) G rfl (by decide) rfl (hA.lt (show 0 < hw_n0 42 by decide)) hj1 (show nm + j < 200 by rw [if_pos (e36.symm.trans h26)] at hcs; omega) rfl dM_ends_77 ?_
          refine hr_aload_n G dM_ends_78 rfl rfl ?_
          refine hr_dup G dM_ends_79 rfl ?_
          refine hr_get (v := .int (S1 20 0 26)) G fM_163 (hA.lt (show 0 < hw_n0 20 by decide)) rfl dM_ends_80 ?_
          refine hr_iconst (v := 1) G dM_ends_83 (by decide) ?_
          refine hr_iadd G dM_ends_84 ?_
          refine hr_put (x := ((S1 20 0 26) + 1)) G fM_163 (hA.lt (show 0 < hw_n0 20 by decide)) rfl (rfl) rfl dM_ends_85 ?_
          refine hr_iinc (v := ((nI j) + 1)) G dM_ends_88 rfl rfl (by decide) ?_
          refine hr_iinc (v := nI (k + 1)) G dM_ends_91 rfl (nI_succ k).symm (by decide) ?_
          refine hr_goto (tgt := 11) G dM_ends_94 (by decide) ?_
          rw [show nI j + 1 = nI (j + 1) from (nI_succ j).symm]
          refine hr_L (L' := [(0, .ref (hw_a B 20 0)), (1, .int (nI s)), (2, .int (nI (j + 1))), (3, .int (nI (k + 1)))]) (hw_s1 rfl (hw_s1 rfl (hw_s1 rfl (hw_s1 rfl (hw_s0))))) ?_
          exact ih (k + 1) (j + 1) _ (by rw [hE]; unfold md_end1; rw [if_pos h26, if_pos h35, if_pos h54]) (by rw [hw_sv_same, hj1, ← nI_succ]; rfl) (by rw [hcs, if_pos (e36.symm.trans h26)]; omega) (by omega) (by omega)
