/-! The reference: more calls. -/
set_option maxRecDepth 100000 in
set_option maxHeartbeats 1000000 in
theorem m_M_document (l : Launch) (B : hw_B) (nb : Nat → Nat) (S : hw_St) (z : Nat) (hA : hw_al nb) (hF : hw_Fx S) (x : Int32) (hwr : S 20 0 29 = -1 ∨ ∃ a, a ≤ 1400 ∧ S 20 0 29 = nI a) : hw_M l yM_document cM_document 2 (some .int) ({ frames := 0, cells := 0, slots := 0, locals := 0 }) B [.ref (hw_a B 20 0), .int x] nb S z (fun oc nb' S' z' => (∃ r, oc = .inl (some (.int r))) ∧ nb' = nb ∧ S' = (hw_sv S 20 0 0 0) ∧ z' = z) := by
  refine hw_M.of (by decide) (Nat.le_of_ble_eq_true rfl) ?_
  intro X fr hl hR G hr hnm
  refine hr_aload_n G dM_document_0 rfl rfl ?_
  refine hr_iconst (v := 0) G dM_document_1 (by decide) ?_
  refine hr_put (x := 0) G fM_87 (hA.lt (show 0 < hw_n0 20 by decide)) rfl (rfl) rfl dM_document_2 ?_
  refine hr_iload_n G dM_document_5 rfl rfl ?_
  refine hr_iconst (v := -1) G dM_document_6 (by decide) ?_
  refine hr_icmp_ne (tgt := 15) G dM_document_7 (by decide) (fun h7 => ?_) (fun h7 => ?_)
  · skip
    refine hr_iload_n G dM_document_15 rfl rfl ?_
    refine hr_if_lt (tgt := 36) G dM_document_16 (by decide) (fun h16 => ?_) (fun h16 => ?_)
    · skip
      refine hr_iconst (v := -1) G dM_document_36 (by decide) ?_
      exact hr_iret G hr (fun _ h => h) dM_document_37 ⟨⟨_, rfl⟩, rfl, rfl, rfl⟩
    · skip
      refine hr_iload_n G dM_document_19 rfl rfl ?_
      refine hr_aload_n G dM_document_20 rfl rfl ?_
      refine hr_get (v := .int (S 20 0 29)) G fM_80 (hA.lt (show 0 < hw_n0 20 by decide)) rfl dM_document_21 ?_
      refine hr_icmp_ge (tgt := 36) G dM_document_24 (by decide) (fun h24 => ?_) (fun h24 => ?_)
      · skip
        refine hr_iconst (v := -1) G dM_document_36 (by decide) ?_
        exact hr_iret G hr (fun _ h => h) dM_document_37 ⟨⟨_, rfl⟩, rfl, rfl, rfl⟩
      · skip
        obtain ⟨j, hj, hxj⟩ := nI_of h16
        have hj2 : j < 1400 := by
          rcases hwr with q | ⟨a, ha, q⟩
          · exact absurd (Int32.le_trans (by rw [q]; decide) (Int32.not_lt.mp h16)) h24
          · rw [q, hxj] at h24; have := Nat.not_le.mp fun r => h24 (nI_le r (by omega)); omega
        refine hr_aload_n G dM_document_27 rfl rfl ?_
        refine hr_get (v := .ref (hw_a B 43 0)) G fM_77 (hA.lt (show 0 < hw_n0 20 by decide)) (hw_rfx (hF.sv rfl) (by decide) rfl (by decide)) dM_document_28 ?_
        refine hr_iload_n G dM_document_31 rfl rfl ?_
        refine hr_iald (n := j) (v := .int (S 43 0 j)) G rfl (by decide) rfl (hA.lt (show 0 < hw_n0 43 by decide)) hxj (show j < 1400 from hj2) rfl dM_document_32 ?_
        refine hr_goto (tgt := 37) G dM_document_33 (by decide) ?_
        exact hr_iret G hr (fun _ h => h) dM_document_37 ⟨⟨_, rfl⟩, rfl, rfl, rfl⟩
  · skip
    refine hr_aload_n G dM_document_10 rfl rfl ?_
    refine hr_get (v := .int (S 20 0 29)) G fM_80 (hA.lt (show 0 < hw_n0 20 by decide)) rfl dM_document_11 ?_
    exact hr_iret G hr (fun _ h => h) dM_document_14 ⟨⟨_, rfl⟩, rfl, rfl, rfl⟩
set_option maxRecDepth 100000 in
set_option maxHeartbeats 1000000 in
theorem m_M_message (l : Launch) (B : hw_B) (nb : Nat → Nat) (S : hw_St) (z : Nat) (hA : hw_al nb) (hF : hw_Fx S) (x : Int32) (nm : Nat) (hm : nm ≤ 200) (hms : S 20 0 26 = nI nm) : hw_M l yM_message cM_message 2 (some .int) ({ frames := 0, cells := 0, slots := 0, locals := 0 }) B [.ref (hw_a B 20 0), .int x] nb S z (hw_p (.inl (some (.int (if x < 0 then -1 else if S 20 0 26 ≤ x then -1 else S 42 0 x.toNatClampNeg)))) nb (hw_sv S 20 0 0 0) z) := by
  refine hw_M.of (by decide) (Nat.le_of_ble_eq_true rfl) ?_
  intro X fr hl hR G hr hnm
  refine hr_aload_n G dM_message_0 rfl rfl ?_
  refine hr_iconst (v := 0) G dM_message_1 (by decide) ?_
  refine hr_put (x := 0) G fM_87 (hA.lt (show 0 < hw_n0 20 by decide)) rfl (rfl) rfl dM_message_2 ?_
  refine hr_iload_n G dM_message_5 rfl rfl ?_
  refine hr_if_lt (tgt := 26) G dM_message_6 (by decide) (fun h6 => ?_) (fun h6 => ?_)
  · skip
    refine hr_iconst (v := -1) G dM_message_26 (by decide) ?_
    exact hr_iret G hr (fun _ h => h) dM_message_27 ⟨by first | rfl | (simp only [h6, ↓reduceIte, eq_self, true_or, or_true, or_self]; done) | (simp only [h6, ↓reduceIte, eq_self, true_or, or_true, or_self]; rfl), rfl, rfl, rfl⟩
  · skip
    refine hr_iload_n G dM_message_9 rfl rfl ?_
    refine hr_aload_n G dM_message_10 rfl rfl ?_
    refine hr_get (v := .int (S 20 0 26)) G fM_163 (hA.lt (show 0 < hw_n0 20 by decide)) rfl dM_message_11 ?_
    refine hr_icmp_ge (tgt := 26) G dM_message_14 (by decide) (fun h14 => ?_) (fun h14 => ?_)
    · skip
      refine hr_iconst (v := -1) G dM_message_26 (by decide) ?_
      exact hr_iret G hr (fun _ h => h) dM_message_27 ⟨by first | rfl | (simp only [h6, h14, ↓reduceIte, eq_self, true_or, or_true, or_self]; done) | (simp only [h6, h14, ↓reduceIte, eq_self, true_or, or_true, or_self]; rfl), rfl, rfl, rfl⟩
    · skip
      obtain ⟨j, hj, hxj⟩ := nI_of h6
      have hjn : j < nm := Nat.not_le.mp fun q => h14 (by rw [hms, hxj]; exact nI_le q (by omega))
      refine hr_aload_n G dM_message_17 rfl rfl ?_
      refine hr_get (v := .ref (hw_a B 42 0)) G fM_74 (hA.lt (show 0 < hw_n0 20 by decide)) (hw_rfx (hF.sv rfl) (by decide) rfl (by decide)) dM_message_18 ?_
      refine hr_iload_n G dM_message_21 rfl rfl ?_
      refine hr_iald (n := j) (v := .int (S 42 0 j)) G rfl (by decide) rfl (hA.lt (show 0 < hw_n0 42 by decide)) hxj (show j < 200 by omega) rfl dM_message_22 ?_
      refine hr_goto (tgt := 27) G dM_message_23 (by decide) ?_
      exact hr_iret G hr (fun _ h => h) dM_message_27 ⟨by rw [if_neg h6, if_neg h14, hxj, nI_clamp (by omega)], rfl, rfl, rfl⟩
def md_ses (S : hw_St) (i : Nat) (x : Int32) : Int32 := if x = 0 then S 30 0 i else if x = 1 then (if S 34 0 i = 0 then 1 else 0) else if x = 2 then S 31 0 i else if x = 3 then S 32 0 i else if x = 4 then (if S 33 0 i = 0 then 0 else 1) else -1
set_option maxRecDepth 100000 in
set_option maxHeartbeats 1000000 in
theorem m_M_session_y (l : Launch) (B : hw_B) (nb : Nat → Nat) (S : hw_St) (z : Nat) (hA : hw_al nb) (hF : hw_Fx S) (s n : Nat) (hs : s < n) (hn : n ≤ 40) (hc : S 20 0 12 = nI n) (x : Int32) : hw_M l yM_session cM_session 3 (some .int) ({ frames := 2, cells := 0, slots := 0, locals := 60 }) B [.ref (hw_a B 20 0), .int (nI s), .int x] nb S z (hw_p (.inl (some (.int (md_ses S s x)))) nb (hw_sv S 20 0 0 0) z) := by
  refine hw_M.of (by decide) (Nat.le_of_ble_eq_true rfl) ?_
  intro X fr hl hR G hr hnm
  refine hr_aload_n G dM_session_0 rfl rfl ?_
  refine hr_iconst (v := 0) G dM_session_1 (by decide) ?_
  refine hr_put (x := 0) G fM_87 (hA.lt (show 0 < hw_n0 20 by decide)) rfl (rfl) rfl dM_session_2 ?_
  refine hr_iload_n G dM_session_5 rfl rfl ?_
  refine hr_iconst (v := 0) G dM_session_6 (by decide) ?_
  refine hr_aload_n G dM_session_7 rfl rfl ?_
  refine hr_get (v := .int (S 20 0 12)) G fM_104 (hA.lt (show 0 < hw_n0 20 by decide)) rfl dM_session_8 ?_
  refine hr_iconst (v := 1) G dM_session_11 (by decide) ?_
  refine hr_isub G dM_session_12 ?_
  refine hr_callSs G kM_90 sM_within (m_within_y _ _ _ _ _ (nI s) 0 ((S 20 0 12) - 1) (nI_pos (by omega)) (show nI s ≤ S 20 0 12 - 1 by rw [hc]; exact nI_lt_p hs (by omega))) rfl rfl (Nat.le_of_ble_eq_true rfl) ⟨by rw [hR]; decide, by rw [hR]; decide⟩ ⟨by rw [hR]; decide, by rw [hR]; decide⟩ dM_session_13 ?_
  refine hr_if_ne (tgt := 21) G dM_session_16 (by decide) (fun _ => ?_) (fun h => absurd h (by decide))
  refine hr_iload_n G dM_session_21 rfl rfl ?_
  by_cases e0 : x = 0
  · subst e0
    refine hr_tblIn (off := 34) (tgt := 56) G dM_session_22 (by decide) (by decide) (by decide) (by decide) ?_
    refine hr_aload_n G dM_session_56 rfl rfl ?_
    refine hr_get (v := .ref (hw_a B 30 0)) G fM_38 (hA.lt (show 0 < hw_n0 20 by decide)) (hw_rfx (hF.sv rfl) (by decide) rfl (by decide)) dM_session_57 ?_
    refine hr_iload_n G dM_session_60 rfl rfl ?_
    refine hr_iald (n := s) (v := .int (S 30 0 s)) G rfl (by decide) rfl (hA.lt (show 0 < hw_n0 30 by decide)) rfl (show s < 40 by omega) rfl dM_session_61 ?_
    exact hr_iret G hr (fun _ h => h) dM_session_62 ⟨by first | rfl | (simp only [md_ses, ↓reduceIte, eq_self, true_or, or_true, or_self]; done) | (simp only [md_ses, ↓reduceIte, eq_self, true_or, or_true, or_self]; rfl), rfl, rfl, rfl⟩
  by_cases e1 : x = 1
  · subst e1
    refine hr_tblIn (off := 41) (tgt := 63) G dM_session_22 (by decide) (by decide) (by decide) (by decide) ?_
    refine hr_aload_n G dM_session_63 rfl rfl ?_
    refine hr_get (v := .ref (hw_a B 34 0)) G fM_50 (hA.lt (show 0 < hw_n0 20 by decide)) (hw_rfx (hF.sv rfl) (by decide) rfl (by decide)) dM_session_64 ?_
    refine hr_iload_n G dM_session_67 rfl rfl ?_
    refine hr_zald (n := s) (v := .int (S 34 0 s)) G rfl (by decide) rfl (hA.lt (show 0 < hw_n0 34 by decide)) rfl (show s < 40 by omega) rfl dM_session_68 ?_
    refine hr_if_eq (tgt := 76) G dM_session_69 (by decide) (fun h69 => ?_) (fun h69 => ?_)
    · skip
      refine hr_iconst (v := 1) G dM_session_76 (by decide) ?_
      exact hr_iret G hr (fun _ h => h) dM_session_77 ⟨by first | rfl | (simp only [md_ses, e0, h69, ↓reduceIte, eq_self, true_or, or_true, or_self]; done) | (simp only [md_ses, e0, h69, ↓reduceIte, eq_self, true_or, or_true, or_self]; rfl), rfl, rfl, rfl⟩
    · skip
      refine hr_iconst (v := 0) G dM_session_72 (by decide) ?_
      refine hr_goto (tgt := 77) G dM_session_73 (by decide) ?_
      exact hr_iret G hr (fun _ h => h) dM_session_77 ⟨by first | rfl | (simp only [md_ses, e0, h69, ↓reduceIte, eq_self, true_or, or_true, or_self]; done) | (simp only [md_ses, e0, h69, ↓reduceIte, eq_self, true_or, or_true, or_self]; rfl), rfl, rfl, rfl⟩
  by_cases e2 : x = 2
  · subst e2
    refine hr_tblIn (off := 56) (tgt := 78) G dM_session_22 (by decide) (by decide) (by decide) (by decide) ?_
    refine hr_aload_n G dM_session_78 rfl rfl ?_
    refine hr_get (v := .ref (hw_a B 31 0)) G fM_41 (hA.lt (show 0 < hw_n0 20 by decide)) (hw_rfx (hF.sv rfl) (by decide) rfl (by decide)) dM_session_79 ?_
    refine hr_iload_n G dM_session_82 rfl rfl ?_
    refine hr_iald (n := s) (v := .int (S 31 0 s)) G rfl (by decide) rfl (hA.lt (show 0 < hw_n0 31 by decide)) rfl (show s < 40 by omega) rfl dM_session_83 ?_
    exact hr_iret G hr (fun _ h => h) dM_session_84 ⟨by first | rfl | (simp only [md_ses, e0, e1, ↓reduceIte, eq_self, true_or, or_true, or_self]; done) | (simp only [md_ses, e0, e1, ↓reduceIte, eq_self, true_or, or_true, or_self]; rfl), rfl, rfl, rfl⟩
  by_cases e3 : x = 3
  · subst e3
    refine hr_tblIn (off := 63) (tgt := 85) G dM_session_22 (by decide) (by decide) (by decide) (by decide) ?_
    refine hr_aload_n G dM_session_85 rfl rfl ?_
    refine hr_get (v := .ref (hw_a B 32 0)) G fM_44 (hA.lt (show 0 < hw_n0 20 by decide)) (hw_rfx (hF.sv rfl) (by decide) rfl (by decide)) dM_session_86 ?_
    refine hr_iload_n G dM_session_89 rfl rfl ?_
    refine hr_iald (n := s) (v := .int (S 32 0 s)) G rfl (by decide) rfl (hA.lt (show 0 < hw_n0 32 by decide)) rfl (show s < 40 by omega) rfl dM_session_90 ?_
    exact hr_iret G hr (fun _ h => h) dM_session_91 ⟨by first | rfl | (simp only [md_ses, e0, e1, e2, ↓reduceIte, eq_self, true_or, or_true, or_self]; done) | (simp only [md_ses, e0, e1, e2, ↓reduceIte, eq_self, true_or, or_true, or_self]; rfl), rfl, rfl, rfl⟩
  by_cases e4 : x = 4
  · subst e4
    refine hr_tblIn (off := 70) (tgt := 92) G dM_session_22 (by decide) (by decide) (by decide) (by decide) ?_
    refine hr_aload_n G dM_session_92 rfl rfl ?_
    refine hr_get (v := .ref (hw_a B 33 0)) G fM_47 (hA.lt (show 0 < hw_n0 20 by decide)) (hw_rfx (hF.sv rfl) (by decide) rfl (by decide)) dM_session_93 ?_
    refine hr_iload_n G dM_session_96 rfl rfl ?_
    refine hr_zald (n := s) (v := .int (S 33 0 s)) G rfl (by decide) rfl (hA.lt (show 0 < hw_n0 33 by decide)) rfl (show s < 40 by omega) rfl dM_session_97 ?_
    refine hr_if_eq (tgt := 105) G dM_session_98 (by decide) (fun h98 => ?_) (fun h98 => ?_)
    · skip
      refine hr_iconst (v := 0) G dM_session_105 (by decide) ?_
      exact hr_iret G hr (fun _ h => h) dM_session_106 ⟨by first | rfl | (simp only [md_ses, e0, e1, e2, e3, h98, ↓reduceIte, eq_self, true_or, or_true, or_self]; done) | (simp only [md_ses, e0, e1, e2, e3, h98, ↓reduceIte, eq_self, true_or, or_true, or_self]; rfl), rfl, rfl, rfl⟩
    · skip
      refine hr_iconst (v := 1) G dM_session_101 (by decide) ?_
      refine hr_goto (tgt := 106) G dM_session_102 (by decide) ?_
      exact hr_iret G hr (fun _ h => h) dM_session_106 ⟨by first | rfl | (simp only [md_ses, e0, e1, e2, e3, h98, ↓reduceIte, eq_self, true_or, or_true, or_self]; done) | (simp only [md_ses, e0, e1, e2, e3, h98, ↓reduceIte, eq_self, true_or, or_true, or_self]; rfl), rfl, rfl, rfl⟩
  refine hr_tblOut (tgt := 107) G dM_session_22 (ib_sw4 e0 e1 e2 e3 e4) (by decide) ?_
  refine hr_iconst (v := -1) G dM_session_107 (by decide) ?_
  exact hr_iret G hr (fun _ h => h) dM_session_108 ⟨by first | rfl | (simp only [md_ses, e0, e1, e2, e3, e4, ↓reduceIte, eq_self, true_or, or_true, or_self]; done) | (simp only [md_ses, e0, e1, e2, e3, e4, ↓reduceIte, eq_self, true_or, or_true, or_self]; rfl), rfl, rfl, rfl⟩
set_option maxRecDepth 100000 in
set_option maxHeartbeats 1000000 in
theorem m_M_session_n (l : Launch) (B : hw_B) (nb : Nat → Nat) (S : hw_St) (z : Nat) (hA : hw_al nb) (hF : hw_Fx S) (v x : Int32) (hv : v < 0 ∨ ¬ v ≤ S 20 0 12 - 1) : hw_M l yM_session cM_session 3 (some .int) ({ frames := 2, cells := 0, slots := 0, locals := 60 }) B [.ref (hw_a B 20 0), .int v, .int x] nb S z (hw_p (.inl (some (.int (-1)))) nb (hw_sv S 20 0 0 0) z) := by
  refine hw_M.of (by decide) (Nat.le_of_ble_eq_true rfl) ?_
  intro X fr hl hR G hr hnm
  refine hr_aload_n G dM_session_0 rfl rfl ?_
  refine hr_iconst (v := 0) G dM_session_1 (by decide) ?_
  refine hr_put (x := 0) G fM_87 (hA.lt (show 0 < hw_n0 20 by decide)) rfl (rfl) rfl dM_session_2 ?_
  refine hr_iload_n G dM_session_5 rfl rfl ?_
  refine hr_iconst (v := 0) G dM_session_6 (by decide) ?_
  refine hr_aload_n G dM_session_7 rfl rfl ?_
  refine hr_get (v := .int (S 20 0 12)) G fM_104 (hA.lt (show 0 < hw_n0 20 by decide)) rfl dM_session_8 ?_
  refine hr_iconst (v := 1) G dM_session_11 (by decide) ?_
  refine hr_isub G dM_session_12 ?_
  refine hr_callSs G kM_90 sM_within (m_within_n _ _ _ _ _ v 0 ((S 20 0 12) - 1) hv) rfl rfl (Nat.le_of_ble_eq_true rfl) ⟨by rw [hR]; decide, by rw [hR]; decide⟩ ⟨by rw [hR]; decide, by rw [hR]; decide⟩ dM_session_13 ?_
  refine hr_if_ne (tgt := 21) G dM_session_16 (by decide) (fun h => absurd (by decide) h) (fun _ => ?_)
  refine hr_iconst (v := -1) G dM_session_19 (by decide) ?_
  exact hr_iret G hr (fun _ h => h) dM_session_20 hw_pi
def md_hou (S : hw_St) (x : Int32) : Int32 := if x = 0 then S 20 0 1 else if x = 1 then S 20 0 12 else if x = 2 then S 20 0 18 else if x = 3 then S 20 0 26 else if x = 4 then S 20 0 3 else -1
set_option maxRecDepth 100000 in
set_option maxHeartbeats 1000000 in
theorem m_M_house_n (l : Launch) (B : hw_B) (nb : Nat → Nat) (S : hw_St) (z : Nat) (hA : hw_al nb) (hF : hw_Fx S) (x : Int32) (hx : x < 5 ∨ ¬ x ≤ 8) : hw_M l yM_house cM_house 2 (some .int) ({ frames := 2, cells := 0, slots := 0, locals := 60 }) B [.ref (hw_a B 20 0), .int x] nb S z (hw_p (.inl (some (.int (md_hou S x)))) nb (hw_sv S 20 0 0 0) z) := by
  refine hw_M.of (by decide) (Nat.le_of_ble_eq_true rfl) ?_
  intro X fr hl hR G hr hnm
  refine hr_aload_n G dM_house_0 rfl rfl ?_
  refine hr_iconst (v := 0) G dM_house_1 (by decide) ?_
  refine hr_put (x := 0) G fM_87 (hA.lt (show 0 < hw_n0 20 by decide)) rfl (rfl) rfl dM_house_2 ?_
  refine hr_iload_n G dM_house_5 rfl rfl ?_
  refine hr_iconst (v := 5) G dM_house_6 (by decide) ?_
  refine hr_bipush (v := 8) G dM_house_7 (by decide) ?_
  refine hr_callSs G kM_90 sM_within (m_within_n _ _ _ _ _ x 5 8 hx) rfl rfl (Nat.le_of_ble_eq_true rfl) ⟨by rw [hR]; decide, by rw [hR]; decide⟩ ⟨by rw [hR]; decide, by rw [hR]; decide⟩ dM_house_9 ?_
  refine hr_if_eq (tgt := 23) G dM_house_12 (by decide) (fun _ => ?_) (fun h => absurd (by decide) h)
  refine hr_iload_n G dM_house_23 rfl rfl ?_
  by_cases e0 : x = 0
  · subst e0
    refine hr_tblIn (off := 36) (tgt := 60) G dM_house_24 (by decide) (by decide) (by decide) (by decide) ?_
    refine hr_aload_n G dM_house_60 rfl rfl ?_
    refine hr_get (v := .int (S 20 0 1)) G fM_97 (hA.lt (show 0 < hw_n0 20 by decide)) rfl dM_house_61 ?_
    exact hr_iret G hr (fun _ h => h) dM_house_64 ⟨by first | rfl | (simp only [md_hou, ↓reduceIte, eq_self, true_or, or_true, or_self]; done) | (simp only [md_hou, ↓reduceIte, eq_self, true_or, or_true, or_self]; rfl), rfl, rfl, rfl⟩
  by_cases e1 : x = 1
  · subst e1
    refine hr_tblIn (off := 41) (tgt := 65) G dM_house_24 (by decide) (by decide) (by decide) (by decide) ?_
    refine hr_aload_n G dM_house_65 rfl rfl ?_
    refine hr_get (v := .int (S 20 0 12)) G fM_104 (hA.lt (show 0 < hw_n0 20 by decide)) rfl dM_house_66 ?_
    exact hr_iret G hr (fun _ h => h) dM_house_69 ⟨by first | rfl | (simp only [md_hou, e0, ↓reduceIte, eq_self, true_or, or_true, or_self]; done) | (simp only [md_hou, e0, ↓reduceIte, eq_self, true_or, or_true, or_self]; rfl), rfl, rfl, rfl⟩
  by_cases e2 : x = 2
  · subst e2
    refine hr_tblIn (off := 46) (tgt := 70) G dM_house_24 (by decide) (by decide) (by decide) (by decide) ?_
    refine hr_aload_n G dM_house_70 rfl rfl ?_
    refine hr_get (v := .int (S 20 0 18)) G fM_111 (hA.lt (show 0 < hw_n0 20 by decide)) rfl dM_house_71 ?_
    exact hr_iret G hr (fun _ h => h) dM_house_74 ⟨by first | rfl | (simp only [md_hou, e0, e1, ↓reduceIte, eq_self, true_or, or_true, or_self]; done) | (simp only [md_hou, e0, e1, ↓reduceIte, eq_self, true_or, or_true, or_self]; rfl), rfl, rfl, rfl⟩
  by_cases e3 : x = 3
  · subst e3
    refine hr_tblIn (off := 51) (tgt := 75) G dM_house_24 (by decide) (by decide) (by decide) (by decide) ?_
    refine hr_aload_n G dM_house_75 rfl rfl ?_
    refine hr_get (v := .int (S 20 0 26)) G fM_163 (hA.lt (show 0 < hw_n0 20 by decide)) rfl dM_house_76 ?_
    exact hr_iret G hr (fun _ h => h) dM_house_79 ⟨by first | rfl | (simp only [md_hou, e0, e1, e2, ↓reduceIte, eq_self, true_or, or_true, or_self]; done) | (simp only [md_hou, e0, e1, e2, ↓reduceIte, eq_self, true_or, or_true, or_self]; rfl), rfl, rfl, rfl⟩
  by_cases e4 : x = 4
  · subst e4
    refine hr_tblIn (off := 56) (tgt := 80) G dM_house_24 (by decide) (by decide) (by decide) (by decide) ?_
    refine hr_aload_n G dM_house_80 rfl rfl ?_
    refine hr_get (v := .int (S 20 0 3)) G fM_94 (hA.lt (show 0 < hw_n0 20 by decide)) rfl dM_house_81 ?_
    exact hr_iret G hr (fun _ h => h) dM_house_84 ⟨by first | rfl | (simp only [md_hou, e0, e1, e2, e3, ↓reduceIte, eq_self, true_or, or_true, or_self]; done) | (simp only [md_hou, e0, e1, e2, e3, ↓reduceIte, eq_self, true_or, or_true, or_self]; rfl), rfl, rfl, rfl⟩
  refine hr_tblOut (tgt := 85) G dM_house_24 (ib_sw4 e0 e1 e2 e3 e4) (by decide) ?_
  refine hr_iconst (v := -1) G dM_house_85 (by decide) ?_
  exact hr_iret G hr (fun _ h => h) dM_house_86 ⟨by first | rfl | (simp only [md_hou, e0, e1, e2, e3, e4, ↓reduceIte, eq_self, true_or, or_true, or_self]; done) | (simp only [md_hou, e0, e1, e2, e3, e4, ↓reduceIte, eq_self, true_or, or_true, or_self]; rfl), rfl, rfl, rfl⟩
set_option maxRecDepth 100000 in
set_option maxHeartbeats 1000000 in
theorem m_M_house_y (l : Launch) (B : hw_B) (nb : Nat → Nat) (S : hw_St) (z : Nat) (hA : hw_al nb) (hF : hw_Fx S) (x : Int32) (hx1 : ¬ x < 5) (hx2 : x ≤ 8) (u : Nat) (hu : u < 4) (hxu : x - 5 = nI u) : hw_M l yM_house cM_house 2 (some .int) ({ frames := 2, cells := 0, slots := 0, locals := 60 }) B [.ref (hw_a B 20 0), .int x] nb S z (hw_p (.inl (some (.int (md_cnt S u)))) nb (hw_sv S 20 0 0 0) z) := by
  refine hw_M.of (by decide) (Nat.le_of_ble_eq_true rfl) ?_
  intro X fr hl hR G hr hnm
  refine hr_aload_n G dM_house_0 rfl rfl ?_
  refine hr_iconst (v := 0) G dM_house_1 (by decide) ?_
  refine hr_put (x := 0) G fM_87 (hA.lt (show 0 < hw_n0 20 by decide)) rfl (rfl) rfl dM_house_2 ?_
  refine hr_iload_n G dM_house_5 rfl rfl ?_
  refine hr_iconst (v := 5) G dM_house_6 (by decide) ?_
  refine hr_bipush (v := 8) G dM_house_7 (by decide) ?_
  refine hr_callSs G kM_90 sM_within (m_within_y _ _ _ _ _ x 5 8 hx1 hx2) rfl rfl (Nat.le_of_ble_eq_true rfl) ⟨by rw [hR]; decide, by rw [hR]; decide⟩ ⟨by rw [hR]; decide, by rw [hR]; decide⟩ dM_house_9 ?_
  refine hr_if_eq (tgt := 23) G dM_house_12 (by decide) (fun h => absurd h (by decide)) (fun _ => ?_)
  refine hr_aload_n G dM_house_15 rfl rfl ?_
  refine hr_iload_n G dM_house_16 rfl rfl ?_
  refine hr_iconst (v := 5) G dM_house_17 (by decide) ?_
  refine hr_isub G dM_house_18 ?_
  rw [hxu]
  refine hr_callVs (k := 20) (i := 0) G rfl rfl (hA.lt (show 0 < hw_n0 20 by decide)) kM_100 iM_counting vM_counting (m_M_counting _ _ _ (hw_sv S 20 0 0 0) _ hA (hF.sv rfl) u hu) rfl rfl (Nat.le_of_ble_eq_true rfl) ⟨by rw [hR]; decide, by rw [hR]; decide⟩ ⟨by rw [hR]; decide, by rw [hR]; decide⟩ dM_house_19 ?_
  exact hr_iret G hr (fun _ h => h) dM_house_22 hw_pi
set_option maxRecDepth 100000 in
set_option maxHeartbeats 1000000 in
theorem m_M_logout_a (l : Launch) (B : hw_B) (nb : Nat → Nat) (S : hw_St) (z : Nat) (hA : hw_al nb) (hF : hw_Fx S) (x : Int32) (hx : x < 0 ∨ ¬ x ≤ S 20 0 12 - 1) : hw_M l yM_logout cM_logout 2 (some .int) ({ frames := 2, cells := 0, slots := 0, locals := 60 }) B [.ref (hw_a B 20 0), .int x] nb S z (hw_p (.inl (some (.int 0))) nb (hw_sv S 20 0 0 1) z) := by
  refine hw_M.of (by decide) (Nat.le_of_ble_eq_true rfl) ?_
  intro X fr hl hR G hr hnm
  refine hr_aload_n G dM_logout_0 rfl rfl ?_
  refine hr_iload_n G dM_logout_1 rfl rfl ?_
  refine hr_iconst (v := 0) G dM_logout_2 (by decide) ?_
  refine hr_aload_n G dM_logout_3 rfl rfl ?_
  refine hr_get (v := .int (S 20 0 12)) G fM_104 (hA.lt (show 0 < hw_n0 20 by decide)) rfl dM_logout_4 ?_
  refine hr_iconst (v := 1) G dM_logout_7 (by decide) ?_
  refine hr_isub G dM_logout_8 ?_
  refine hr_callSs G kM_90 sM_within (m_within_n _ _ _ _ _ x 0 ((S 20 0 12) - 1) hx) rfl rfl (Nat.le_of_ble_eq_true rfl) ⟨by rw [hR]; decide, by rw [hR]; decide⟩ ⟨by rw [hR]; decide, by rw [hR]; decide⟩ dM_logout_9 ?_
  refine hr_if_ne (tgt := 19) G dM_logout_12 (by decide) (fun h => absurd (by decide) h) (fun _ => ?_)
  refine hr_iconst (v := 1) G dM_logout_15 (by decide) ?_
  refine hr_goto (tgt := 33) G dM_logout_16 (by decide) ?_
  refine hr_put (x := 1) G fM_87 (hA.lt (show 0 < hw_n0 20 by decide)) rfl (rfl) rfl dM_logout_33 ?_
  refine hr_aload_n G dM_logout_36 rfl rfl ?_
  refine hr_get (v := .int 1) G fM_87 (hA.lt (show 0 < hw_n0 20 by decide)) rfl dM_logout_37 ?_
  refine hr_if_le (tgt := 47) G dM_logout_40 (by decide) (fun h => absurd h (by decide)) (fun _ => ?_)
  refine hr_iconst (v := 0) G dM_logout_43 (by decide) ?_
  refine hr_goto (tgt := 52) G dM_logout_44 (by decide) ?_
  exact hr_iret G hr (fun _ h => h) dM_logout_52 hw_pi
set_option maxRecDepth 100000 in
set_option maxHeartbeats 1000000 in
theorem m_M_logout_b (l : Launch) (B : hw_B) (nb : Nat → Nat) (S : hw_St) (z : Nat) (hA : hw_al nb) (hF : hw_Fx S) (s n : Nat) (hs : s < n) (hn : n ≤ 40) (hc : S 20 0 12 = nI n) (he : ¬ S 34 0 s = 0) : hw_M l yM_logout cM_logout 2 (some .int) ({ frames := 2, cells := 0, slots := 0, locals := 60 }) B [.ref (hw_a B 20 0), .int (nI s)] nb S z (hw_p (.inl (some (.int 0))) nb (hw_sv S 20 0 0 2) z) := by
  refine hw_M.of (by decide) (Nat.le_of_ble_eq_true rfl) ?_
  intro X fr hl hR G hr hnm
  refine hr_aload_n G dM_logout_0 rfl rfl ?_
  refine hr_iload_n G dM_logout_1 rfl rfl ?_
  refine hr_iconst (v := 0) G dM_logout_2 (by decide) ?_
  refine hr_aload_n G dM_logout_3 rfl rfl ?_
  refine hr_get (v := .int (S 20 0 12)) G fM_104 (hA.lt (show 0 < hw_n0 20 by decide)) rfl dM_logout_4 ?_
  refine hr_iconst (v := 1) G dM_logout_7 (by decide) ?_
  refine hr_isub G dM_logout_8 ?_
  refine hr_callSs G kM_90 sM_within (m_within_y _ _ _ _ _ (nI s) 0 ((S 20 0 12) - 1) (nI_pos (by omega)) (show nI s ≤ S 20 0 12 - 1 by rw [hc]; exact nI_lt_p hs (by omega))) rfl rfl (Nat.le_of_ble_eq_true rfl) ⟨by rw [hR]; decide, by rw [hR]; decide⟩ ⟨by rw [hR]; decide, by rw [hR]; decide⟩ dM_logout_9 ?_
  refine hr_if_ne (tgt := 19) G dM_logout_12 (by decide) (fun _ => ?_) (fun h => absurd h (by decide))
  refine hr_aload_n G dM_logout_19 rfl rfl ?_
  refine hr_get (v := .ref (hw_a B 34 0)) G fM_50 (hA.lt (show 0 < hw_n0 20 by decide)) (hw_rfx hF (by decide) rfl (by decide)) dM_logout_20 ?_
  refine hr_iload_n G dM_logout_23 rfl rfl ?_
  refine hr_zald (n := s) (v := .int (S 34 0 s)) G rfl (by decide) rfl (hA.lt (show 0 < hw_n0 34 by decide)) rfl (show s < 40 by omega) rfl dM_logout_24 ?_
  refine hr_if_eq (tgt := 32) G dM_logout_25 (by decide) (fun h => absurd h he) (fun _ => ?_)
  refine hr_iconst (v := 2) G dM_logout_28 (by decide) ?_
  refine hr_goto (tgt := 33) G dM_logout_29 (by decide) ?_
  refine hr_put (x := 2) G fM_87 (hA.lt (show 0 < hw_n0 20 by decide)) rfl (rfl) rfl dM_logout_33 ?_
  refine hr_aload_n G dM_logout_36 rfl rfl ?_
  refine hr_get (v := .int 2) G fM_87 (hA.lt (show 0 < hw_n0 20 by decide)) rfl dM_logout_37 ?_
  refine hr_if_le (tgt := 47) G dM_logout_40 (by decide) (fun h => absurd h (by decide)) (fun _ => ?_)
  refine hr_iconst (v := 0) G dM_logout_43 (by decide) ?_
  refine hr_goto (tgt := 52) G dM_logout_44 (by decide) ?_
  exact hr_iret G hr (fun _ h => h) dM_logout_52 hw_pi
theorem md_co_0 (s : Nat) (S : hw_St) (x : Int32) (k : Nat) : md_co s (hw_sv S 20 0 0 x) k = md_co s S k := by
  induction k with
  | zero => rfl
  | succ k ih => unfold md_co; rw [ih]; rfl
set_option maxRecDepth 100000 in
set_option maxHeartbeats 1000000 in
theorem m_M_logout_c (l : Launch) (B : hw_B) (nb : Nat → Nat) (S : hw_St) (z : Nat) (hA : hw_al nb) (hF : hw_Fx S) (s n : Nat) (hs : s < n) (hn : n ≤ 40) (hc : S 20 0 12 = nI n) (nt nm : Nat) (hM : im n nt S) (he : S 34 0 s = 0) (hms : S 20 0 26 = nI nm) (hco : nm + md_co s S nt ≤ 200) : hw_M l yM_logout cM_logout 2 (some .int) ({ frames := 2, cells := 0, slots := 0, locals := 60 }) B [.ref (hw_a B 20 0), .int (nI s)] nb S z (fun oc nb' S' z' => (∃ j, j ≤ md_co s S nt ∧ oc = .inl (some (.int (nI j))) ∧ S' 20 0 26 = nI (nm + j)) ∧ nb' = nb ∧ S' = md_endk s (hw_sv (hw_sv S 20 0 0 0) 34 0 s 1) nt ∧ z' = z) := by
  refine hw_M.of (by decide) (Nat.le_of_ble_eq_true rfl) ?_
  intro X fr hl hR G hr hnm
  rw [← md_co_0 s S 0] at hco
  refine hr_aload_n G dM_logout_0 rfl rfl ?_
  refine hr_iload_n G dM_logout_1 rfl rfl ?_
  refine hr_iconst (v := 0) G dM_logout_2 (by decide) ?_
  refine hr_aload_n G dM_logout_3 rfl rfl ?_
  refine hr_get (v := .int (S 20 0 12)) G fM_104 (hA.lt (show 0 < hw_n0 20 by decide)) rfl dM_logout_4 ?_
  refine hr_iconst (v := 1) G dM_logout_7 (by decide) ?_
  refine hr_isub G dM_logout_8 ?_
  refine hr_callSs G kM_90 sM_within (m_within_y _ _ _ _ _ (nI s) 0 ((S 20 0 12) - 1) (nI_pos (by omega)) (show nI s ≤ S 20 0 12 - 1 by rw [hc]; exact nI_lt_p hs (by omega))) rfl rfl (Nat.le_of_ble_eq_true rfl) ⟨by rw [hR]; decide, by rw [hR]; decide⟩ ⟨by rw [hR]; decide, by rw [hR]; decide⟩ dM_logout_9 ?_
  refine hr_if_ne (tgt := 19) G dM_logout_12 (by decide) (fun _ => ?_) (fun h => absurd h (by decide))
  refine hr_aload_n G dM_logout_19 rfl rfl ?_
  refine hr_get (v := .ref (hw_a B 34 0)) G fM_50 (hA.lt (show 0 < hw_n0 20 by decide)) (hw_rfx hF (by decide) rfl (by decide)) dM_logout_20 ?_
  refine hr_iload_n G dM_logout_23 rfl rfl ?_
  refine hr_zald (n := s) (v := .int (S 34 0 s)) G rfl (by decide) rfl (hA.lt (show 0 < hw_n0 34 by decide)) rfl (show s < 40 by omega) rfl dM_logout_24 ?_
  refine hr_if_eq (tgt := 32) G dM_logout_25 (by decide) (fun _ => ?_) (fun h => absurd he h)
  refine hr_iconst (v := 0) G dM_logout_32 (by decide) ?_
  refine hr_put (x := 0) G fM_87 (hA.lt (show 0 < hw_n0 20 by decide)) rfl (rfl) rfl dM_logout_33 ?_
  refine hr_aload_n G dM_logout_36 rfl rfl ?_
  refine hr_get (v := .int 0) G fM_87 (hA.lt (show 0 < hw_n0 20 by decide)) rfl dM_logout_37 ?_
  refine hr_if_le (tgt := 47) G dM_logout_40 (by decide) (fun _ => ?_) (fun h => absurd (by decide) h)
  refine hr_aload_n G dM_logout_47 rfl rfl ?_
  refine hr_iload_n G dM_logout_48 rfl rfl ?_
  refine hr_callV (k := 20) (i := 0) (ci := 5) (T := FM) (N := 31) G rfl rfl (hA.lt (show 0 < hw_n0 20 by decide)) kM_166 iM_ends vM_ends (m_M_ends _ _ _ (hw_sv S 20 0 0 0) _ hA (hF.sv rfl) n nt hM s nm hs hms hco) rfl rfl (Nat.le_of_ble_eq_true rfl) ⟨by rw [hR]; decide, by rw [hR]; decide⟩ ⟨by rw [hR]; decide, by rw [hR]; decide⟩ dM_logout_49 (fun r nb2 S2 z2 hp => ?_)
  obtain ⟨⟨j, hj1, hr1, hj2⟩, rfl, rfl, rfl⟩ := hp
  obtain rfl := Sum.inl.inj hr1
  exact hr_iret G hr (fun _ h => h) dM_logout_52 ⟨⟨j, by rw [← md_co_0 s S 0]; exact hj1, rfl, hj2⟩, rfl, rfl, rfl⟩
set_option maxRecDepth 100000 in
set_option maxHeartbeats 1000000 in
theorem m_M_text_a (l : Launch) (B : hw_B) (nb : Nat → Nat) (S : hw_St) (z : Nat) (hA : hw_al nb) (hF : hw_Fx S) (x y : Int32) (hx : x < 0 ∨ ¬ x ≤ 3) : hw_M l yM_text cM_text 5 (some .int) ({ frames := 2, cells := 0, slots := 0, locals := 60 }) B [.ref (hw_a B 20 0), .int x, .int y] nb S z (hw_p (.inl (some (.int 0))) nb (hw_sv S 20 0 0 1) z) := by
  refine hw_M.of (by decide) (Nat.le_of_ble_eq_true rfl) ?_
  intro X fr hl hR G hr hnm
  refine hr_aload_n G dM_text_0 rfl rfl ?_
  refine hr_iload_n G dM_text_1 rfl rfl ?_
  refine hr_iconst (v := 0) G dM_text_2 (by decide) ?_
  refine hr_iconst (v := 3) G dM_text_3 (by decide) ?_
  refine hr_callSs G kM_90 sM_within (m_within_n _ _ _ _ _ x 0 3 hx) rfl rfl (Nat.le_of_ble_eq_true rfl) ⟨by rw [hR]; decide, by rw [hR]; decide⟩ ⟨by rw [hR]; decide, by rw [hR]; decide⟩ dM_text_4 ?_
  refine hr_if_eq (tgt := 19) G dM_text_7 (by decide) (fun _ => ?_) (fun h => absurd (by decide) h)
  refine hr_iconst (v := 1) G dM_text_19 (by decide) ?_
  refine hr_goto (tgt := 24) G dM_text_20 (by decide) ?_
  refine hr_put (x := 1) G fM_87 (hA.lt (show 0 < hw_n0 20 by decide)) rfl (rfl) rfl dM_text_24 ?_
  refine hr_aload_n G dM_text_27 rfl rfl ?_
  refine hr_get (v := .int 1) G fM_87 (hA.lt (show 0 < hw_n0 20 by decide)) rfl dM_text_28 ?_
  refine hr_if_le (tgt := 36) G dM_text_31 (by decide) (fun h => absurd h (by decide)) (fun _ => ?_)
  refine hr_iconst (v := 0) G dM_text_34 (by decide) ?_
  exact hr_iret G hr (fun _ h => h) dM_text_35 hw_pi
set_option maxRecDepth 100000 in
set_option maxHeartbeats 1000000 in
theorem m_M_text_b (l : Launch) (B : hw_B) (nb : Nat → Nat) (S : hw_St) (z : Nat) (hA : hw_al nb) (hF : hw_Fx S) (u : Nat) (hu : u < 4) (y : Int32) (hy : y < 0 ∨ ¬ y ≤ 3) : hw_M l yM_text cM_text 5 (some .int) ({ frames := 2, cells := 0, slots := 0, locals := 60 }) B [.ref (hw_a B 20 0), .int (nI u), .int y] nb S z (hw_p (.inl (some (.int 0))) nb (hw_sv S 20 0 0 1) z) := by
  refine hw_M.of (by decide) (Nat.le_of_ble_eq_true rfl) ?_
  intro X fr hl hR G hr hnm
  refine hr_aload_n G dM_text_0 rfl rfl ?_
  refine hr_iload_n G dM_text_1 rfl rfl ?_
  refine hr_iconst (v := 0) G dM_text_2 (by decide) ?_
  refine hr_iconst (v := 3) G dM_text_3 (by decide) ?_
  refine hr_callSs G kM_90 sM_within (m_within_y _ _ _ _ _ (nI u) 0 3 (nI_pos (by omega)) (show nI u ≤ 3 from nI_le (b := 3) (by omega) (by decide))) rfl rfl (Nat.le_of_ble_eq_true rfl) ⟨by rw [hR]; decide, by rw [hR]; decide⟩ ⟨by rw [hR]; decide, by rw [hR]; decide⟩ dM_text_4 ?_
  refine hr_if_eq (tgt := 19) G dM_text_7 (by decide) (fun h => absurd h (by decide)) (fun _ => ?_)
  refine hr_iload_n G dM_text_10 rfl rfl ?_
  refine hr_iconst (v := 0) G dM_text_11 (by decide) ?_
  refine hr_iconst (v := 3) G dM_text_12 (by decide) ?_
  refine hr_callSs G kM_90 sM_within (m_within_n _ _ _ _ _ y 0 3 hy) rfl rfl (Nat.le_of_ble_eq_true rfl) ⟨by rw [hR]; decide, by rw [hR]; decide⟩ ⟨by rw [hR]; decide, by rw [hR]; decide⟩ dM_text_13 ?_
  refine hr_if_ne (tgt := 23) G dM_text_16 (by decide) (fun h => absurd (by decide) h) (fun _ => ?_)
  refine hr_iconst (v := 1) G dM_text_19 (by decide) ?_
  refine hr_goto (tgt := 24) G dM_text_20 (by decide) ?_
  refine hr_put (x := 1) G fM_87 (hA.lt (show 0 < hw_n0 20 by decide)) rfl (rfl) rfl dM_text_24 ?_
  refine hr_aload_n G dM_text_27 rfl rfl ?_
  refine hr_get (v := .int 1) G fM_87 (hA.lt (show 0 < hw_n0 20 by decide)) rfl dM_text_28 ?_
  refine hr_if_le (tgt := 36) G dM_text_31 (by decide) (fun h => absurd h (by decide)) (fun _ => ?_)
  refine hr_iconst (v := 0) G dM_text_34 (by decide) ?_
  exact hr_iret G hr (fun _ h => h) dM_text_35 hw_pi
