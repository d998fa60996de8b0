/-! The reference: validate accepts, about. -/
theorem im_giv {ns nt : Nat} {S : hw_St} (h : im ns nt S) (h150 : nt < 150) {k s w f p : Int32} (hs : ∃ s', s' < ns ∧ s = nI s') (hw : ∃ w', w' < 6 ∧ w = nI w') (hp : p = -1 ∨ ∃ q, q < nt ∧ p = nI q) (hk : k = 2 → ∀ q, q < nt → p = nI q → ¬ S 35 0 q = 2) : im ns (nt + 1) (md_giv S nt k s w f p) := by
  obtain ⟨h1, h2, h3, h4, h5, h6, h7, h8, h9⟩ := h
  have e35 : ∀ i, ¬ i = nt → md_giv S nt k s w f p 35 0 i = S 35 0 i := fun i e => by simp [md_giv, hw_sv, e]
  have e40 : ∀ i, ¬ i = nt → md_giv S nt k s w f p 40 0 i = S 40 0 i := fun i e => by simp [md_giv, hw_sv, e]
  refine ⟨h1, ⟨h150, by show S 20 0 18 + 1 = _; rw [h2.2, nI_succ]⟩, h3, h4, h5, fun i hi => ?_, fun i hi => ?_, fun i hi => ?_, fun i hi => ?_⟩
  · by_cases e : i = nt
    · subst e; rw [show md_giv S i k s w f p 36 0 i = s by simp [md_giv, hw_sv]]; exact hs
    · rw [show md_giv S nt k s w f p 36 0 i = S 36 0 i by simp [md_giv, hw_sv, e]]; exact h6 i (by omega)
  · by_cases e : i = nt
    · subst e; rw [show md_giv S i k s w f p 37 0 i = w by simp [md_giv, hw_sv]]; exact hw
    · rw [show md_giv S nt k s w f p 37 0 i = S 37 0 i by simp [md_giv, hw_sv, e]]; exact h7 i (by omega)
  · by_cases e : i = nt
    · subst e; rw [show md_giv S i k s w f p 40 0 i = p by simp [md_giv, hw_sv]]; exact hp
    · rw [e40 i e]; exact h8 i (by omega)
  · by_cases e : i = nt
    · subst e
      rw [show md_giv S i k s w f p 40 0 i = p by simp [md_giv, hw_sv], show md_giv S i k s w f p 35 0 i = k by simp [md_giv, hw_sv]]
      intro a q hq b
      rw [e35 q (by omega)]; exact hk a q hq b
    · rw [e40 i e, e35 i e]
      intro a q hq b
      rw [e35 q (by omega)]; exact h9 i (by omega) a q hq b
set_option maxRecDepth 100000 in
set_option maxHeartbeats 1000000 in
theorem m_M_validate_f (l : Launch) (B : hw_B) (nb : Nat → Nat) (S : hw_St) (z : Nat) (hA : hw_al nb) (hF : hw_Fx S) (ns nt : Nat) (hM : im ns nt S) (t : Nat) (ht : t < nt) (w : Nat) (hw : w < 6) (h : Int32) (c : Nat) (hc : c < 6) (hh1 : ¬ h < 0) (hh2 : h ≤ 7) (hJ : hw_M l yM_judged cM_judged 4 (some .int) ({ frames := 2, cells := 0, slots := 0, locals := 43 }) B [.ref (hw_a B 20 0), .int (nI t), .int (nI w), .int h] nb (hw_sv S 20 0 0 0) z (hw_p (.inl (some (.int 0))) nb (hw_sv S 20 0 0 0) z)) (s : Nat) (hs : s < ns) (hts : S 36 0 t = nI s) (hk : ¬ S 35 0 t = 2) (h150 : nt < 150) (hc0 : 1 ≤ c) (hbr : S 29 0 c = 0) (hfl : (S 28 0 w / 2 - S 28 0 w / 2 / 2 * 2 = 1)) : hw_M l yM_validate cM_validate 7 (some .int) ({ frames := 5, cells := 0, slots := 0, locals := 127 }) B [.ref (hw_a B 20 0), .int (nI t), .int (nI w), .int h, .int (nI c)] nb S z (fun oc nb' S' z' => oc = .inl (some (.int 0)) ∧ nb' = nb ∧ pg_r 1400 (md_giv (hw_sv (hw_sv (hw_sv S 20 0 0 0) 41 0 t 1) 32 0 s (S 20 0 1)) nt 2 (S 36 0 t) (nI c) 0 (nI t)) S' ∧ z' = z) := by
  refine hw_M.of (by decide) (Nat.le_of_ble_eq_true rfl) ?_
  intro X fr hl hR G hr hnm
  have hM0 := hM
  obtain ⟨⟨hs1, hs2⟩, ⟨ht1, ht2⟩, hd, hlen, hus, hof, hwh, hpa, hkk⟩ := hM
  have hF2 : hw_Fx (hw_sv (hw_sv (hw_sv S 20 0 0 0) 41 0 t 1) 32 0 s (S 20 0 1)) := (((hF.sv rfl).sv rfl).sv rfl)
  have hM3 : im ns (nt + 1) (md_giv (hw_sv (hw_sv (hw_sv S 20 0 0 0) 41 0 t 1) 32 0 s (S 20 0 1)) nt 2 (S 36 0 t) (nI c) 0 (nI t)) := im_giv (S := (hw_sv (hw_sv (hw_sv S 20 0 0 0) 41 0 t 1) 32 0 s (S 20 0 1))) hM0 h150 ⟨s, hs, hts⟩ ⟨c, hc, rfl⟩ (Or.inr ⟨t, ht, rfl⟩) (fun _ q hq e => by rw [← nI_inj (by omega) (by omega) e]; exact hk)
  refine hr_aload_n G dM_validate_0 rfl rfl ?_
  refine hr_iload_n G dM_validate_1 rfl rfl ?_
  refine hr_iconst (v := 0) G dM_validate_2 (by decide) ?_
  refine hr_bipush (v := 7) G dM_validate_3 (by decide) ?_
  refine hr_callSs G kM_90 sM_within (m_within_y _ _ _ _ _ h 0 7 hh1 hh2) rfl rfl (Nat.le_of_ble_eq_true rfl) ⟨by rw [hR]; decide, by rw [hR]; decide⟩ ⟨by rw [hR]; decide, by rw [hR]; decide⟩ dM_validate_5 ?_
  refine hr_if_eq (tgt := 25) G dM_validate_8 (by decide) (fun h => absurd h (by decide)) (fun _ => ?_)
  refine hr_iload G dM_validate_11 rfl ?_
  refine hr_iconst (v := 0) G dM_validate_13 (by decide) ?_
  refine hr_iconst (v := 5) G dM_validate_14 (by decide) ?_
  refine hr_callSs G kM_90 sM_within (m_within_y _ _ _ _ _ (nI c) 0 5 (nI_pos (by omega)) (show nI c ≤ 5 from nI_le (b := 5) (by omega) (by decide))) rfl rfl (Nat.le_of_ble_eq_true rfl) ⟨by rw [hR]; decide, by rw [hR]; decide⟩ ⟨by rw [hR]; decide, by rw [hR]; decide⟩ dM_validate_15 ?_
  refine hr_if_eq (tgt := 25) G dM_validate_18 (by decide) (fun h => absurd h (by decide)) (fun _ => ?_)
  refine hr_iconst (v := 0) G dM_validate_21 (by decide) ?_
  refine hr_goto (tgt := 26) G dM_validate_22 (by decide) ?_
  refine hr_put (x := 0) G fM_87 (hA.lt (show 0 < hw_n0 20 by decide)) rfl (rfl) rfl dM_validate_26 ?_
  refine hr_aload_n G dM_validate_29 rfl rfl ?_
  refine hr_get (v := .int 0) G fM_87 (hA.lt (show 0 < hw_n0 20 by decide)) rfl dM_validate_30 ?_
  refine hr_if_le (tgt := 38) G dM_validate_33 (by decide) (fun _ => ?_) (fun h => absurd (by decide) h)
  refine hr_aload_n G dM_validate_38 rfl rfl ?_
  refine hr_iload_n G dM_validate_39 rfl rfl ?_
  refine hr_iload_n G dM_validate_40 rfl rfl ?_
  refine hr_iload_n G dM_validate_41 rfl rfl ?_
  refine hr_callVs (k := 20) (i := 0) G rfl rfl (hA.lt (show 0 < hw_n0 20 by decide)) kM_152 iM_judged vM_judged (by rw [hl]; exact hJ) rfl rfl (Nat.le_of_ble_eq_true rfl) ⟨by rw [hR]; decide, by rw [hR]; decide⟩ ⟨by rw [hR]; decide, by rw [hR]; decide⟩ dM_validate_42 ?_
  refine hr_istore (i := 5) G dM_validate_45 (by decide) ?_
  refine hr_iload G dM_validate_47 rfl ?_
  refine hr_iconst (v := 2) G dM_validate_49 (by decide) ?_
  refine hr_icmp_le (tgt := 60) G dM_validate_50 (by decide) (fun _ => ?_) (fun h => absurd (by decide) h)
  refine hr_iload G dM_validate_60 rfl ?_
  refine hr_if_le (tgt := 75) G dM_validate_62 (by decide) (fun _ => ?_) (fun h => absurd (by decide) h)
  refine hr_aload_n G dM_validate_75 rfl rfl ?_
  refine hr_get (v := .ref (hw_a B 41 0)) G fM_71 (hA.lt (show 0 < hw_n0 20 by decide)) (hw_rfx (hF.sv rfl) (by decide) rfl (by decide)) dM_validate_76 ?_
  refine hr_iload_n G dM_validate_79 rfl rfl ?_
  refine hr_iconst (v := 1) G dM_validate_80 (by decide) ?_
  refine hr_zast (n := t) (y := 1) G rfl (by decide) rfl (hA.lt (show 0 < hw_n0 41 by decide)) rfl (show t < 150 by omega) rfl (rfl) dM_validate_81 ?_
  refine hr_aload_n G dM_validate_82 rfl rfl ?_
  refine hr_get (v := .ref (hw_a B 32 0)) G fM_44 (hA.lt (show 0 < hw_n0 20 by decide)) (hw_rfx ((hF.sv rfl).sv rfl) (by decide) rfl (by decide)) dM_validate_83 ?_
  refine hr_aload_n G dM_validate_86 rfl rfl ?_
  refine hr_get (v := .ref (hw_a B 36 0)) G fM_56 (hA.lt (show 0 < hw_n0 20 by decide)) (hw_rfx ((hF.sv rfl).sv rfl) (by decide) rfl (by decide)) dM_validate_87 ?_
  refine hr_iload_n G dM_validate_90 rfl rfl ?_
  refine hr_iald (n := t) (v := .int (S 36 0 t)) G rfl (by decide) rfl (hA.lt (show 0 < hw_n0 36 by decide)) rfl (show t < 150 by omega) rfl dM_validate_91 ?_
  refine hr_aload_n G dM_validate_92 rfl rfl ?_
  refine hr_get (v := .int (S 20 0 1)) G fM_97 (hA.lt (show 0 < hw_n0 20 by decide)) rfl dM_validate_93 ?_
  refine hr_iast (n := s) (y := (S 20 0 1)) G rfl (by decide) rfl (hA.lt (show 0 < hw_n0 32 by decide)) hts (show s < 40 by omega) rfl dM_validate_96 ?_
  refine hr_iconst (v := -1) G dM_validate_97 (by decide) ?_
  refine hr_istore (i := 6) G dM_validate_98 (by decide) ?_
  refine hr_iload G dM_validate_100 rfl ?_
  refine hr_if_le (tgt := 156) G dM_validate_102 (by decide) (fun h => absurd h (nI_nle (by omega) (by omega))) (fun _ => ?_)
  refine hr_aload_n G dM_validate_105 rfl rfl ?_
  refine hr_get (v := .ref (hw_a B 29 0)) G fM_35 (hA.lt (show 0 < hw_n0 20 by decide)) (hw_rfx (((hF.sv rfl).sv rfl).sv rfl) (by decide) rfl (by decide)) dM_validate_106 ?_
  refine hr_iload G dM_validate_109 rfl ?_
  refine hr_zald (n := c) (v := .int (S 29 0 c)) G rfl (by decide) rfl (hA.lt (show 0 < hw_n0 29 by decide)) rfl (show c < 6 from hc) rfl dM_validate_111 ?_
  refine hr_if_ne (tgt := 156) G dM_validate_112 (by decide) (fun h => absurd hbr h) (fun _ => ?_)
  refine hr_aload_n G dM_validate_115 rfl rfl ?_
  refine hr_get (v := .ref (hw_a B 28 0)) G fM_32 (hA.lt (show 0 < hw_n0 20 by decide)) (hw_rfx (((hF.sv rfl).sv rfl).sv rfl) (by decide) rfl (by decide)) dM_validate_116 ?_
  refine hr_iload_n G dM_validate_119 rfl rfl ?_
  refine hr_iald (n := w) (v := .int (S 28 0 w)) G rfl (by decide) rfl (hA.lt (show 0 < hw_n0 28 by decide)) rfl (show w < 6 from hw) rfl dM_validate_120 ?_
  refine hr_iconst (v := 2) G dM_validate_121 (by decide) ?_
  refine hr_idiv G dM_validate_122 (by decide) ?_
  refine hr_iconst (v := 2) G dM_validate_123 (by decide) ?_
  refine hr_irem G dM_validate_124 (by decide) ?_
  refine hr_iconst (v := 1) G dM_validate_125 (by decide) ?_
  refine hr_icmp_ne (tgt := 156) G dM_validate_126 (by decide) (fun h => absurd hfl h) (fun _ => ?_)
  refine hr_aload_n G dM_validate_129 rfl rfl ?_
  refine hr_get (v := .int (S 20 0 18)) G fM_111 (hA.lt (show 0 < hw_n0 20 by decide)) rfl dM_validate_130 ?_
  refine hr_sipush (v := 150) G dM_validate_133 (by decide) ?_
  refine hr_icmp_ge (tgt := 156) G dM_validate_136 (by decide) (fun h => absurd h (show ¬ (150 : Int32) ≤ S 20 0 18 by rw [ht2]; exact nI_ge (b := 150) h150 (by decide))) (fun _ => ?_)
  refine hr_aload_n G dM_validate_139 rfl rfl ?_
  refine hr_iconst (v := 2) G dM_validate_140 (by decide) ?_
  refine hr_aload_n G dM_validate_141 rfl rfl ?_
  refine hr_get (v := .ref (hw_a B 36 0)) G fM_56 (hA.lt (show 0 < hw_n0 20 by decide)) (hw_rfx (((hF.sv rfl).sv rfl).sv rfl) (by decide) rfl (by decide)) dM_validate_142 ?_
  refine hr_iload_n G dM_validate_145 rfl rfl ?_
  refine hr_iald (n := t) (v := .int (S 36 0 t)) G rfl (by decide) rfl (hA.lt (show 0 < hw_n0 36 by decide)) rfl (show t < 150 by omega) rfl dM_validate_146 ?_
  refine hr_iload G dM_validate_147 rfl ?_
  refine hr_iconst (v := 0) G dM_validate_149 (by decide) ?_
  refine hr_iload_n G dM_validate_150 rfl rfl ?_
  refine hr_callVs (k := 20) (i := 0) G rfl rfl (hA.lt (show 0 < hw_n0 20 by decide)) kM_118 iM_give vM_give (m_M_give _ _ _ (hw_sv (hw_sv (hw_sv S 20 0 0 0) 41 0 t 1) 32 0 s (S 20 0 1)) _ hA hF2 nt h150 ht2 2 (S 36 0 t) (nI c) 0 (nI t) (Or.inl rfl)) rfl rfl (Nat.le_of_ble_eq_true rfl) ⟨by rw [hR]; decide, by rw [hR]; decide⟩ ⟨by rw [hR]; decide, by rw [hR]; decide⟩ dM_validate_151 ?_
  refine hr_istore (i := 6) G dM_validate_154 (by decide) ?_
  refine hr_aload_n G dM_validate_156 rfl rfl ?_
  refine hr_iload_n G dM_validate_157 rfl rfl ?_
  refine hr_iload_n G dM_validate_158 rfl rfl ?_
  refine hr_iload_n G dM_validate_159 rfl rfl ?_
  refine hr_iconst (v := 4) G dM_validate_160 (by decide) ?_
  refine hr_icmp_lt (tgt := 168) G dM_validate_161 (by decide) (fun h161 => ?_) (fun h161 => ?_)
  · skip
    refine hr_iconst (v := 0) G dM_validate_168 (by decide) ?_
    refine hr_iload G dM_validate_169 rfl ?_
    refine hr_callP (b := 1400) G rfl (hA.lt (show 0 < hw_n0 20 by decide)) kM_159 iM_ok vM_ok (m_M_ok _ _ _ (md_giv (hw_sv (hw_sv (hw_sv S 20 0 0 0) 41 0 t 1) 32 0 s (S 20 0 1)) nt 2 (S 36 0 t) (nI c) 0 (nI t)) _ hA (md_giv_fx hF2) ns (nt + 1) hM3 t w (by omega) hw 0 (nI nt)) rfl rfl (Nat.le_of_ble_eq_true rfl) ⟨by rw [hR]; decide, by rw [hR]; decide⟩ ⟨by rw [hR]; decide, by rw [hR]; decide⟩ dM_validate_171 (fun S9 q9 => ?_)
    refine hr_iconst (v := 0) G dM_validate_174 (by decide) ?_
    exact hr_iret G hr (fun _ h => h) dM_validate_175 ⟨rfl, rfl, q9, rfl⟩
  · skip
    refine hr_iconst (v := 1) G dM_validate_164 (by decide) ?_
    refine hr_goto (tgt := 169) G dM_validate_165 (by decide) ?_
    refine hr_iload G dM_validate_169 rfl ?_
    refine hr_callP (b := 1400) G rfl (hA.lt (show 0 < hw_n0 20 by decide)) kM_159 iM_ok vM_ok (m_M_ok _ _ _ (md_giv (hw_sv (hw_sv (hw_sv S 20 0 0 0) 41 0 t 1) 32 0 s (S 20 0 1)) nt 2 (S 36 0 t) (nI c) 0 (nI t)) _ hA (md_giv_fx hF2) ns (nt + 1) hM3 t w (by omega) hw 1 (nI nt)) rfl rfl (Nat.le_of_ble_eq_true rfl) ⟨by rw [hR]; decide, by rw [hR]; decide⟩ ⟨by rw [hR]; decide, by rw [hR]; decide⟩ dM_validate_171 (fun S9 q9 => ?_)
    refine hr_iconst (v := 0) G dM_validate_174 (by decide) ?_
    exact hr_iret G hr (fun _ h => h) dM_validate_175 ⟨rfl, rfl, q9, rfl⟩
set_option maxRecDepth 100000 in
set_option maxHeartbeats 1000000 in
theorem m_M_validate_g (l : Launch) (B : hw_B) (nb : Nat → Nat) (S : hw_St) (z : Nat) (hA : hw_al nb) (hF : hw_Fx S) (ns nt : Nat) (hM : im ns nt S) (t : Nat) (ht : t < nt) (w : Nat) (hw : w < 6) (h : Int32) (c : Nat) (hc : c < 6) (hh1 : ¬ h < 0) (hh2 : h ≤ 7) (hJ : hw_M l yM_judged cM_judged 4 (some .int) ({ frames := 2, cells := 0, slots := 0, locals := 43 }) B [.ref (hw_a B 20 0), .int (nI t), .int (nI w), .int h] nb (hw_sv S 20 0 0 0) z (hw_p (.inl (some (.int 0))) nb (hw_sv S 20 0 0 0) z)) (s : Nat) (hs : s < ns) (hts : S 36 0 t = nI s) (hnd : ¬ (1 ≤ c ∧ S 29 0 c = 0 ∧ (S 28 0 w / 2 - S 28 0 w / 2 / 2 * 2 = 1) ∧ nt < 150)) : hw_M l yM_validate cM_validate 7 (some .int) ({ frames := 5, cells := 0, slots := 0, locals := 127 }) B [.ref (hw_a B 20 0), .int (nI t), .int (nI w), .int h, .int (nI c)] nb S z (fun oc nb' S' z' => oc = .inl (some (.int 0)) ∧ nb' = nb ∧ pg_r 1400 (hw_sv (hw_sv (hw_sv S 20 0 0 0) 41 0 t 1) 32 0 s (S 20 0 1)) S' ∧ z' = z) := by
  refine hw_M.of (by decide) (Nat.le_of_ble_eq_true rfl) ?_
  intro X fr hl hR G hr hnm
  have hM0 := hM
  obtain ⟨⟨hs1, hs2⟩, ⟨ht1, ht2⟩, hd, hlen, hus, hof, hwh, hpa, hkk⟩ := hM
  have hF2 : hw_Fx (hw_sv (hw_sv (hw_sv S 20 0 0 0) 41 0 t 1) 32 0 s (S 20 0 1)) := (((hF.sv rfl).sv rfl).sv rfl)
  refine hr_aload_n G dM_validate_0 rfl rfl ?_
  refine hr_iload_n G dM_validate_1 rfl rfl ?_
  refine hr_iconst (v := 0) G dM_validate_2 (by decide) ?_
  refine hr_bipush (v := 7) G dM_validate_3 (by decide) ?_
  refine hr_callSs G kM_90 sM_within (m_within_y _ _ _ _ _ h 0 7 hh1 hh2) rfl rfl (Nat.le_of_ble_eq_true rfl) ⟨by rw [hR]; decide, by rw [hR]; decide⟩ ⟨by rw [hR]; decide, by rw [hR]; decide⟩ dM_validate_5 ?_
  refine hr_if_eq (tgt := 25) G dM_validate_8 (by decide) (fun h => absurd h (by decide)) (fun _ => ?_)
  refine hr_iload G dM_validate_11 rfl ?_
  refine hr_iconst (v := 0) G dM_validate_13 (by decide) ?_
  refine hr_iconst (v := 5) G dM_validate_14 (by decide) ?_
  refine hr_callSs G kM_90 sM_within (m_within_y _ _ _ _ _ (nI c) 0 5 (nI_pos (by omega)) (show nI c ≤ 5 from nI_le (b := 5) (by omega) (by decide))) rfl rfl (Nat.le_of_ble_eq_true rfl) ⟨by rw [hR]; decide, by rw [hR]; decide⟩ ⟨by rw [hR]; decide, by rw [hR]; decide⟩ dM_validate_15 ?_
  refine hr_if_eq (tgt := 25) G dM_validate_18 (by decide) (fun h => absurd h (by decide)) (fun _ => ?_)
  refine hr_iconst (v := 0) G dM_validate_21 (by decide) ?_
  refine hr_goto (tgt := 26) G dM_validate_22 (by decide) ?_
  refine hr_put (x := 0) G fM_87 (hA.lt (show 0 < hw_n0 20 by decide)) rfl (rfl) rfl dM_validate_26 ?_
  refine hr_aload_n G dM_validate_29 rfl rfl ?_
  refine hr_get (v := .int 0) G fM_87 (hA.lt (show 0 < hw_n0 20 by decide)) rfl dM_validate_30 ?_
  refine hr_if_le (tgt := 38) G dM_validate_33 (by decide) (fun _ => ?_) (fun h => absurd (by decide) h)
  refine hr_aload_n G dM_validate_38 rfl rfl ?_
  refine hr_iload_n G dM_validate_39 rfl rfl ?_
  refine hr_iload_n G dM_validate_40 rfl rfl ?_
  refine hr_iload_n G dM_validate_41 rfl rfl ?_
  refine hr_callVs (k := 20) (i := 0) G rfl rfl (hA.lt (show 0 < hw_n0 20 by decide)) kM_152 iM_judged vM_judged (by rw [hl]; exact hJ) rfl rfl (Nat.le_of_ble_eq_true rfl) ⟨by rw [hR]; decide, by rw [hR]; decide⟩ ⟨by rw [hR]; decide, by rw [hR]; decide⟩ dM_validate_42 ?_
  refine hr_istore (i := 5) G dM_validate_45 (by decide) ?_
  refine hr_iload G dM_validate_47 rfl ?_
  refine hr_iconst (v := 2) G dM_validate_49 (by decide) ?_
  refine hr_icmp_le (tgt := 60) G dM_validate_50 (by decide) (fun _ => ?_) (fun h => absurd (by decide) h)
  refine hr_iload G dM_validate_60 rfl ?_
  refine hr_if_le (tgt := 75) G dM_validate_62 (by decide) (fun _ => ?_) (fun h => absurd (by decide) h)
  refine hr_aload_n G dM_validate_75 rfl rfl ?_
  refine hr_get (v := .ref (hw_a B 41 0)) G fM_71 (hA.lt (show 0 < hw_n0 20 by decide)) (hw_rfx (hF.sv rfl) (by decide) rfl (by decide)) dM_validate_76 ?_
  refine hr_iload_n G dM_validate_79 rfl rfl ?_
  refine hr_iconst (v := 1) G dM_validate_80 (by decide) ?_
  refine hr_zast (n := t) (y := 1) G rfl (by decide) rfl (hA.lt (show 0 < hw_n0 41 by decide)) rfl (show t < 150 by omega) rfl (rfl) dM_validate_81 ?_
  refine hr_aload_n G dM_validate_82 rfl rfl ?_
  refine hr_get (v := .ref (hw_a B 32 0)) G fM_44 (hA.lt (show 0 < hw_n0 20 by decide)) (hw_rfx ((hF.sv rfl).sv rfl) (by decide) rfl (by decide)) dM_validate_83 ?_
  refine hr_aload_n G dM_validate_86 rfl rfl ?_
  refine hr_get (v := .ref (hw_a B 36 0)) G fM_56 (hA.lt (show 0 < hw_n0 20 by decide)) (hw_rfx ((hF.sv rfl).sv rfl) (by decide) rfl (by decide)) dM_validate_87 ?_
  refine hr_iload_n G dM_validate_90 rfl rfl ?_
  refine hr_iald (n := t) (v := .int (S 36 0 t)) G rfl (by decide) rfl (hA.lt (show 0 < hw_n0 36 by decide)) rfl (show t < 150 by omega) rfl dM_validate_91 ?_
  refine hr_aload_n G dM_validate_92 rfl rfl ?_
  refine hr_get (v := .int (S 20 0 1)) G fM_97 (hA.lt (show 0 < hw_n0 20 by decide)) rfl dM_validate_93 ?_
  refine hr_iast (n := s) (y := (S 20 0 1)) G rfl (by decide) rfl (hA.lt (show 0 < hw_n0 32 by decide)) hts (show s < 40 by omega) rfl dM_validate_96 ?_
  refine hr_iconst (v := -1) G dM_validate_97 (by decide) ?_
  refine hr_istore (i := 6) G dM_validate_98 (by decide) ?_
  refine hr_iload G dM_validate_100 rfl ?_
  refine hr_if_le (tgt := 156) G dM_validate_102 (by decide) (fun h102 => ?_) (fun h102 => ?_)
  · skip
    refine hr_aload_n G dM_validate_156 rfl rfl ?_
    refine hr_iload_n G dM_validate_157 rfl rfl ?_
    refine hr_iload_n G dM_validate_158 rfl rfl ?_
    refine hr_iload_n G dM_validate_159 rfl rfl ?_
    refine hr_iconst (v := 4) G dM_validate_160 (by decide) ?_
    refine hr_icmp_lt (tgt := 168) G dM_validate_161 (by decide) (fun h161 => ?_) (fun h161 => ?_)
    · skip
      refine hr_iconst (v := 0) G dM_validate_168 (by decide) ?_
      refine hr_iload G dM_validate_169 rfl ?_
      refine hr_callP (b := 1400) G rfl (hA.lt (show 0 < hw_n0 20 by decide)) kM_159 iM_ok vM_ok (m_M_ok _ _ _ (hw_sv (hw_sv (hw_sv S 20 0 0 0) 41 0 t 1) 32 0 s (S 20 0 1)) _ hA hF2 ns nt hM0 t w (by omega) hw 0 (-1)) rfl rfl (Nat.le_of_ble_eq_true rfl) ⟨by rw [hR]; decide, by rw [hR]; decide⟩ ⟨by rw [hR]; decide, by rw [hR]; decide⟩ dM_validate_171 (fun S9 q9 => ?_)
      refine hr_iconst (v := 0) G dM_validate_174 (by decide) ?_
      exact hr_iret G hr (fun _ h => h) dM_validate_175 ⟨rfl, rfl, q9, rfl⟩
    · skip
      refine hr_iconst (v := 1) G dM_validate_164 (by decide) ?_
      refine hr_goto (tgt := 169) G dM_validate_165 (by decide) ?_
      refine hr_iload G dM_validate_169 rfl ?_
      refine hr_callP (b := 1400) G rfl (hA.lt (show 0 < hw_n0 20 by decide)) kM_159 iM_ok vM_ok (m_M_ok _ _ _ (hw_sv (hw_sv (hw_sv S 20 0 0 0) 41 0 t 1) 32 0 s (S 20 0 1)) _ hA hF2 ns nt hM0 t w (by omega) hw 1 (-1)) rfl rfl (Nat.le_of_ble_eq_true rfl) ⟨by rw [hR]; decide, by rw [hR]; decide⟩ ⟨by rw [hR]; decide, by rw [hR]; decide⟩ dM_validate_171 (fun S9 q9 => ?_)
      refine hr_iconst (v := 0) G dM_validate_174 (by decide) ?_
      exact hr_iret G hr (fun _ h => h) dM_validate_175 ⟨rfl, rfl, q9, rfl⟩
  · skip
    refine hr_aload_n G dM_validate_105 rfl rfl ?_
    refine hr_get (v := .ref (hw_a B 29 0)) G fM_35 (hA.lt (show 0 < hw_n0 20 by decide)) (hw_rfx (((hF.sv rfl).sv rfl).sv rfl) (by decide) rfl (by decide)) dM_validate_106 ?_
    refine hr_iload G dM_validate_109 rfl ?_
    refine hr_zald (n := c) (v := .int (S 29 0 c)) G rfl (by decide) rfl (hA.lt (show 0 < hw_n0 29 by decide)) rfl (show c < 6 from hc) rfl dM_validate_111 ?_
    refine hr_if_ne (tgt := 156) G dM_validate_112 (by decide) (fun h112 => ?_) (fun h112 => ?_)
    · skip
      refine hr_aload_n G dM_validate_156 rfl rfl ?_
      refine hr_iload_n G dM_validate_157 rfl rfl ?_
      refine hr_iload_n G dM_validate_158 rfl rfl ?_
      refine hr_iload_n G dM_validate_159 rfl rfl ?_
      refine hr_iconst (v := 4) G dM_validate_160 (by decide) ?_
      refine hr_icmp_lt (tgt := 168) G dM_validate_161 (by decide) (fun h161 => ?_) (fun h161 => ?_)
      · skip
        refine hr_iconst (v := 0) G dM_validate_168 (by decide) ?_
        refine hr_iload G dM_validate_169 rfl ?_
        refine hr_callP (b := 1400) G rfl (hA.lt (show 0 < hw_n0 20 by decide)) kM_159 iM_ok vM_ok (m_M_ok _ _ _ (hw_sv (hw_sv (hw_sv S 20 0 0 0) 41 0 t 1) 32 0 s (S 20 0 1)) _ hA hF2 ns nt hM0 t w (by omega) hw 0 (-1)) rfl rfl (Nat.le_of_ble_eq_true rfl) ⟨by rw [hR]; decide, by rw [hR]; decide⟩ ⟨by rw [hR]; decide, by rw [hR]; decide⟩ dM_validate_171 (fun S9 q9 => ?_)
        refine hr_iconst (v := 0) G dM_validate_174 (by decide) ?_
        exact hr_iret G hr (fun _ h => h) dM_validate_175 ⟨rfl, rfl, q9, rfl⟩
      · skip
        refine hr_iconst (v := 1) G dM_validate_164 (by decide) ?_
        refine hr_goto (tgt := 169) G dM_validate_165 (by decide) ?_
        refine hr_iload G dM_validate_169 rfl ?_
        refine hr_callP (b := 1400) G rfl (hA.lt (show 0 < hw_n0 20 by decide)) kM_159 iM_ok vM_ok (m_M_ok _ _ _ (hw_sv (hw_sv (hw_sv S 20 0 0 0) 41 0 t 1) 32 0 s (S 20 0 1)) _ hA hF2 ns nt hM0 t w (by omega) hw 1 (-1)) rfl rfl (Nat.le_of_ble_eq_true rfl) ⟨by rw [hR]; decide, by rw [hR]; decide⟩ ⟨by rw [hR]; decide, by rw [hR]; decide⟩ dM_validate_171 (fun S9 q9 => ?_)
        refine hr_iconst (v := 0) G dM_validate_174 (by decide) ?_
        exact hr_iret G hr (fun _ h => h) dM_validate_175 ⟨rfl, rfl, q9, rfl⟩
    · skip
      refine hr_aload_n G dM_validate_115 rfl rfl ?_
      refine hr_get (v := .ref (hw_a B 28 0)) G fM_32 (hA.lt (show 0 < hw_n0 20 by decide)) (hw_rfx (((hF.sv rfl).sv rfl).sv rfl) (by decide) rfl (by decide)) dM_validate_116 ?_
      refine hr_iload_n G dM_validate_119 rfl rfl ?_
      refine hr_iald (n := w) (v := .int (S 28 0 w)) G rfl (by decide) rfl (hA.lt (show 0 < hw_n0 28 by decide)) rfl (show w < 6 from hw) rfl dM_validate_120 ?_
      refine hr_iconst (v := 2) G dM_validate_121 (by decide) ?_
      refine hr_idiv G dM_validate_122 (by decide) ?_
      refine hr_iconst (v := 2) G dM_validate_123 (by decide) ?_
      refine hr_irem G dM_validate_124 (by decide) ?_
      refine hr_iconst (v := 1) G dM_validate_125 (by decide) ?_
      refine hr_icmp_ne (tgt := 156) G dM_validate_126 (by decide) (fun h126 => ?_) (fun h126 => ?_)
      · skip
        refine hr_aload_n G dM_validate_156 rfl rfl ?_
        refine hr_iload_n G dM_validate_157 rfl rfl ?_
        refine hr_iload_n G dM_validate_158 rfl rfl ?_
        refine hr_iload_n G dM_validate_159 rfl rfl ?_
        refine hr_iconst (v := 4) G dM_validate_160 (by decide) ?_
        refine hr_icmp_lt (tgt := 168) G dM_validate_161 (by decide) (fun h161 => ?_) (fun h161 => ?_)
        · skip
          refine hr_iconst (v := 0) G dM_validate_168 (by decide) ?_
          refine hr_iload G dM_validate_169 rfl ?_
          refine hr_callP (b := 1400) G rfl (hA.lt (show 0 < hw_n0 20 by decide)) kM_159 iM_ok vM_ok (m_M_ok _ _ _ (hw_sv (hw_sv (hw_sv S 20 0 0 0) 41 0 t 1) 32 0 s (S 20 0 1)) _ hA hF2 ns nt hM0 t w (by omega) hw 0 (-1)) rfl rfl (Nat.le_of_ble_eq_true rfl) ⟨by rw [hR]; decide, by rw [hR]; decide⟩ ⟨by rw [hR]; decide, by rw [hR]; decide⟩ dM_validate_171 (fun S9 q9 => ?_)
          refine hr_iconst (v := 0) G dM_validate_174 (by decide) ?_
          exact hr_iret G hr (fun _ h => h) dM_validate_175 ⟨rfl, rfl, q9, rfl⟩
        · skip
          refine hr_iconst (v := 1) G dM_validate_164 (by decide) ?_
          refine hr_goto (tgt := 169) G dM_validate_165 (by decide) ?_
          refine hr_iload G dM_validate_169 rfl ?_
          refine hr_callP (b := 1400) G rfl (hA.lt (show 0 < hw_n0 20 by decide)) kM_159 iM_ok vM_ok (m_M_ok _ _ _ (hw_sv (hw_sv (hw_sv S 20 0 0 0) 41 0 t 1) 32 0 s (S 20 0 1)) _ hA hF2 ns nt hM0 t w (by omega) hw 1 (-1)) rfl rfl (Nat.le_of_ble_eq_true rfl) ⟨by rw [hR]; decide, by rw [hR]; decide⟩ ⟨by rw [hR]; decide, by rw [hR]; decide⟩ dM_validate_171 (fun S9 q9 => ?_)
          refine hr_iconst (v := 0) G dM_validate_174 (by decide) ?_
          exact hr_iret G hr (fun _ h => h) dM_validate_175 ⟨rfl, rfl, q9, rfl⟩
      · skip
        refine hr_aload_n G dM_validate_129 rfl rfl ?_
        refine hr_get (v := .int (S 20 0 18)) G fM_111 (hA.lt (show 0 < hw_n0 20 by decide)) rfl dM_validate_130 ?_
        refine hr_sipush (v := 150) G dM_validate_133 (by decide) ?_
        refine hr_icmp_ge (tgt := 156) G dM_validate_136 (by decide) (fun h136 => ?_) (fun h136 => ?_)
        · skip
          refine hr_aload_n G dM_validate_156 rfl rfl ?_
          refine hr_iload_n G dM_validate_157 rfl rfl ?_
          refine hr_iload_n G dM_validate_158 rfl rfl ?_
          refine hr_iload_n G dM_validate_159 rfl rfl ?_
          refine hr_iconst (v := 4) G dM_validate_160 (by decide) ?_
          refine hr_icmp_lt (tgt := 168) G dM_validate_161 (by decide) (fun h161 => ?_) (fun h161 => ?_)
          · skip
            refine hr_iconst (v := 0) G dM_validate_168 (by decide) ?_
            refine hr_iload G dM_validate_169 rfl ?_
            refine hr_callP (b := 1400) G rfl (hA.lt (show 0 < hw_n0 20 by decide)) kM_159 iM_ok vM_ok (m_M_ok _ _ _ (hw_sv (hw_sv (hw_sv S 20 0 0 0) 41 0 t 1) 32 0 s (S 20 0 1)) _ hA hF2 ns nt hM0 t w (by omega) hw 0 (-1)) rfl rfl (Nat.le_of_ble_eq_true rfl) ⟨by rw [hR]; decide, by rw [hR]; decide⟩ ⟨by rw [hR]; decide, by rw [hR]; decide⟩ dM_validate_171 (fun S9 q9 => ?_)
            refine hr_iconst (v := 0) G dM_validate_174 (by decide) ?_
            exact hr_iret G hr (fun _ h => h) dM_validate_175 ⟨rfl, rfl, q9, rfl⟩
          · skip
            refine hr_iconst (v := 1) G dM_validate_164 (by decide) ?_
            refine hr_goto (tgt := 169) G dM_validate_165 (by decide) ?_
            refine hr_iload G dM_validate_169 rfl ?_
            refine hr_callP (b := 1400) G rfl (hA.lt (show 0 < hw_n0 20 by decide)) kM_159 iM_ok vM_ok (m_M_ok _ _ _ (hw_sv (hw_sv (hw_sv S 20 0 0 0) 41 0 t 1) 32 0 s (S 20 0 1)) _ hA hF2 ns nt hM0 t w (by omega) hw 1 (-1)) rfl rfl (Nat.le_of_ble_eq_true rfl) ⟨by rw [hR]; decide, by rw [hR]; decide⟩ ⟨by rw [hR]; decide, by rw [hR]; decide⟩ dM_validate_171 (fun S9 q9 => ?_)
            refine hr_iconst (v := 0) G dM_validate_174 (by decide) ?_
            exact hr_iret G hr (fun _ h => h) dM_validate_175 ⟨rfl, rfl, q9, rfl⟩
        · skip
          exact absurd ⟨Nat.pos_of_ne_zero fun e => h102 (by rw [e]; decide), h112, h126, Nat.not_le.mp fun q => h136 (by rw [ht2]; exact nI_le (a := 150) q (by omega))⟩ hnd
def md_lnk (S : hw_St) : Nat → Int32 → Int32 → Int32
  | 0, _, l => l
  | f + 1, x, l => if x < 0 then l else md_lnk S f (md_g S x.toNatClampNeg) (l + 1)
theorem md_lnk_n (S : hw_St) (f : Nat) (l : Int32) : md_lnk S f (-1) l = l := by
  cases f with
  | zero => rfl
  | succ f => unfold md_lnk; rw [if_pos (by decide)]
theorem md_lnk_y (S : hw_St) (f p : Nat) (l : Int32) (hp : p < 2 ^ 31) : md_lnk S (f + 1) (nI p) l = md_lnk S f (md_g S p) (l + 1) := by
  rw [md_lnk, if_neg (nI_pos hp), nI_clamp hp]
def md_abt (S : hw_St) (t s : Nat) (l x : Int32) : Int32 := if x = 0 then S 35 0 t else if x = 1 then (if md_good S t s = 0 then 0 else 1) else if x = 2 then S 36 0 t else if x = 3 then S 37 0 t else if x = 4 then S 38 0 t else if x = 5 then (if S 39 0 t = 0 then 0 else 1) else if x = 6 then S 40 0 t else if x = 7 then l else -1
def md_l0 (S : hw_St) (t : Nat) : Int32 := if S 35 0 t = 2 then 1 else 0
set_option maxRecDepth 100000 in
set_option maxHeartbeats 1000000 in
theorem m_M_about_n (l : Launch) (B : hw_B) (nb : Nat → Nat) (S : hw_St) (z : Nat) (hA : hw_al nb) (hF : hw_Fx S) (v x : Int32) (hv : v < 0 ∨ ¬ v ≤ S 20 0 18 - 1) : hw_M l yM_about cM_about 5 (some .int) ({ frames := 2, cells := 0, slots := 0, locals := 60 }) B [.ref (hw_a B 20 0), .int v, .int x] nb S z (hw_p (.inl (some (.int (-1)))) nb (hw_sv S 20 0 0 0) z) := by
  refine hw_M.of (by decide) (Nat.le_of_ble_eq_true rfl) ?_
  intro X fr hl hR G hr hnm
  refine hr_aload_n G dM_about_0 rfl rfl ?_
  refine hr_iconst (v := 0) G dM_about_1 (by decide) ?_
  refine hr_put (x := 0) G fM_87 (hA.lt (show 0 < hw_n0 20 by decide)) rfl (rfl) rfl dM_about_2 ?_
  refine hr_iload_n G dM_about_5 rfl rfl ?_
  refine hr_iconst (v := 0) G dM_about_6 (by decide) ?_
  refine hr_aload_n G dM_about_7 rfl rfl ?_
  refine hr_get (v := .int (S 20 0 18)) G fM_111 (hA.lt (show 0 < hw_n0 20 by decide)) rfl dM_about_8 ?_
  refine hr_iconst (v := 1) G dM_about_11 (by decide) ?_
  refine hr_isub G dM_about_12 ?_
  refine hr_callSs G kM_90 sM_within (m_within_n _ _ _ _ _ v 0 ((S 20 0 18) - 1) hv) rfl rfl (Nat.le_of_ble_eq_true rfl) ⟨by rw [hR]; decide, by rw [hR]; decide⟩ ⟨by rw [hR]; decide, by rw [hR]; decide⟩ dM_about_13 ?_
  refine hr_if_ne (tgt := 21) G dM_about_16 (by decide) (fun h => absurd (by decide) h) (fun _ => ?_)
  refine hr_iconst (v := -1) G dM_about_19 (by decide) ?_
  exact hr_iret G hr (fun _ h => h) dM_about_20 hw_pi
set_option maxRecDepth 100000 in
set_option maxHeartbeats 1000000 in
theorem m_M_about_y (l : Launch) (B : hw_B) (nb : Nat → Nat) (S : hw_St) (z : Nat) (hA : hw_al nb) (hF : hw_Fx S) (ns nt : Nat) (hM : im ns nt S) (t : Nat) (ht : t < nt) (s : Nat) (hs : s < 40) (hts : S 36 0 t = nI s) (x : Int32) : hw_M l yM_about cM_about 5 (some .int) ({ frames := 2, cells := 0, slots := 0, locals := 60 }) B [.ref (hw_a B 20 0), .int (nI t), .int x] nb S z (hw_p (.inl (some (.int (md_abt (hw_sv S 20 0 0 0) t s (md_lnk (hw_sv S 20 0 0 0) t (md_g (hw_sv S 20 0 0 0) t) (md_l0 (hw_sv S 20 0 0 0) t)) x)))) nb (hw_sv S 20 0 0 0) z) := by
  refine hw_M.of (by decide) (Nat.le_of_ble_eq_true rfl) ?_
  intro X fr hl hR G hr hnm
  have hM0 := hM
  obtain ⟨⟨hs1, hs2⟩, ⟨ht1, ht2⟩, hd, hlen, hus, hof, hwh, hpa, hkk⟩ := hM
  have hMT : im ns nt (hw_sv S 20 0 0 0) := hM0
  have hFT : hw_Fx (hw_sv S 20 0 0 0) := hF.sv rfl
  generalize hR1 : md_lnk (hw_sv S 20 0 0 0) t (md_g (hw_sv S 20 0 0 0) t) (md_l0 (hw_sv S 20 0 0 0) t) = R
  have K63 : ∀ x : Int32, hw_V X B fr nb (hw_sv S 20 0 0 0) z 0 0 (hw_MQ X B fr (hw_p (.inl (some (.int (md_abt (hw_sv S 20 0 0 0) t s R x)))) nb (hw_sv S 20 0 0 0) z) 0 0) 5 63 [(0, .ref (hw_a B 20 0)), (1, .int (nI t)), (2, .int x), (3, .int R)] [] := by
    intro x
    refine hr_iload_n G dM_about_63 rfl rfl ?_
    by_cases e0 : x = 0
    · subst e0
      refine hr_tblIn (off := 48) (tgt := 112) G dM_about_64 (by decide) (by decide) (by decide) (by decide) ?_
      refine hr_aload_n G dM_about_112 rfl rfl ?_
      refine hr_get (v := .ref (hw_a B 35 0)) G fM_53 (hA.lt (show 0 < hw_n0 20 by decide)) (hw_rfx hFT (by decide) rfl (by decide)) dM_about_113 ?_
      refine hr_iload_n G dM_about_116 rfl rfl ?_
      refine hr_iald (n := t) (v := .int ((hw_sv S 20 0 0 0) 35 0 t)) G rfl (by decide) rfl (hA.lt (show 0 < hw_n0 35 by decide)) rfl (show t < 150 by omega) rfl dM_about_117 ?_
      exact hr_iret G hr (fun _ h => h) dM_about_118 ⟨by first | rfl | (simp only [md_abt, ↓reduceIte, eq_self, true_or, or_true, or_self]; done) | (simp only [md_abt, ↓reduceIte, eq_self, true_or, or_true, or_self]; rfl), rfl, rfl, rfl⟩
    by_cases e1 : x = 1
    · subst e1
      refine hr_tblIn (off := 55) (tgt := 119) G dM_about_64 (by decide) (by decide) (by decide) (by decide) ?_
      refine hr_aload_n G dM_about_119 rfl rfl ?_
      refine hr_iload_n G dM_about_120 rfl rfl ?_
      refine hr_callVs (k := 20) (i := 0) G rfl rfl (hA.lt (show 0 < hw_n0 20 by decide)) kM_122 iM_good vM_good (m_M_good _ _ _ _ _ hA hFT t s (by omega) hs hts) rfl rfl (Nat.le_of_ble_eq_true rfl) ⟨by rw [hR]; decide, by rw [hR]; decide⟩ ⟨by rw [hR]; decide, by rw [hR]; decide⟩ dM_about_121 ?_
      refine hr_if_eq (tgt := 131) G dM_about_124 (by decide) (fun h124 => ?_) (fun h124 => ?_)
      · skip
        refine hr_iconst (v := 0) G dM_about_131 (by decide) ?_
        exact hr_iret G hr (fun _ h => h) dM_about_132 ⟨by first | rfl | (simp only [md_abt, e0, h124, ↓reduceIte, eq_self, true_or, or_true, or_self]; done) | (simp only [md_abt, e0, h124, ↓reduceIte, eq_self, true_or, or_true, or_self]; rfl), rfl, rfl, rfl⟩
      · skip
        refine hr_iconst (v := 1) G dM_about_127 (by decide) ?_
        refine hr_goto (tgt := 132) G dM_about_128 (by decide) ?_
        exact hr_iret G hr (fun _ h => h) dM_about_132 ⟨by first | rfl | (simp only [md_abt, e0, h124, ↓reduceIte, eq_self, true_or, or_true, or_self]; done) | (simp only [md_abt, e0, h124, ↓reduceIte, eq_self, true_or, or_true, or_self]; rfl), rfl, rfl, rfl⟩
    by_cases e2 : x = 2
    · subst e2
      refine hr_tblIn (off := 69) (tgt := 133) G dM_about_64 (by decide) (by decide) (by decide) (by decide) ?_
      refine hr_aload_n G dM_about_133 rfl rfl ?_
      refine hr_get (v := .ref (hw_a B 36 0)) G fM_56 (hA.lt (show 0 < hw_n0 20 by decide)) (hw_rfx hFT (by decide) rfl (by decide)) dM_about_134 ?_
      refine hr_iload_n G dM_about_137 rfl rfl ?_
      refine hr_iald (n := t) (v := .int ((hw_sv S 20 0 0 0) 36 0 t)) G rfl (by decide) rfl (hA.lt (show 0 < hw_n0 36 by decide)) rfl (show t < 150 by omega) rfl dM_about_138 ?_
      exact hr_iret G hr (fun _ h => h) dM_about_139 ⟨by first | rfl | (simp only [md_abt, e0, e1, ↓reduceIte, eq_self, true_or, or_true, or_self]; done) | (simp only [md_abt, e0, e1, ↓reduceIte, eq_self, true_or, or_true, or_self]; rfl), rfl, rfl, rfl⟩
    by_cases e3 : x = 3
    · subst e3
      refine hr_tblIn (off := 76) (tgt := 140) G dM_about_64 (by decide) (by decide) (by decide) (by decide) ?_
      refine hr_aload_n G dM_about_140 rfl rfl ?_
      refine hr_get (v := .ref (hw_a B 37 0)) G fM_59 (hA.lt (show 0 < hw_n0 20 by decide)) (hw_rfx hFT (by decide) rfl (by decide)) dM_about_141 ?_
      refine hr_iload_n G dM_about_144 rfl rfl ?_
      refine hr_iald (n := t) (v := .int ((hw_sv S 20 0 0 0) 37 0 t)) G rfl (by decide) rfl (hA.lt (show 0 < hw_n0 37 by decide)) rfl (show t < 150 by omega) rfl dM_about_145 ?_
      exact hr_iret G hr (fun _ h => h) dM_about_146 ⟨by first | rfl | (simp only [md_abt, e0, e1, e2, ↓reduceIte, eq_self, true_or, or_true, or_self]; done) | (simp only [md_abt, e0, e1, e2, ↓reduceIte, eq_self, true_or, or_true, or_self]; rfl), rfl, rfl, rfl⟩
    by_cases e4 : x = 4
    · subst e4
      refine hr_tblIn (off := 83) (tgt := 147) G dM_about_64 (by decide) (by decide) (by decide) (by decide) ?_
      refine hr_aload_n G dM_about_147 rfl rfl ?_
      refine hr_get (v := .ref (hw_a B 38 0)) G fM_62 (hA.lt (show 0 < hw_n0 20 by decide)) (hw_rfx hFT (by decide) rfl (by decide)) dM_about_148 ?_
      refine hr_iload_n G dM_about_151 rfl rfl ?_
      refine hr_iald (n := t) (v := .int ((hw_sv S 20 0 0 0) 38 0 t)) G rfl (by decide) rfl (hA.lt (show 0 < hw_n0 38 by decide)) rfl (show t < 150 by omega) rfl dM_about_152 ?_
      exact hr_iret G hr (fun _ h => h) dM_about_153 ⟨by first | rfl | (simp only [md_abt, e0, e1, e2, e3, ↓reduceIte, eq_self, true_or, or_true, or_self]; done) | (simp only [md_abt, e0, e1, e2, e3, ↓reduceIte, eq_self, true_or, or_true, or_self]; rfl), rfl, rfl, rfl⟩
    by_cases e5 : x = 5
    · subst e5
      refine hr_tblIn (off := 90) (tgt := 154) G dM_about_64 (by decide) (by decide) (by decide) (by decide) ?_
      refine hr_aload_n G dM_about_154 rfl rfl ?_
      refine hr_get (v := .ref (hw_a B 39 0)) G fM_65 (hA.lt (show 0 < hw_n0 20 by decide)) (hw_rfx hFT (by decide) rfl (by decide)) dM_about_155 ?_
      refine hr_iload_n G dM_about_158 rfl rfl ?_
      refine hr_zald (n := t) (v := .int ((hw_sv S 20 0 0 0) 39 0 t)) G rfl (by decide) rfl (hA.lt (show 0 < hw_n0 39 by decide)) rfl (show t < 150 by omega) rfl dM_about_159 ?_
      refine hr_if_eq (tgt := 167) G dM_about_160 (by decide) (fun h160 => ?_) (fun h160 => ?_)
      · skip
        refine hr_iconst (v := 0) G dM_about_167 (by decide) ?_
        exact hr_iret G hr (fun _ h => h) dM_about_168 ⟨by first | rfl | (simp only [md_abt, e0, e1, e2, e3, e4, h160, ↓reduceIte, eq_self, true_or, or_true, or_self]; done) | (simp only [md_abt, e0, e1, e2, e3, e4, h160, ↓reduceIte, eq_self, true_or, or_true, or_self]; rfl), rfl, rfl, rfl⟩
      · skip
        refine hr_iconst (v := 1) G dM_about_163 (by decide) ?_
        refine hr_goto (tgt := 168) G dM_about_164 (by decide) ?_
        exact hr_iret G hr (fun _ h => h) dM_about_168 ⟨by first | rfl | (simp only [md_abt, e0, e1, e2, e3, e4, h160, ↓reduceIte, eq_self, true_or, or_true, or_self]; done) | (simp only [md_abt, e0, e1, e2, e3, e4, h160, ↓reduceIte, eq_self, true_or, or_true, or_self]; rfl), rfl, rfl, rfl⟩
    by_cases e6 : x = 6
    · subst e6
      refine hr_tblIn (off := 105) (tgt := 169) G dM_about_64 (by decide) (by decide) (by decide) (by decide) ?_
      refine hr_aload_n G dM_about_169 rfl rfl ?_
      refine hr_get (v := .ref (hw_a B 40 0)) G fM_68 (hA.lt (show 0 < hw_n0 20 by decide)) (hw_rfx hFT (by decide) rfl (by decide)) dM_about_170 ?_
      refine hr_iload_n G dM_about_173 rfl rfl ?_
      refine hr_iald (n := t) (v := .int ((hw_sv S 20 0 0 0) 40 0 t)) G rfl (by decide) rfl (hA.lt (show 0 < hw_n0 40 by decide)) rfl (show t < 150 by omega) rfl dM_about_174 ?_
      exact hr_iret G hr (fun _ h => h) dM_about_175 ⟨by first | rfl | (simp only [md_abt, e0, e1, e2, e3, e4, e5, ↓reduceIte, eq_self, true_or, or_true, or_self]; done) | (simp only [md_abt, e0, e1, e2, e3, e4, e5, ↓reduceIte, eq_self, true_or, or_true, or_self]; rfl), rfl, rfl, rfl⟩
    by_cases e7 : x = 7
    · subst e7
      refine hr_tblIn (off := 112) (tgt := 176) G dM_about_64 (by decide) (by decide) (by decide) (by decide) ?_
      refine hr_iload_n G dM_about_176 rfl rfl ?_
      exact hr_iret G hr (fun _ h => h) dM_about_177 ⟨by first | rfl | (simp only [md_abt, e0, e1, e2, e3, e4, e5, e6, ↓reduceIte, eq_self, true_or, or_true, or_self]; done) | (simp only [md_abt, e0, e1, e2, e3, e4, e5, e6, ↓reduceIte, eq_self, true_or, or_true, or_self]; rfl), rfl, rfl, rfl⟩
    refine hr_tblOut (tgt := 178) G dM_about_64 (ib_sw7 e0 e1 e2 e3 e4 e5 e6 e7) (by decide) ?_
    refine hr_iconst (v := -1) G dM_about_178 (by decide) ?_
    exact hr_iret G hr (fun _ h => h) dM_about_179 ⟨by first | rfl | (simp only [md_abt, e0, e1, e2, e3, e4, e5, e6, e7, ↓reduceIte, eq_self, true_or, or_true, or_self]; done) | (simp only [md_abt, e0, e1, e2, e3, e4, e5, e6, e7, ↓reduceIte, eq_self, true_or, or_true, or_self]; rfl), rfl, rfl, rfl⟩
  have H : ∀ (f : Nat) (l y : Int32), f ≤ nt → (y = -1 ∨ ∃ p, p < f ∧ y = nI p) → md_lnk (hw_sv S 20 0 0 0) f y l = R → hw_V X B fr nb (hw_sv S 20 0 0 0) z 0 0 (hw_MQ X B fr (hw_p (.inl (some (.int (md_abt (hw_sv S 20 0 0 0) t s R x)))) nb (hw_sv S 20 0 0 0) z) 0 0) 5 44 [(0, .ref (hw_a B 20 0)), (1, .int (nI t)), (2, .int x), (3, .int l), (4, .int y)] [] := by
    intro f
    induction f with
    | zero =>
      rintro l y hf (rfl | ⟨p, hp, -⟩) hR0
      · rw [md_lnk_n] at hR0
        subst hR0
        refine hr_iload G dM_about_44 rfl ?_
        refine hr_if_lt (tgt := 63) G dM_about_46 (by decide) (fun _ => ?_) (fun h => absurd (by decide) h)
        refine hr_L (L' := [(0, .ref (hw_a B 20 0)), (1, .int (nI t)), (2, .int x), (3, .int l)]) (hw_s1 rfl (hw_s1 rfl (hw_s1 rfl (hw_s1 rfl (hw_s0))))) ?_
        exact K63 x
      · omega
    | succ f ih =>
      rintro l y hf (rfl | ⟨p, hp, rfl⟩) hR0
      · rw [md_lnk_n] at hR0
        subst hR0
        refine hr_iload G dM_about_44 rfl ?_
        refine hr_if_lt (tgt := 63) G dM_about_46 (by decide) (fun _ => ?_) (fun h => absurd (by decide) h)
        refine hr_L (L' := [(0, .ref (hw_a B 20 0)), (1, .int (nI t)), (2, .int x), (3, .int l)]) (hw_s1 rfl (hw_s1 rfl (hw_s1 rfl (hw_s1 rfl (hw_s0))))) ?_
        exact K63 x
      · rw [md_lnk_y _ _ _ _ (by omega)] at hR0
        refine hr_iload G dM_about_44 rfl ?_
        refine hr_if_lt (tgt := 63) G dM_about_46 (by decide) (fun h => absurd h (nI_pos (by omega))) (fun _ => ?_)
        refine hr_iinc (v := (l + 1)) G dM_about_49 rfl rfl (by decide) ?_
        refine hr_aload_n G dM_about_52 rfl rfl ?_
        refine hr_iload G dM_about_53 rfl ?_
        refine hr_callVs (k := 20) (i := 0) G rfl rfl (hA.lt (show 0 < hw_n0 20 by decide)) kM_149 iM_grant vM_grant (m_M_grant _ _ _ _ _ hA hFT ns nt hMT p (show p < nt by omega)) rfl rfl (Nat.le_of_ble_eq_true rfl) ⟨by rw [hR]; decide, by rw [hR]; decide⟩ ⟨by rw [hR]; decide, by rw [hR]; decide⟩ dM_about_55 ?_
        refine hr_istore (i := 4) G dM_about_58 (by decide) ?_
        refine hr_goto (tgt := 44) G dM_about_60 (by decide) ?_
        refine hr_L (L' := [(0, .ref (hw_a B 20 0)), (1, .int (nI t)), (2, .int x), (3, .int (l + 1)), (4, .int (md_g (hw_sv S 20 0 0 0) p))]) (hw_s1 rfl (hw_s1 rfl (hw_s1 rfl (hw_s1 rfl (hw_s1 rfl (hw_s0)))))) ?_
        exact ih (l + 1) (md_g (hw_sv S 20 0 0 0) p) (by omega) ((md_g_s hMT (show p < nt by omega)).imp id fun ⟨q, h1, h2, _⟩ => ⟨q, by omega, h2⟩) hR0
  refine hr_aload_n G dM_about_0 rfl rfl ?_
  refine hr_iconst (v := 0) G dM_about_1 (by decide) ?_
  refine hr_put (x := 0) G fM_87 (hA.lt (show 0 < hw_n0 20 by decide)) rfl (rfl) rfl dM_about_2 ?_
  refine hr_iload_n G dM_about_5 rfl rfl ?_
  refine hr_iconst (v := 0) G dM_about_6 (by decide) ?_
  refine hr_aload_n G dM_about_7 rfl rfl ?_
  refine hr_get (v := .int (S 20 0 18)) G fM_111 (hA.lt (show 0 < hw_n0 20 by decide)) rfl dM_about_8 ?_
  refine hr_iconst (v := 1) G dM_about_11 (by decide) ?_
  refine hr_isub G dM_about_12 ?_
  refine hr_callSs G kM_90 sM_within (m_within_y _ _ _ _ _ (nI t) 0 ((S 20 0 18) - 1) (nI_pos (by omega)) (show nI t ≤ S 20 0 18 - 1 by rw [ht2]; exact nI_lt_p ht (by omega))) rfl rfl (Nat.le_of_ble_eq_true rfl) ⟨by rw [hR]; decide, by rw [hR]; decide⟩ ⟨by rw [hR]; decide, by rw [hR]; decide⟩ dM_about_13 ?_
  refine hr_if_ne (tgt := 21) G dM_about_16 (by decide) (fun _ => ?_) (fun h => absurd h (by decide))
  refine hr_aload_n G dM_about_21 rfl rfl ?_
  refine hr_get (v := .ref (hw_a B 35 0)) G fM_53 (hA.lt (show 0 < hw_n0 20 by decide)) (hw_rfx (hF.sv rfl) (by decide) rfl (by decide)) dM_about_22 ?_
  refine hr_iload_n G dM_about_25 rfl rfl ?_
  refine hr_iald (n := t) (v := .int ((hw_sv S 20 0 0 0) 35 0 t)) G rfl (by decide) rfl (hA.lt (show 0 < hw_n0 35 by decide)) rfl (show t < 150 by omega) rfl dM_about_26 ?_
  refine hr_iconst (v := 2) G dM_about_27 (by decide) ?_
  refine hr_icmp_ne (tgt := 35) G dM_about_28 (by decide) (fun h28 => ?_) (fun h28 => ?_)
  · skip
    refine hr_iconst (v := 0) G dM_about_35 (by decide) ?_
    refine hr_istore_n (i := 3) G dM_about_36 rfl (by decide) ?_
    refine hr_aload_n G dM_about_37 rfl rfl ?_
    refine hr_iload_n G dM_about_38 rfl rfl ?_
    refine hr_callVs (k := 20) (i := 0) G rfl rfl (hA.lt (show 0 < hw_n0 20 by decide)) kM_149 iM_grant vM_grant (m_M_grant _ _ _ _ _ hA hFT ns nt hMT t ht) rfl rfl (Nat.le_of_ble_eq_true rfl) ⟨by rw [hR]; decide, by rw [hR]; decide⟩ ⟨by rw [hR]; decide, by rw [hR]; decide⟩ dM_about_39 ?_
    refine hr_istore (i := 4) G dM_about_42 (by decide) ?_
    refine hr_L (L' := [(0, .ref (hw_a B 20 0)), (1, .int (nI t)), (2, .int x), (3, .int 0), (4, .int (md_g (hw_sv S 20 0 0 0) t))]) (hw_s1 rfl (hw_s1 rfl (hw_s1 rfl (hw_s1 rfl (hw_s1 rfl (hw_s0)))))) ?_
    exact H t 0 (md_g (hw_sv S 20 0 0 0) t) (by omega) ((md_g_s hMT ht).imp id fun ⟨q, h1, h2, _⟩ => ⟨q, h1, h2⟩) (by rw [← hR1, show md_l0 (hw_sv S 20 0 0 0) t = 0 by unfold md_l0; first | exact if_pos h28 | exact if_neg h28])
  · skip
    refine hr_iconst (v := 1) G dM_about_31 (by decide) ?_
    refine hr_goto (tgt := 36) G dM_about_32 (by decide) ?_
    refine hr_istore_n (i := 3) G dM_about_36 rfl (by decide) ?_
    refine hr_aload_n G dM_about_37 rfl rfl ?_
    refine hr_iload_n G dM_about_38 rfl rfl ?_
    refine hr_callVs (k := 20) (i := 0) G rfl rfl (hA.lt (show 0 < hw_n0 20 by decide)) kM_149 iM_grant vM_grant (m_M_grant _ _ _ _ _ hA hFT ns nt hMT t ht) rfl rfl (Nat.le_of_ble_eq_true rfl) ⟨by rw [hR]; decide, by rw [hR]; decide⟩ ⟨by rw [hR]; decide, by rw [hR]; decide⟩ dM_about_39 ?_
    refine hr_istore (i := 4) G dM_about_42 (by decide) ?_
    refine hr_L (L' := [(0, .ref (hw_a B 20 0)), (1, .int (nI t)), (2, .int x), (3, .int 1), (4, .int (md_g (hw_sv S 20 0 0 0) t))]) (hw_s1 rfl (hw_s1 rfl (hw_s1 rfl (hw_s1 rfl (hw_s1 rfl (hw_s0)))))) ?_
    exact H t 1 (md_g (hw_sv S 20 0 0 0) t) (by omega) ((md_g_s hMT ht).imp id fun ⟨q, h1, h2, _⟩ => ⟨q, h1, h2⟩) (by rw [← hR1, show md_l0 (hw_sv S 20 0 0 0) t = 1 by unfold md_l0; first | exact if_pos h28 | exact if_neg h28])
