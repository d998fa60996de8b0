/-! The reference: grant, ok, judged, ends. -/
/-- what the reference's own state keeps -/
def im (ns nt : Nat) (S : hw_St) : Prop := (ns ≤ 40 ∧ S 20 0 12 = nI ns) ∧ (nt ≤ 150 ∧ S 20 0 18 = nI nt) ∧ (∃ n, n ≤ 8 ∧ S 20 0 3 = nI n) ∧ (∀ t, t < 16 → ∃ n, n ≤ 8 ∧ S 23 0 t = nI n) ∧ (∀ i, i < ns → ∃ u, u < 4 ∧ S 30 0 i = nI u) ∧ (∀ i, i < nt → ∃ s, s < ns ∧ S 36 0 i = nI s) ∧ (∀ i, i < nt → ∃ w, w < 6 ∧ S 37 0 i = nI w) ∧ (∀ i, i < nt → S 40 0 i = -1 ∨ ∃ p, p < i ∧ S 40 0 i = nI p) ∧ (∀ i, i < nt → S 35 0 i = 2 → ∀ p, p < i → S 40 0 i = nI p → ¬ S 35 0 p = 2)
theorem im_pg {ns nt b : Nat} {S S' : hw_St} (h : im ns nt S) (q : pg_r b S S') : im ns nt S' := by
  have e : ∀ k i j, ¬ k = 43 → ¬ k = 44 → ¬ k = 20 → S' k i j = S k i j := fun k i j a b c => q.1 k i j a b (fun w => c w.1)
  have e20 : ∀ i j, ¬ j = 29 → S' 20 i j = S 20 i j := fun i j a => q.1 20 i j (by decide) (by decide) (fun w => a w.2)
  obtain ⟨h1, h2, h3, h4, h5, h6, h7, h8, h9⟩ := h
  refine ⟨⟨h1.1, by rw [e20 _ _ (by decide)]; exact h1.2⟩, ⟨h2.1, by rw [e20 _ _ (by decide)]; exact h2.2⟩, by rw [e20 _ _ (by decide)]; exact h3, fun t ht => by rw [e _ _ _ (by decide) (by decide) (by decide)]; exact h4 t ht, fun t ht => by rw [e _ _ _ (by decide) (by decide) (by decide)]; exact h5 t ht, fun t ht => by rw [e _ _ _ (by decide) (by decide) (by decide)]; exact h6 t ht, fun t ht => by rw [e _ _ _ (by decide) (by decide) (by decide)]; exact h7 t ht, fun t ht => by rw [e _ _ _ (by decide) (by decide) (by decide)]; exact h8 t ht, fun t ht => by rw [e 35 0 t (by decide) (by decide) (by decide), e 40 0 t (by decide) (by decide) (by decide)]; intro a p hp b; rw [e 35 0 p (by decide) (by decide) (by decide)]; exact h9 t ht a p hp b⟩
def md_gr (S : hw_St) : Nat → Int32 → Int32
  | 0, x => x
  | f + 1, x => if x < 0 then x else if S 35 0 x.toNatClampNeg = 2 then x else md_gr S f (S 40 0 x.toNatClampNeg)
def md_g (S : hw_St) (t : Nat) : Int32 := md_gr S t (S 40 0 t)
theorem md_gr_n (S : hw_St) (f : Nat) : md_gr S f (-1) = -1 := by
  cases f with
  | zero => rfl
  | succ f => unfold md_gr; rw [if_pos (by decide)]
theorem md_gr_y (S : hw_St) (f p : Nat) (hp : p < 2 ^ 31) : md_gr S (f + 1) (nI p) = if S 35 0 p = 2 then nI p else md_gr S f (S 40 0 p) := by
  rw [md_gr, if_neg (nI_pos hp), nI_clamp hp]
theorem md_gr_s {ns nt : Nat} {S : hw_St} (h : im ns nt S) : ∀ (f : Nat) (x : Int32), f ≤ nt → (x = -1 ∨ ∃ p, p < f ∧ x = nI p) → md_gr S f x = -1 ∨ ∃ p, p < f ∧ md_gr S f x = nI p ∧ S 35 0 p = 2 := by
  have hnt := h.2.1.1
  intro f
  induction f with
  | zero => rintro x - (rfl | ⟨p, hp, -⟩); exact Or.inl rfl; omega
  | succ f ih =>
    rintro x hf (rfl | ⟨p, hp, rfl⟩)
    · exact Or.inl (md_gr_n S _)
    · rw [md_gr_y S f p (by omega)]
      split
      · rename_i q; exact Or.inr ⟨p, hp, rfl, q⟩
      · rcases ih (S 40 0 p) (by omega) ((h.2.2.2.2.2.2.2.1 p (by omega)).imp id fun ⟨r, h1, h2⟩ => ⟨r, by omega, h2⟩) with q | ⟨r, h1, h2, h3⟩
        · exact Or.inl q
        · exact Or.inr ⟨r, by omega, h2, h3⟩
theorem md_g_s {ns nt : Nat} {S : hw_St} (h : im ns nt S) {t : Nat} (ht : t < nt) : md_g S t = -1 ∨ ∃ p, p < t ∧ md_g S t = nI p ∧ S 35 0 p = 2 :=
  md_gr_s h t _ (by omega) (h.2.2.2.2.2.2.2.1 t ht)
theorem md_g_s2 {ns nt : Nat} {S : hw_St} (h : im ns nt S) {t : Nat} (ht : t < nt) (h2 : S 35 0 t = 2) : md_g S t = -1 ∨ ∃ p, p + 2 ≤ t ∧ md_g S t = nI p ∧ S 35 0 p = 2 := by
  have hnt := h.2.1.1
  rcases h.2.2.2.2.2.2.2.1 t ht with q | ⟨p, hp, q⟩
  · unfold md_g; rw [q]; exact Or.inl (md_gr_n S _)
  · have hk := h.2.2.2.2.2.2.2.2 t ht h2 p hp q
    obtain ⟨f, rfl⟩ : ∃ f, t = f + 1 := ⟨t - 1, by omega⟩
    unfold md_g
    rw [q, md_gr_y S f p (by omega), if_neg hk]
    have h3 := h.2.2.2.2.2.2.2.1 p (by omega)
    have h4 := md_gr_s h f (S 40 0 p) (by omega) (h3.imp id fun ⟨r, h1, h2⟩ => ⟨r, by omega, h2⟩)
    exact h4.imp id fun ⟨r, h1, h2⟩ => ⟨r, by omega, h2⟩
set_option maxRecDepth 100000 in
set_option maxHeartbeats 1000000 in
theorem m_M_grant (l : Launch) (B : hw_B) (nb : Nat → Nat) (S : hw_St) (z : Nat) (hA : hw_al nb) (hF : hw_Fx S) (ns nt : Nat) (hM : im ns nt S) (t : Nat) (ht : t < nt) : hw_M l yM_grant cM_grant 3 (some .int) ({ frames := 0, cells := 0, slots := 0, locals := 0 }) B [.ref (hw_a B 20 0), .int (nI t)] nb S z (hw_p (.inl (some (.int (md_g S t)))) nb S z) := by
  refine hw_M.of (by decide) (Nat.le_of_ble_eq_true rfl) ?_
  intro X fr hl hR G hr hnm
  have hM0 := hM
  obtain ⟨⟨hs1, hs2⟩, ⟨ht1, ht2⟩, hd, hlen, hus, hof, hwh, hpa, hkk⟩ := hM
  have H : ∀ (f : Nat) (x : Int32), f ≤ nt → (x = -1 ∨ ∃ p, p < f ∧ x = nI p) → md_gr S f x = md_g S t → hw_V X B fr nb S z 0 0 (hw_MQ X B fr (hw_p (.inl (some (.int (md_g S t)))) nb S z) 0 0) 3 7 [(0, .ref (hw_a B 20 0)), (2, .int x)] [] := by
    intro f
    induction f with
    | zero =>
      rintro x hf (rfl | ⟨p, hp, -⟩) hR0
      · skip
        refine hr_iload_n G dM_grant_7 rfl rfl ?_
        refine hr_if_lt (tgt := 31) G dM_grant_8 (by decide) (fun _ => ?_) (fun h => absurd (by decide) h)
        refine hr_iload_n G dM_grant_31 rfl rfl ?_
        exact hr_iret G hr (fun _ h => h) dM_grant_32 ⟨by rw [← hR0, md_gr_n], rfl, rfl, rfl⟩
      · omega
    | succ f ih =>
      rintro x hf (rfl | ⟨p, hp, rfl⟩) hR0
      · skip
        refine hr_iload_n G dM_grant_7 rfl rfl ?_
        refine hr_if_lt (tgt := 31) G dM_grant_8 (by decide) (fun _ => ?_) (fun h => absurd (by decide) h)
        refine hr_iload_n G dM_grant_31 rfl rfl ?_
        exact hr_iret G hr (fun _ h => h) dM_grant_32 ⟨by rw [← hR0, md_gr_n], rfl, rfl, rfl⟩
      · rw [md_gr_y S f p (by omega)] at hR0
        refine hr_iload_n G dM_grant_7 rfl rfl ?_
        refine hr_if_lt (tgt := 31) G dM_grant_8 (by decide) (fun h => absurd h (nI_pos (by omega))) (fun _ => ?_)
        refine hr_aload_n G dM_grant_11 rfl rfl ?_
        refine hr_get (v := .ref (hw_a B 35 0)) G fM_53 (hA.lt (show 0 < hw_n0 20 by decide)) (hw_rfx hF (by decide) rfl (by decide)) dM_grant_12 ?_
        refine hr_iload_n G dM_grant_15 rfl rfl ?_
        refine hr_iald (n := p) (v := .int (S 35 0 p)) G rfl (by decide) rfl (hA.lt (show 0 < hw_n0 35 by decide)) rfl (show p < 150 by omega) rfl dM_grant_16 ?_
        refine hr_iconst (v := 2) G dM_grant_17 (by decide) ?_
        refine hr_icmp_eq (tgt := 31) G dM_grant_18 (by decide) (fun h18 => ?_) (fun h18 => ?_)
        · skip
          refine hr_iload_n G dM_grant_31 rfl rfl ?_
          exact hr_iret G hr (fun _ h => h) dM_grant_32 ⟨by rw [← hR0, if_pos h18], rfl, rfl, rfl⟩
        · skip
          refine hr_aload_n G dM_grant_21 rfl rfl ?_
          refine hr_get (v := .ref (hw_a B 40 0)) G fM_68 (hA.lt (show 0 < hw_n0 20 by decide)) (hw_rfx hF (by decide) rfl (by decide)) dM_grant_22 ?_
          refine hr_iload_n G dM_grant_25 rfl rfl ?_
          refine hr_iald (n := p) (v := .int (S 40 0 p)) G rfl (by decide) rfl (hA.lt (show 0 < hw_n0 40 by decide)) rfl (show p < 150 by omega) rfl dM_grant_26 ?_
          refine hr_istore_n (i := 2) G dM_grant_27 rfl (by decide) ?_
          refine hr_goto (tgt := 7) G dM_grant_28 (by decide) ?_
          refine hr_L (L' := [(0, .ref (hw_a B 20 0)), (2, .int (S 40 0 p))]) (hw_s1 rfl (hw_s1 rfl (hw_s0))) ?_
          exact ih (S 40 0 p) (by omega) ((hpa p (by omega)).imp id fun ⟨r, h1, h2⟩ => ⟨r, by omega, h2⟩) (by rw [← hR0, if_neg h18])
  refine hr_aload_n G dM_grant_0 rfl rfl ?_
  refine hr_get (v := .ref (hw_a B 40 0)) G fM_68 (hA.lt (show 0 < hw_n0 20 by decide)) (hw_rfx hF (by decide) rfl (by decide)) dM_grant_1 ?_
  refine hr_iload_n G dM_grant_4 rfl rfl ?_
  refine hr_iald (n := t) (v := .int (S 40 0 t)) G rfl (by decide) rfl (hA.lt (show 0 < hw_n0 40 by decide)) rfl (show t < 150 by omega) rfl dM_grant_5 ?_
  refine hr_istore_n (i := 2) G dM_grant_6 rfl (by decide) ?_
  refine hr_L (L' := [(0, .ref (hw_a B 20 0)), (2, .int (S 40 0 t))]) (hw_s1 rfl (hw_s1 rfl (hw_s0))) ?_
  exact H t (S 40 0 t) (by omega) (hpa t ht) rfl
theorem nI_lt_p {t n : Nat} (h : t < n) (hn : n < 2 ^ 31) : nI t ≤ nI n - 1 := by
  obtain ⟨k, rfl⟩ : ∃ k, n = k + 1 := ⟨n - 1, by omega⟩
  rw [nI_pred]; exact nI_le (by omega) (by omega)
theorem nI_42 (u i : Nat) : 4 * nI u + nI i = nI (4 * u + i) := by
  rw [← nI_add, ← nI_mul]; rfl
set_option maxRecDepth 100000 in
set_option maxHeartbeats 1000000 in
theorem m_M_ok (l : Launch) (B : hw_B) (nb : Nat → Nat) (S : hw_St) (z : Nat) (hA : hw_al nb) (hF : hw_Fx S) (ns nt : Nat) (hM : im ns nt S) (t w : Nat) (ht : t < nt) (hw : w < 6) (b g : Int32) : hw_M l yM_ok cM_ok 8 none ({ frames := 4, cells := 0, slots := 0, locals := 100 }) B [.ref (hw_a B 20 0), .int (nI t), .int (nI w), .int b, .int g] nb S z (hw_pw 1400 nb S z) := by
  refine hw_M.of (by decide) (Nat.le_of_ble_eq_true rfl) ?_
  intro X fr hl hR G hr hnm
  have hM0 := hM
  obtain ⟨⟨hs1, hs2⟩, ⟨ht1, ht2⟩, hd, hlen, hus, hof, hwh, hpa, hkk⟩ := hM
  obtain ⟨s, hs, hts⟩ := hof t ht
  obtain ⟨u, hu, hsu⟩ := hus s hs
  have K271 : ∀ (c : Nat) (S1 : hw_St), c ≤ 1395 → pg_r c S S1 → hw_V X B fr nb S1 z 0 0 (hw_MQ X B fr (hw_pw 1400 nb S z) 0 0) 8 271 [(0, .ref (hw_a B 20 0))] [] := by
    intro c S1 hc h1
    have hF1 := h1.fx hF
    refine hr_aload_n G dM_ok_271 rfl rfl ?_
    refine hr_bipush (v := 111) G dM_ok_272 (by decide) ?_
    refine hr_bipush (v := 107) G dM_ok_274 (by decide) ?_
    refine hr_iconst (v := 1) G dM_ok_276 (by decide) ?_
    refine hr_callP (b := c + 5) G rfl (hA.lt (show 0 < hw_n0 20 by decide)) kM_135 iM_tag vM_tag (m_M_tag _ _ _ _ _ hA hF1 (c + 0) h1.2 (by omega) 111 107 1) rfl rfl (Nat.le_of_ble_eq_true rfl) ⟨by rw [hR]; decide, by rw [hR]; decide⟩ ⟨by rw [hR]; decide, by rw [hR]; decide⟩ dM_ok_277 (fun S277 q277 => ?_)
    have hF277 := q277.fx hF1
    exact hr_vret G hr (fun _ h => h) dM_ok_280 ⟨rfl, rfl, (h1.tr q277).up (by omega), rfl⟩
  have C242 : ∀ (p c : Nat) (S1 : hw_St), p < nt → S 35 0 p = 2 → pg_r c S S1 → c + 11 * (p / 2 + 1) ≤ 1395 → hw_V X B fr nb S1 z 0 0 (hw_MQ X B fr (hw_pw 1400 nb S z) 0 0) 8 242 [(0, .ref (hw_a B 20 0)), (7, .int (nI p))] [] := by
    intro p
    induction p using Nat.strongRecOn with
    | ind p ih =>
      intro c S1 hp hk2 h1 hc
      have hF1 := h1.fx hF
      obtain ⟨wp, hwp, hwp2⟩ := hwh p hp
      have e37 : S1 37 0 p = nI wp := (h1.1 37 0 p (by decide) (by decide) (by omega)).trans hwp2
      refine hr_iload G dM_ok_242 rfl ?_
      refine hr_if_lt (tgt := 271) G dM_ok_244 (by decide) (fun h => absurd h (nI_pos (by omega))) (fun _ => ?_)
      refine hr_aload_n G dM_ok_247 rfl rfl ?_
      refine hr_bipush (v := 112) G dM_ok_248 (by decide) ?_
      refine hr_aload_n G dM_ok_250 rfl rfl ?_
      refine hr_get (v := .ref (hw_a B 37 0)) G fM_59 (hA.lt (show 0 < hw_n0 20 by decide)) (hw_rfx hF1 (by decide) rfl (by decide)) dM_ok_251 ?_
      refine hr_iload G dM_ok_254 rfl ?_
      refine hr_iald (n := p) (v := .int (S1 37 0 p)) G rfl (by decide) rfl (hA.lt (show 0 < hw_n0 37 by decide)) rfl (show p < 150 by omega) rfl dM_ok_256 ?_
      refine hr_st (st' := [.int (nI wp), .int 112, .ref (hw_a B 20 0)]) (by rw [e37]) ?_
      refine hr_callP (b := c + 11) G rfl (hA.lt (show 0 < hw_n0 20 by decide)) kM_145 iM_element vM_element (m_M_element1 _ _ _ _ _ hA hF1 (c + 0) h1.2 (by omega) 112 wp (by omega)) rfl rfl (Nat.le_of_ble_eq_true rfl) ⟨by rw [hR]; decide, by rw [hR]; decide⟩ ⟨by rw [hR]; decide, by rw [hR]; decide⟩ dM_ok_257 (fun S257 q257 => ?_)
      have hF257 := q257.fx hF1
      refine hr_aload_n G dM_ok_260 rfl rfl ?_
      refine hr_iload G dM_ok_261 rfl ?_
      refine hr_callVs (k := 20) (i := 0) G rfl rfl (hA.lt (show 0 < hw_n0 20 by decide)) kM_149 iM_grant vM_grant (m_M_grant _ _ _ _ _ hA hF257 ns nt (im_pg hM0 (h1.tr q257)) p hp) rfl rfl (Nat.le_of_ble_eq_true rfl) ⟨by rw [hR]; decide, by rw [hR]; decide⟩ ⟨by rw [hR]; decide, by rw [hR]; decide⟩ dM_ok_263 ?_
      refine hr_istore (i := 7) G dM_ok_266 (by decide) ?_
      refine hr_goto (tgt := 242) G dM_ok_268 (by decide) ?_
      rcases md_g_s2 (im_pg hM0 (h1.tr q257)) hp (((h1.tr q257).1 35 0 p (by decide) (by decide) (by omega)).trans hk2) with q | ⟨p2, hp2, q, hk3⟩
      · rw [q]
        refine hr_iload G dM_ok_242 rfl ?_
        refine hr_if_lt (tgt := 271) G dM_ok_244 (by decide) (fun _ => ?_) (fun h => absurd (by decide) h)
        refine hr_L (L' := [(0, .ref (hw_a B 20 0))]) (hw_s1 rfl (hw_s0)) ?_
        exact K271 (c + 11) _ (by omega) (h1.tr q257)
      · rw [q]
        refine hr_L (L' := [(0, .ref (hw_a B 20 0)), (7, .int (nI p2))]) (hw_s1 rfl (hw_s1 rfl (hw_s0))) ?_
        exact ih p2 (by omega) (c + 11) _ (by omega) (((h1.tr q257).1 35 0 p2 (by decide) (by decide) (by omega)).symm.trans hk3) (h1.tr q257) (by omega)
  have K235 : ∀ S1, pg_r 319 S S1 → hw_V X B fr nb S1 z 0 0 (hw_MQ X B fr (hw_pw 1400 nb S z) 0 0) 8 235 [(0, .ref (hw_a B 20 0)), (1, .int (nI t))] [] := by
    intro S1 h1
    have hF1 := h1.fx hF
    have hM1 := im_pg hM0 h1
    refine hr_aload_n G dM_ok_235 rfl rfl ?_
    refine hr_iload_n G dM_ok_236 rfl rfl ?_
    refine hr_callVs (k := 20) (i := 0) G rfl rfl (hA.lt (show 0 < hw_n0 20 by decide)) kM_149 iM_grant vM_grant (m_M_grant _ _ _ _ _ hA hF1 ns nt (im_pg hM0 h1) t ht) rfl rfl (Nat.le_of_ble_eq_true rfl) ⟨by rw [hR]; decide, by rw [hR]; decide⟩ ⟨by rw [hR]; decide, by rw [hR]; decide⟩ dM_ok_237 ?_
    refine hr_istore (i := 7) G dM_ok_240 (by decide) ?_
    rcases md_g_s (im_pg hM0 h1) ht with q | ⟨p2, hp2, q, hk3⟩
    · rw [q]
      refine hr_iload G dM_ok_242 rfl ?_
      refine hr_if_lt (tgt := 271) G dM_ok_244 (by decide) (fun _ => ?_) (fun h => absurd (by decide) h)
      refine hr_L (L' := [(0, .ref (hw_a B 20 0))]) (hw_s1 rfl (hw_s0)) ?_
      exact K271 (319) _ (by omega) h1
    · rw [q]
      refine hr_L (L' := [(0, .ref (hw_a B 20 0)), (7, .int (nI p2))]) (hw_s1 rfl (hw_s1 rfl (hw_s0))) ?_
      exact C242 p2 319 _ (by omega) ((h1.1 35 0 p2 (by decide) (by decide) (by omega)).symm.trans hk3) h1 (by omega)
  have K222 : ∀ S1, pg_r 297 S S1 → hw_V X B fr nb S1 z 0 0 (hw_MQ X B fr (hw_pw 1400 nb S z) 0 0) 8 222 [(0, .ref (hw_a B 20 0)), (1, .int (nI t)), (4, .int g)] [] := by
    intro S1 h1
    have hF1 := h1.fx hF
    have hM1 := im_pg hM0 h1
    refine hr_iload G dM_ok_222 rfl ?_
    refine hr_if_lt (tgt := 235) G dM_ok_224 (by decide) (fun h224 => ?_) (fun h224 => ?_)
    · skip
      refine hr_L (L' := [(0, .ref (hw_a B 20 0)), (1, .int (nI t))]) (hw_s1 rfl (hw_s1 rfl (hw_s0))) ?_
      exact K235 _ (h1.up (by omega))
    · skip
      refine hr_aload_n G dM_ok_227 rfl rfl ?_
      refine hr_bipush (v := 103) G dM_ok_228 (by decide) ?_
      refine hr_iload G dM_ok_230 rfl ?_
      refine hr_callP (b := 297 + 22) G rfl (hA.lt (show 0 < hw_n0 20 by decide)) kM_145 iM_element vM_element (m_M_element _ _ _ _ _ hA hF1 (297 + 0) h1.2 (by omega) 103 g) rfl rfl (Nat.le_of_ble_eq_true rfl) ⟨by rw [hR]; decide, by rw [hR]; decide⟩ ⟨by rw [hR]; decide, by rw [hR]; decide⟩ dM_ok_232 (fun S232 q232 => ?_)
      have hF232 := q232.fx hF1
      refine hr_L (L' := [(0, .ref (hw_a B 20 0)), (1, .int (nI t))]) (hw_s1 rfl (hw_s1 rfl (hw_s0))) ?_
      exact K235 _ ((h1.tr q232).up (by omega))
  have K202 : ∀ S1, pg_r 275 S S1 → hw_V X B fr nb S1 z 0 0 (hw_MQ X B fr (hw_pw 1400 nb S z) 0 0) 8 202 [(0, .ref (hw_a B 20 0)), (1, .int (nI t)), (4, .int g)] [] := by
    intro S1 h1
    have hF1 := h1.fx hF
    have hM1 := im_pg hM0 h1
    refine hr_aload_n G dM_ok_202 rfl rfl ?_
    refine hr_bipush (v := 110) G dM_ok_203 (by decide) ?_
    refine hr_aload_n G dM_ok_205 rfl rfl ?_
    refine hr_get (v := .ref (hw_a B 39 0)) G fM_65 (hA.lt (show 0 < hw_n0 20 by decide)) (hw_rfx hF1 (by decide) rfl (by decide)) dM_ok_206 ?_
    refine hr_iload_n G dM_ok_209 rfl rfl ?_
    refine hr_zald (n := t) (v := .int (S1 39 0 t)) G rfl (by decide) rfl (hA.lt (show 0 < hw_n0 39 by decide)) rfl (show t < 150 by omega) rfl dM_ok_210 ?_
    refine hr_if_eq (tgt := 218) G dM_ok_211 (by decide) (fun h211 => ?_) (fun h211 => ?_)
    · skip
      refine hr_iconst (v := 0) G dM_ok_218 (by decide) ?_
      refine hr_callP (b := 275 + 22) G rfl (hA.lt (show 0 < hw_n0 20 by decide)) kM_145 iM_element vM_element (m_M_element _ _ _ _ _ hA hF1 (275 + 0) h1.2 (by omega) 110 0) rfl rfl (Nat.le_of_ble_eq_true rfl) ⟨by rw [hR]; decide, by rw [hR]; decide⟩ ⟨by rw [hR]; decide, by rw [hR]; decide⟩ dM_ok_219 (fun S219 q219 => ?_)
      have hF219 := q219.fx hF1
      refine hr_L (L' := [(0, .ref (hw_a B 20 0)), (1, .int (nI t)), (4, .int g)]) (hw_s1 rfl (hw_s1 rfl (hw_s1 rfl (hw_s0)))) ?_
      exact K222 _ ((h1.tr q219).up (by omega))
    · skip
      refine hr_iconst (v := 1) G dM_ok_214 (by decide) ?_
      refine hr_goto (tgt := 219) G dM_ok_215 (by decide) ?_
      refine hr_callP (b := 275 + 22) G rfl (hA.lt (show 0 < hw_n0 20 by decide)) kM_145 iM_element vM_element (m_M_element _ _ _ _ _ hA hF1 (275 + 0) h1.2 (by omega) 110 1) rfl rfl (Nat.le_of_ble_eq_true rfl) ⟨by rw [hR]; decide, by rw [hR]; decide⟩ ⟨by rw [hR]; decide, by rw [hR]; decide⟩ dM_ok_219 (fun S219 q219 => ?_)
      have hF219 := q219.fx hF1
      refine hr_L (L' := [(0, .ref (hw_a B 20 0)), (1, .int (nI t)), (4, .int g)]) (hw_s1 rfl (hw_s1 rfl (hw_s1 rfl (hw_s0)))) ?_
      exact K222 _ ((h1.tr q219).up (by omega))
  have K172 : ∀ S1, pg_r 231 S S1 → hw_V X B fr nb S1 z 0 0 (hw_MQ X B fr (hw_pw 1400 nb S z) 0 0) 8 172 [(0, .ref (hw_a B 20 0)), (1, .int (nI t)), (4, .int g), (5, .int (nI s))] [] := by
    intro S1 h1
    have hF1 := h1.fx hF
    have hM1 := im_pg hM0 h1
    refine hr_aload_n G dM_ok_172 rfl rfl ?_
    refine hr_bipush (v := 100) G dM_ok_173 (by decide) ?_
    refine hr_aload_n G dM_ok_175 rfl rfl ?_
    refine hr_get (v := .ref (hw_a B 31 0)) G fM_41 (hA.lt (show 0 < hw_n0 20 by decide)) (hw_rfx hF1 (by decide) rfl (by decide)) dM_ok_176 ?_
    refine hr_iload G dM_ok_179 rfl ?_
    refine hr_iald (n := s) (v := .int (S1 31 0 s)) G rfl (by decide) rfl (hA.lt (show 0 < hw_n0 31 by decide)) rfl (show s < 40 by omega) rfl dM_ok_181 ?_
    refine hr_callP (b := 231 + 22) G rfl (hA.lt (show 0 < hw_n0 20 by decide)) kM_145 iM_element vM_element (m_M_element _ _ _ _ _ hA hF1 (231 + 0) h1.2 (by omega) 100 (S1 31 0 s)) rfl rfl (Nat.le_of_ble_eq_true rfl) ⟨by rw [hR]; decide, by rw [hR]; decide⟩ ⟨by rw [hR]; decide, by rw [hR]; decide⟩ dM_ok_182 (fun S182 q182 => ?_)
    have hF182 := q182.fx hF1
    refine hr_aload_n G dM_ok_185 rfl rfl ?_
    refine hr_get (v := .ref (hw_a B 33 0)) G fM_47 (hA.lt (show 0 < hw_n0 20 by decide)) (hw_rfx hF182 (by decide) rfl (by decide)) dM_ok_186 ?_
    refine hr_iload G dM_ok_189 rfl ?_
    refine hr_zald (n := s) (v := .int (S182 33 0 s)) G rfl (by decide) rfl (hA.lt (show 0 < hw_n0 33 by decide)) rfl (show s < 40 by omega) rfl dM_ok_191 ?_
    refine hr_if_eq (tgt := 202) G dM_ok_192 (by decide) (fun h192 => ?_) (fun h192 => ?_)
    · skip
      refine hr_L (L' := [(0, .ref (hw_a B 20 0)), (1, .int (nI t)), (4, .int g)]) (hw_s1 rfl (hw_s1 rfl (hw_s1 rfl (hw_s0)))) ?_
      exact K202 _ ((h1.tr q182).up (by omega))
    · skip
      refine hr_aload_n G dM_ok_195 rfl rfl ?_
      refine hr_bipush (v := 108) G dM_ok_196 (by decide) ?_
      refine hr_iconst (v := 1) G dM_ok_198 (by decide) ?_
      refine hr_callP (b := 231 + 44) G rfl (hA.lt (show 0 < hw_n0 20 by decide)) kM_145 iM_element vM_element (m_M_element _ _ _ _ _ hA hF182 (231 + 22) (h1.tr q182).2 (by omega) 108 1) rfl rfl (Nat.le_of_ble_eq_true rfl) ⟨by rw [hR]; decide, by rw [hR]; decide⟩ ⟨by rw [hR]; decide, by rw [hR]; decide⟩ dM_ok_199 (fun S199 q199 => ?_)
      have hF199 := q199.fx hF182
      refine hr_L (L' := [(0, .ref (hw_a B 20 0)), (1, .int (nI t)), (4, .int g)]) (hw_s1 rfl (hw_s1 rfl (hw_s1 rfl (hw_s0)))) ?_
      exact K202 _ (((h1.tr q182).tr q199).up (by omega))
  have L89 : ∀ (m i : Nat) (S1 : hw_St), pg_r (57 + 58 * i) S S1 → 3 - i = m → i ≤ 3 → hw_V X B fr nb S1 z 0 0 (hw_MQ X B fr (hw_pw 1400 nb S z) 0 0) 8 89 [(0, .ref (hw_a B 20 0)), (1, .int (nI t)), (2, .int (nI w)), (3, .int b), (4, .int g), (5, .int (nI s)), (6, .int (nI u)), (7, .int (nI i))] [] := by
    intro m
    induction m with
    | zero =>
      intro i S1 h1 hm hi
      obtain rfl : i = 3 := by omega
      have hF1 := h1.fx hF
      refine hr_iload G dM_ok_89 rfl ?_
      refine hr_iconst (v := 3) G dM_ok_91 (by decide) ?_
      refine hr_icmp_ge (tgt := 172) G dM_ok_92 (by decide) (fun _ => ?_) (fun h => absurd (show (3 : Int32) ≤ nI 3 by decide) h)
      refine hr_L (L' := [(0, .ref (hw_a B 20 0)), (1, .int (nI t)), (4, .int g), (5, .int (nI s))]) (hw_s1 rfl (hw_s1 rfl (hw_s1 rfl (hw_s1 rfl (hw_s0))))) ?_
      exact K172 _ (h1.up (by omega))
    | succ m ih =>
      intro i S1 h1 hm hi
      have hF1 := h1.fx hF
      obtain ⟨n, hn, hn2⟩ := hlen (4 * u + i) (by omega)
      refine hr_iload G dM_ok_89 rfl ?_
      refine hr_iconst (v := 3) G dM_ok_91 (by decide) ?_
      refine hr_icmp_ge (tgt := 172) G dM_ok_92 (by decide) (fun h => absurd h (show ¬ (3 : Int32) ≤ nI i from nI_ge (b := 3) (by omega) (by decide))) (fun _ => ?_)
      refine hr_iload_n G dM_ok_95 rfl rfl ?_
      refine hr_if_eq (tgt := 172) G dM_ok_96 (by decide) (fun h96 => ?_) (fun h96 => ?_)
      · skip
        refine hr_L (L' := [(0, .ref (hw_a B 20 0)), (1, .int (nI t)), (4, .int g), (5, .int (nI s))]) (hw_s1 rfl (hw_s1 rfl (hw_s1 rfl (hw_s1 rfl (hw_s0))))) ?_
        exact K172 _ (h1.up (by omega))
      · skip
        refine hr_aload_n G dM_ok_99 rfl rfl ?_
        refine hr_get (v := .ref (hw_a B 28 0)) G fM_32 (hA.lt (show 0 < hw_n0 20 by decide)) (hw_rfx hF1 (by decide) rfl (by decide)) dM_ok_100 ?_
        refine hr_iload_n G dM_ok_103 rfl rfl ?_
        refine hr_iald (n := w) (v := .int (S1 28 0 w)) G rfl (by decide) rfl (hA.lt (show 0 < hw_n0 28 by decide)) rfl (show w < 6 from hw) rfl dM_ok_104 ?_
        refine hr_iconst (v := 3) G dM_ok_105 (by decide) ?_
        refine hr_iload G dM_ok_106 rfl ?_
        refine hr_iadd G dM_ok_108 ?_
        refine hr_ishr G dM_ok_109 ?_
        refine hr_iconst (v := 1) G dM_ok_110 (by decide) ?_
        refine hr_iand G dM_ok_111 ?_
        refine hr_iconst (v := 1) G dM_ok_112 (by decide) ?_
        refine hr_icmp_ne (tgt := 166) G dM_ok_113 (by decide) (fun h113 => ?_) (fun h113 => ?_)
        · skip
          refine hr_iinc (v := nI (i + 1)) G dM_ok_166 rfl (nI_succ i).symm (by decide) ?_
          refine hr_goto (tgt := 89) G dM_ok_169 (by decide) ?_
          refine hr_L (L' := [(0, .ref (hw_a B 20 0)), (1, .int (nI t)), (2, .int (nI w)), (3, .int b), (4, .int g), (5, .int (nI s)), (6, .int (nI u)), (7, .int (nI (i + 1)))]) (hw_s1 rfl (hw_s1 rfl (hw_s1 rfl (hw_s1 rfl (hw_s1 rfl (hw_s1 rfl (hw_s1 rfl (hw_s1 rfl (hw_s0))))))))) ?_
          exact ih (i + 1) _ (h1.up (by omega)) (by omega) (by omega)
        · skip
          refine hr_aload_n G dM_ok_116 rfl rfl ?_
          refine hr_get (v := .ref (hw_a B 23 0)) G fM_16 (hA.lt (show 0 < hw_n0 20 by decide)) (hw_rfx hF1 (by decide) rfl (by decide)) dM_ok_117 ?_
          refine hr_iconst (v := 4) G dM_ok_120 (by decide) ?_
          refine hr_iload G dM_ok_121 rfl ?_
          refine hr_imul G dM_ok_123 ?_
          refine hr_iload G dM_ok_124 rfl ?_
          refine hr_iadd G dM_ok_126 ?_
          refine hr_iald (n := (4 * u + i)) (v := .int (S1 23 0 (4 * u + i))) G rfl (by decide) rfl (hA.lt (show 0 < hw_n0 23 by decide)) (nI_42 u i) (show 4 * u + i < 16 by omega) rfl dM_ok_127 ?_
          refine hr_if_le (tgt := 166) G dM_ok_128 (by decide) (fun h128 => ?_) (fun h128 => ?_)
          · skip
            refine hr_iinc (v := nI (i + 1)) G dM_ok_166 rfl (nI_succ i).symm (by decide) ?_
            refine hr_goto (tgt := 89) G dM_ok_169 (by decide) ?_
            refine hr_L (L' := [(0, .ref (hw_a B 20 0)), (1, .int (nI t)), (2, .int (nI w)), (3, .int b), (4, .int g), (5, .int (nI s)), (6, .int (nI u)), (7, .int (nI (i + 1)))]) (hw_s1 rfl (hw_s1 rfl (hw_s1 rfl (hw_s1 rfl (hw_s1 rfl (hw_s1 rfl (hw_s1 rfl (hw_s1 rfl (hw_s0))))))))) ?_
            exact ih (i + 1) _ (h1.up (by omega)) (by omega) (by omega)
          · skip
            refine hr_aload_n G dM_ok_131 rfl rfl ?_
            refine hr_bipush (v := 97) G dM_ok_132 (by decide) ?_
            refine hr_bipush (v := 48) G dM_ok_134 (by decide) ?_
            refine hr_iload G dM_ok_136 rfl ?_
            refine hr_iadd G dM_ok_138 ?_
            refine hr_iconst (v := 0) G dM_ok_139 (by decide) ?_
            refine hr_callP (b := (57 + 58 * i) + 5) G rfl (hA.lt (show 0 < hw_n0 20 by decide)) kM_135 iM_tag vM_tag (m_M_tag _ _ _ _ _ hA hF1 ((57 + 58 * i) + 0) h1.2 (by omega) 97 (48 + (nI i)) 0) rfl rfl (Nat.le_of_ble_eq_true rfl) ⟨by rw [hR]; decide, by rw [hR]; decide⟩ ⟨by rw [hR]; decide, by rw [hR]; decide⟩ dM_ok_140 (fun S140 q140 => ?_)
            have hF140 := q140.fx hF1
            refine hr_aload_n G dM_ok_143 rfl rfl ?_
            refine hr_iconst (v := 4) G dM_ok_144 (by decide) ?_
            refine hr_iload G dM_ok_145 rfl ?_
            refine hr_imul G dM_ok_147 ?_
            refine hr_iload G dM_ok_148 rfl ?_
            refine hr_iadd G dM_ok_150 ?_
            refine hr_st (st' := [.int (nI (4 * u + i)), .ref (hw_a B 20 0)]) (by rw [nI_42]) ?_
            refine hr_callP (b := (57 + 58 * i) + 53) G rfl (hA.lt (show 0 < hw_n0 20 by decide)) kM_142 iM_letters vM_letters (m_M_letters _ _ _ _ _ hA hF140 ((57 + 58 * i) + 5) (h1.tr q140).2 (by omega) (4 * u + i) n (by omega) hn (((h1.tr q140).1 23 0 (4 * u + i) (by decide) (by decide) (by omega)).trans hn2)) rfl rfl (Nat.le_of_ble_eq_true rfl) ⟨by rw [hR]; decide, by rw [hR]; decide⟩ ⟨by rw [hR]; decide, by rw [hR]; decide⟩ dM_ok_151 (fun S151 q151 => ?_)
            have hF151 := q151.fx hF140
            refine hr_aload_n G dM_ok_154 rfl rfl ?_
            refine hr_bipush (v := 97) G dM_ok_155 (by decide) ?_
            refine hr_bipush (v := 48) G dM_ok_157 (by decide) ?_
            refine hr_iload G dM_ok_159 rfl ?_
            refine hr_iadd G dM_ok_161 ?_
            refine hr_iconst (v := 1) G dM_ok_162 (by decide) ?_
            refine hr_callP (b := (57 + 58 * i) + 58) G rfl (hA.lt (show 0 < hw_n0 20 by decide)) kM_135 iM_tag vM_tag (m_M_tag _ _ _ _ _ hA hF151 ((57 + 58 * i) + 53) ((h1.tr q140).tr q151).2 (by omega) 97 (48 + (nI i)) 1) rfl rfl (Nat.le_of_ble_eq_true rfl) ⟨by rw [hR]; decide, by rw [hR]; decide⟩ ⟨by rw [hR]; decide, by rw [hR]; decide⟩ dM_ok_163 (fun S163 q163 => ?_)
            have hF163 := q163.fx hF151
            refine hr_iinc (v := nI (i + 1)) G dM_ok_166 rfl (nI_succ i).symm (by decide) ?_
            refine hr_goto (tgt := 89) G dM_ok_169 (by decide) ?_
            refine hr_L (L' := [(0, .ref (hw_a B 20 0)), (1, .int (nI t)), (2, .int (nI w)), (3, .int b), (4, .int g), (5, .int (nI s)), (6, .int (nI u)), (7, .int (nI (i + 1)))]) (hw_s1 rfl (hw_s1 rfl (hw_s1 rfl (hw_s1 rfl (hw_s1 rfl (hw_s1 rfl (hw_s1 rfl (hw_s1 rfl (hw_s0))))))))) ?_
            exact ih (i + 1) _ ((((h1.tr q140).tr q151).tr q163).up (by omega)) (by omega) (by omega)
  obtain ⟨n3, hn3, hn32⟩ := hlen (4 * u + 3) (by omega)
  refine hr_aload_n G dM_ok_0 rfl rfl ?_
  refine hr_get (v := .ref (hw_a B 36 0)) G fM_56 (hA.lt (show 0 < hw_n0 20 by decide)) (hw_rfx hF (by decide) rfl (by decide)) dM_ok_1 ?_
  refine hr_iload_n G dM_ok_4 rfl rfl ?_
  refine hr_iald (n := t) (v := .int (S 36 0 t)) G rfl (by decide) rfl (hA.lt (show 0 < hw_n0 36 by decide)) rfl (show t < 150 by omega) rfl dM_ok_5 ?_
  refine hr_istore (i := 5) G dM_ok_6 (by decide) ?_
  refine hr_aload_n G dM_ok_8 rfl rfl ?_
  refine hr_get (v := .ref (hw_a B 30 0)) G fM_38 (hA.lt (show 0 < hw_n0 20 by decide)) (hw_rfx hF (by decide) rfl (by decide)) dM_ok_9 ?_
  refine hr_iload G dM_ok_12 rfl ?_
  refine hr_iald (n := s) (v := .int (S 30 0 s)) G rfl (by decide) rfl (hA.lt (show 0 < hw_n0 30 by decide)) hts (show s < 40 by omega) rfl dM_ok_14 ?_
  refine hr_istore (i := 6) G dM_ok_15 (by decide) ?_
  refine hr_aload_n G dM_ok_17 rfl rfl ?_
  refine hr_iconst (v := 0) G dM_ok_18 (by decide) ?_
  refine hr_put (x := 0) G fM_80 (hA.lt (show 0 < hw_n0 20 by decide)) rfl (rfl) rfl dM_ok_19 ?_
  refine hr_aload_n G dM_ok_22 rfl rfl ?_
  refine hr_bipush (v := 60) G dM_ok_23 (by decide) ?_
  refine hr_callP (b := 0 + 1) G rfl (hA.lt (show 0 < hw_n0 20 by decide)) kM_125 iM_put vM_put (m_M_put _ _ _ _ _ hA (hF.sv rfl) (0 + 0) pg_w0.2 (by omega) 60) rfl rfl (Nat.le_of_ble_eq_true rfl) ⟨by rw [hR]; decide, by rw [hR]; decide⟩ ⟨by rw [hR]; decide, by rw [hR]; decide⟩ dM_ok_25 (fun S25 q25 => ?_)
  have hF25 := q25.fx (hF.sv rfl)
  refine hr_aload_n G dM_ok_28 rfl rfl ?_
  refine hr_bipush (v := 111) G dM_ok_29 (by decide) ?_
  refine hr_callP (b := 0 + 2) G rfl (hA.lt (show 0 < hw_n0 20 by decide)) kM_125 iM_put vM_put (m_M_put _ _ _ _ _ hA hF25 (0 + 1) (pg_w0.tr q25).2 (by omega) 111) rfl rfl (Nat.le_of_ble_eq_true rfl) ⟨by rw [hR]; decide, by rw [hR]; decide⟩ ⟨by rw [hR]; decide, by rw [hR]; decide⟩ dM_ok_31 (fun S31 q31 => ?_)
  have hF31 := q31.fx hF25
  refine hr_aload_n G dM_ok_34 rfl rfl ?_
  refine hr_bipush (v := 107) G dM_ok_35 (by decide) ?_
  refine hr_callP (b := 0 + 3) G rfl (hA.lt (show 0 < hw_n0 20 by decide)) kM_125 iM_put vM_put (m_M_put _ _ _ _ _ hA hF31 (0 + 2) ((pg_w0.tr q25).tr q31).2 (by omega) 107) rfl rfl (Nat.le_of_ble_eq_true rfl) ⟨by rw [hR]; decide, by rw [hR]; decide⟩ ⟨by rw [hR]; decide, by rw [hR]; decide⟩ dM_ok_37 (fun S37 q37 => ?_)
  have hF37 := q37.fx hF31
  refine hr_aload_n G dM_ok_40 rfl rfl ?_
  refine hr_bipush (v := 32) G dM_ok_41 (by decide) ?_
  refine hr_callP (b := 0 + 4) G rfl (hA.lt (show 0 < hw_n0 20 by decide)) kM_125 iM_put vM_put (m_M_put _ _ _ _ _ hA hF37 (0 + 3) (((pg_w0.tr q25).tr q31).tr q37).2 (by omega) 32) rfl rfl (Nat.le_of_ble_eq_true rfl) ⟨by rw [hR]; decide, by rw [hR]; decide⟩ ⟨by rw [hR]; decide, by rw [hR]; decide⟩ dM_ok_43 (fun S43 q43 => ?_)
  have hF43 := q43.fx hF37
  refine hr_aload_n G dM_ok_46 rfl rfl ?_
  refine hr_bipush (v := 117) G dM_ok_47 (by decide) ?_
  refine hr_callP (b := 0 + 5) G rfl (hA.lt (show 0 < hw_n0 20 by decide)) kM_125 iM_put vM_put (m_M_put _ _ _ _ _ hA hF43 (0 + 4) ((((pg_w0.tr q25).tr q31).tr q37).tr q43).2 (by omega) 117) rfl rfl (Nat.le_of_ble_eq_true rfl) ⟨by rw [hR]; decide, by rw [hR]; decide⟩ ⟨by rw [hR]; decide, by rw [hR]; decide⟩ dM_ok_49 (fun S49 q49 => ?_)
  have hF49 := q49.fx hF43
  refine hr_aload_n G dM_ok_52 rfl rfl ?_
  refine hr_bipush (v := 61) G dM_ok_53 (by decide) ?_
  refine hr_callP (b := 0 + 6) G rfl (hA.lt (show 0 < hw_n0 20 by decide)) kM_125 iM_put vM_put (m_M_put _ _ _ _ _ hA hF49 (0 + 5) (((((pg_w0.tr q25).tr q31).tr q37).tr q43).tr q49).2 (by omega) 61) rfl rfl (Nat.le_of_ble_eq_true rfl) ⟨by rw [hR]; decide, by rw [hR]; decide⟩ ⟨by rw [hR]; decide, by rw [hR]; decide⟩ dM_ok_55 (fun S55 q55 => ?_)
  have hF55 := q55.fx hF49
  refine hr_aload_n G dM_ok_58 rfl rfl ?_
  refine hr_bipush (v := 34) G dM_ok_59 (by decide) ?_
  refine hr_callP (b := 0 + 7) G rfl (hA.lt (show 0 < hw_n0 20 by decide)) kM_125 iM_put vM_put (m_M_put _ _ _ _ _ hA hF55 (0 + 6) ((((((pg_w0.tr q25).tr q31).tr q37).tr q43).tr q49).tr q55).2 (by omega) 34) rfl rfl (Nat.le_of_ble_eq_true rfl) ⟨by rw [hR]; decide, by rw [hR]; decide⟩ ⟨by rw [hR]; decide, by rw [hR]; decide⟩ dM_ok_61 (fun S61 q61 => ?_)
  have hF61 := q61.fx hF55
  refine hr_aload_n G dM_ok_64 rfl rfl ?_
  refine hr_iconst (v := 4) G dM_ok_65 (by decide) ?_
  refine hr_iload G dM_ok_66 rfl ?_
  refine hr_imul G dM_ok_68 ?_
  refine hr_iconst (v := 3) G dM_ok_69 (by decide) ?_
  refine hr_iadd G dM_ok_70 ?_
  refine hr_st (st' := [.int (nI (4 * u + 3)), .ref (hw_a B 20 0)]) (by rw [hsu, show (3 : Int32) = nI 3 from rfl, nI_42]) ?_
  refine hr_callP (b := 0 + 55) G rfl (hA.lt (show 0 < hw_n0 20 by decide)) kM_142 iM_letters vM_letters (m_M_letters _ _ _ _ _ hA hF61 (0 + 7) (((((((pg_w0.tr q25).tr q31).tr q37).tr q43).tr q49).tr q55).tr q61).2 (by omega) (4 * u + 3) n3 (by omega) hn3 (((((((((pg_w0.tr q25).tr q31).tr q37).tr q43).tr q49).tr q55).tr q61).1 23 0 (4 * u + 3) (by decide) (by decide) (by omega)).trans hn32)) rfl rfl (Nat.le_of_ble_eq_true rfl) ⟨by rw [hR]; decide, by rw [hR]; decide⟩ ⟨by rw [hR]; decide, by rw [hR]; decide⟩ dM_ok_71 (fun S71 q71 => ?_)
  have hF71 := q71.fx hF61
  refine hr_aload_n G dM_ok_74 rfl rfl ?_
  refine hr_bipush (v := 34) G dM_ok_75 (by decide) ?_
  refine hr_callP (b := 0 + 56) G rfl (hA.lt (show 0 < hw_n0 20 by decide)) kM_125 iM_put vM_put (m_M_put _ _ _ _ _ hA hF71 (0 + 55) ((((((((pg_w0.tr q25).tr q31).tr q37).tr q43).tr q49).tr q55).tr q61).tr q71).2 (by omega) 34) rfl rfl (Nat.le_of_ble_eq_true rfl) ⟨by rw [hR]; decide, by rw [hR]; decide⟩ ⟨by rw [hR]; decide, by rw [hR]; decide⟩ dM_ok_77 (fun S77 q77 => ?_)
  have hF77 := q77.fx hF71
  refine hr_aload_n G dM_ok_80 rfl rfl ?_
  refine hr_bipush (v := 62) G dM_ok_81 (by decide) ?_
  refine hr_callP (b := 0 + 57) G rfl (hA.lt (show 0 < hw_n0 20 by decide)) kM_125 iM_put vM_put (m_M_put _ _ _ _ _ hA hF77 (0 + 56) (((((((((pg_w0.tr q25).tr q31).tr q37).tr q43).tr q49).tr q55).tr q61).tr q71).tr q77).2 (by omega) 62) rfl rfl (Nat.le_of_ble_eq_true rfl) ⟨by rw [hR]; decide, by rw [hR]; decide⟩ ⟨by rw [hR]; decide, by rw [hR]; decide⟩ dM_ok_83 (fun S83 q83 => ?_)
  have hF83 := q83.fx hF77
  refine hr_iconst (v := 0) G dM_ok_86 (by decide) ?_
  refine hr_istore (i := 7) G dM_ok_87 (by decide) ?_
  rw [hts, hsu]
  refine hr_L (L' := [(0, .ref (hw_a B 20 0)), (1, .int (nI t)), (2, .int (nI w)), (3, .int b), (4, .int g), (5, .int (nI s)), (6, .int (nI u)), (7, .int (nI 0))]) (hw_s1 rfl (hw_s1 rfl (hw_s1 rfl (hw_s1 rfl (hw_s1 rfl (hw_s1 rfl (hw_s1 rfl (hw_s1 rfl (hw_s0))))))))) ?_
  exact L89 _ 0 _ (((((((((((pg_w0.tr q25).tr q31).tr q37).tr q43).tr q49).tr q55).tr q61).tr q71).tr q77).tr q83).up (by omega)) rfl (by omega)
