/-! The reference: grant, ok, judged, ends. -/
/-- what the reference's own state keeps -/
def im (ns nt : Nat) (S : hw_St) : Prop := (ns ≤ 40 ∧ S 20 0 12 = nI ns) ∧ (nt ≤ 150 ∧ S 20 0 18 = nI nt) ∧ (∃ n, n ≤ 8 ∧ S 20 0 3 = nI n) ∧ (∀ t, t < 16 → ∃ n, n ≤ 8 ∧ S 23 0 t = nI n) ∧ (∀ i, i < ns → ∃ u, u < 4 ∧ S 30 0 i = nI u) ∧ (∀ i, i < nt → ∃ s, s < ns ∧ S 36 0 i = nI s) ∧ (∀ i, i < nt → ∃ w, w < 6 ∧ S 37 0 i = nI w) ∧ (∀ i, i < nt → S 40 0 i = -1 ∨ ∃ p, p < i ∧ S 40 0 i = nI p) ∧ (∀ i, i < nt → S 35 0 i = 2 → ∀ p, p < i → S 40 0 i = nI p → ¬ S 35 0 p = 2)
theorem im_pg {ns nt b : Nat} {S S' : hw_St} (h : im ns nt S) (q : pg_r b S S') : im ns nt S' := by
  have e : ∀ k i j, ¬ k = 43 → ¬ k = 44 → ¬ k = 20 → S' k i j = S k i j := fun k i j a b c => q.1 k i j a b (fun w => c w.1)
  have e20 : ∀ i j, ¬ j = 29 → S' 20 i j = S 20 i j := fun i j a => q.1 20 i j (by decide) (by decide) (fun w => a w.2)
  obtain ⟨h1, h2, h3, h4, h5, h6, h7, h8, h9⟩ := h
  refine ⟨⟨h1.1, by rw [e20 _ _ (by decide)]; exact h1.2⟩, ⟨h2.1, by rw [e20 _ _ (by decide)]; exact h2.2⟩, by rw [e20 _ _ (by decide)]; exact h3, fun t ht => by rw [e _ _ _ (by decide) (by decide) (by decide)]; exact h4 t ht, fun t ht => by rw [e _ _ _ (by decide) (by decide) (by decide)]; exact h5 t ht, fun t ht => by rw [e _ _ _ (by decide) (by decide) (by decide)]; exact h6 t ht, fun t ht => by rw [e _ _ _ (by decide) (by decide) (by decide)]; exact h7 t ht, fun t ht => by rw [e _ _ _ (by decide) (by decide) (by decide)]; exact h8 t ht, fun t ht => by rw [e 35 0 t (by decide) (by decide) (by decide), e 40 0 t (by decide) (by decide) (by decide)]; intro a p hp b; rw [e 35 0 p (by decide) (by decide) (by decide)]; exact h9 t ht a p hp b⟩
def md_gr (S : hw_St) : Nat → Int32 → Int32
  | 0, x => x
  | f + 1, x => if x < 0 then x else if S 35 0 x.toNatClampNeg = 2 then x else md_gr S f (S 40 0 x.toNatClampNeg)
def md_g (S : hw_St) (t : Nat) : Int32 := md_gr S t (S 40 0 t)
theorem md_gr_n (S : hw_St) (f : Nat) : md_gr S f (-1) = -1 := by
  cases f with
  | zero => rfl
  | succ f => unfold md_gr; rw [if_pos (by decide)]
theorem md_gr_y (S : hw_St) (f p : Nat) (hp : p < 2 ^ 31) : md_gr S (f + 1) (nI p) = if S 35 0 p = 2 then nI p else md_gr S f (S 40 0 p) := by
  rw [md_gr, if_neg (nI_pos hp), nI_clamp hp]
theorem md_gr_s {ns nt : Nat} {S : hw_St} (h : im ns nt S) : ∀ (f : Nat) (x : Int32), f ≤ nt → (x = -1 ∨ ∃ p, p < f ∧ x = nI p) → md_gr S f x = -1 ∨ ∃ p, p < f ∧ md_gr S f x = nI p ∧ S 35 0 p = 2 := by
  have hnt := h.2.1.1
  intro f
  induction f with
  | zero => rintro x - (rfl | ⟨p, hp, -⟩); exact Or.inl rfl; omega
  | succ f ih =>
    rintro x hf (rfl | ⟨p, hp, rfl⟩)
    · exact Or.inl (md_gr_n S _)
    · rw [md_gr_y S f p (by omega)]
      split
      · rename_i q; exact Or.inr ⟨p, hp, rfl, q⟩
      · rcases ih (S 40 0 p) (by omega) ((h.2.2.2.2.2.2.2.1 p (by omega)).imp id fun ⟨r, h1, h2⟩ => ⟨r, by omega, h2⟩) with q | ⟨r, h1, h2, h3⟩
        · exact Or.inl q
        · exact Or.inr ⟨r, by omega, h2, h3⟩
theorem md_g_s {ns nt : Nat} {S : hw_St} (h : im ns nt S) {t : Nat} (ht : t < nt) : md_g S t = -1 ∨ ∃ p, p < t ∧ md_g S t = nI p ∧ S 35 0 p = 2 :=
  md_gr_s h t _ (by omega) (h.2.2.2.2.2.2.2.1 t ht)
theorem md_g_s2 {ns nt : Nat} {S : hw_St} (h : im ns nt S) {t : Nat} (ht : t < nt) (h2 : S 35 0 t = 2) : md_g S t = -1 ∨ ∃ p, p + 2 ≤ t ∧ md_g S t = nI p ∧ S 35 0 p = 2 := by
  have hnt := h.2.1.1
  rcases h.2.2.2.2.2.2.2.1 t ht with q | ⟨p, hp, q⟩
  · unfold md_g; rw [q]; exact Or.inl (md_gr_n S _)
  · have hk := h.2.2.2.2.2.2.2.2 t ht h2 p hp q
    obtain ⟨f, rfl⟩ : ∃ f, t = f + 1 := ⟨t - 1, by omega⟩
    unfold md_g
    rw [q, md_gr_y S f p (by omega), if_neg hk]
    have h3 := h.2.2.2.2.2.2.2.1 p (by omega)
    have h4 := md_gr_s h f (S 40 0 p) (by omega) (h3.imp id fun ⟨r, h1, h2⟩ => ⟨r, by omega, h2⟩)
    exact h4.imp id fun ⟨r, h1, h2⟩ => ⟨r, by omega, h2⟩
set_option maxRecDepth 100000 in
set_option maxHeartbeats 1000000 in
theorem m_M_grant (l : Launch) (B : hw_B) (nb : Nat → Nat) (S : hw_St) (z : Nat) (hA : hw_al nb) (hF : hw_Fx S) (ns nt : Nat) (hM : im ns nt S) (t : Nat) (ht : t < nt) : hw_M l yM_grant cM_grant 3 (some .int) ({ frames := 0, cells := 0, slots := 0, locals := 0 }) B [.ref (hw_a B 20 0), .int (nI t)] nb S z (hw_p (.inl (some (.int (md_g S t)))) nb S z) := by
  refine hw_M.of (by decide) (Nat.le_of_ble_eq_true rfl) ?_
  intro X fr hl hR G hr hnm
  have hM0 := hM
  obtain ⟨⟨hs1, hs2⟩, ⟨ht1, ht2⟩, hd, hlen, hus, hof, hwh, hpa, hkk⟩ := hM
  have H : ∀ (f : Nat) (x : Int32), f ≤ nt → (x = -1 ∨ ∃ p, p < f ∧ x = nI p) → md_gr S f x = md_g S t → hw_V X B fr nb S z 0 0 (hw_MQ X B fr (hw_p (.inl (some (.int (md_g S t)))) nb S z) 0 0) 3 7 [(0, .ref (hw_a B 20 0)), (2, .int x)] [] := by
    intro f
    induction f with
    | zero =>
      rintro x hf (rfl | ⟨p, hp, -⟩) hR0
      · skip
        refine hr_iload_n G dM_grant_7 rfl rfl ?_
        refine hr_if_lt (tgt := 31) G dM_grant_8 (by decide) (fun _ => ?_) (fun h => absurd (by decide) h)
        refine hr_iload_n G dM_grant_31 rfl rfl ?_
        exact hr_iret G hr (fun _ h => h) dM_grant_32 ⟨by rw [← hR0, md_gr_n], rfl, rfl, rfl⟩
      · omega
    | succ f ih =>
      rintro x hf (rfl | ⟨p, hp, rfl⟩) hR0
      · skip
        refine hr_iload_n G dM_grant_7 rfl rfl ?_
        refine hr_if_lt (tgt := 31) G dM_grant_8 (by decide) (fun _ => ?_) (fun h => absurd (by decide) h)
        refine hr_iload_n G dM_grant_31 rfl rfl ?_
        exact hr_iret G hr (fun _ h => h) dM_grant_32 ⟨by rw [← hR0, md_gr_n], rfl, rfl, rfl⟩
      · rw [md_gr_y S f p (by omega)] at hR0
        refine hr_iload_n G dM_grant_7 rfl rfl ?_
        refine hr_if_lt (tgt := 31) G dM_grant_8 (by decide) (fun h => absurd h (nI_pos (by omega))) (fun _ => ?_)
        refine hr_aload_n G dM_grant_11 rfl rfl ?_
        refine hr_get (v := .ref (hw_a B 35 0)) G fM_53 (hA.lt (show 0 < hw_n0 20 by decide)) (hw_rfx hF (by decide) rfl (by decide)) dM_grant_12 ?_
        refine hr_iload_n G dM_grant_15 rfl rfl ?_
        refine hr_iald (n := p) (v := .int (S 35 0 p)) G rfl (by decide) rfl (hA.lt (show 0 < hw_n0 35 by decide)) rfl (show p < 150 by omega) rfl dM_grant_16 ?_
        refine hr_iconst (v := 2) G dM_grant_17 (by decide) ?_
        refine hr_icmp_eq (tgt := 31) G dM_grant_18 (by decide) (fun h18 => ?_) (fun h18 => ?_)
        · skip
          refine hr_iload_n G dM_grant_31 rfl rfl ?_
          exact hr_iret G hr (fun _ h => h) dM_grant_32 ⟨by rw [← hR0, if_pos h18], rfl, rfl, rfl⟩
        · skip
          refine hr_aload_n G dM_grant_21 rfl rfl ?_
          refine hr_get (v := .ref (hw_a B 40 0)) G fM_68 (hA.lt (show 0 < hw_n0 20 by decide)) (hw_rfx hF (by decide) rfl (by decide)) dM_grant_22 ?_
          refine hr_iload_n G dM_grant_25 rfl rfl ?_
          refine hr_iald (n := p) (v := .int (S 40 0 p)) G rfl (by decide) rfl (hA.lt (show 0 < hw_n0 40 by decide)) rfl (show p < 150 by omega) rfl dM_grant_26 ?_
          refine hr_istore_n (i := 2) G dM_grant_27 rfl (by decide) ?_
          refine hr_goto (tgt := 7) G dM_grant_28 (by decide) ?_
          refine hr_L (L' := [(0, .ref (hw_a B 20 0)), (2, .int (S 40 0 p))]) (hw_s1 rfl (hw_s1 rfl (hw_s0))) ?_
          exact ih (S 40 0 p) (by omega) ((hpa p (by omega)).imp id fun ⟨r, h1, h2⟩ => ⟨r, by omega, h2⟩) (by rw [← hR0, if_neg h18])
  refine hr_aload_n G dM_grant_0 rfl rfl ?_
  refine hr_get (v := .ref (hw_a B 40 0)) G fM_68 (hA.lt (show 0 < hw_n0 20 by decide)) (hw_rfx hF (by decide) rfl (by decide)) dM_grant_1 ?_
  refine hr_iload_n G dM_grant_4 rfl rfl ?_
  refine hr_iald (n := t) (v := .int (S 40 0 t)) G rfl (by decide) rfl (hA.lt (show 0 < hw_n0 40 by decide)) rfl (show t < 150 by omega) rfl dM_grant_5 ?_
  refine hr_istore_n (i := 2) G dM_grant_6 rfl (by decide) ?_
  refine hr_L (L' := [(0, .ref (hw_a B 20 0)), (2, .int (S 40 0 t))]) (hw_s1 rfl (hw_s1 rfl (hw_s0))) ?_
  exact H t (S 40 0 t) (by omega) (hpa t ht) rfl
