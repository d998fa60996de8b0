/-! C is read at the class's slots, R at the reference's. -/
def rA (C R : hw_St) : Prop := (∀ w, w < 6 → R 28 0 w = C 6 0 w) ∧ R 20 0 3 = C 4 16 1 ∧ (∀ c, 1 ≤ c → c < 6 → R 29 0 c = md_nt (C 7 0 c)) ∧ R 20 0 1 = C 0 0 11
def rG (C : hw_St) : Prop := ∀ w, w < 6 → ∃ f, f < 64 ∧ C 6 0 w = nI f
def rU1 (C R : hw_St) (u : Nat) : Prop := R 24 0 u = C 2 u 2 ∧ R 25 0 u = C 2 u 3 ∧ md_cnt R u = C 2 u 4 ∧ (C 2 u 4 = 3 → R 27 0 u = C 2 u 5)
def rU (C R : hw_St) : Prop := ∀ u, u < 4 → rU1 C R u
def rB (t : Nat) (R : hw_St) : Prop := ∃ c, c ≤ 200 * t ∧ R 20 0 1 = nI c ∧ ∀ u, u < 4 → ∃ w, w ≤ c ∧ R 27 0 u = nI w
def rS1 (C R : hw_St) (i : Nat) : Prop := R 30 0 i = C 9 i 1 ∧ R 31 0 i = C 9 i 2 ∧ R 32 0 i = C 9 i 4 ∧ R 33 0 i = C 9 i 3 ∧ R 34 0 i = md_nt (C 9 i 5)
def rS (n : Nat) (C R : hw_St) : Prop := ∀ i, i < n → rS1 C R i
def rT1 (C R : hw_St) (i : Nat) : Prop := R 35 0 i = C 11 i 1 ∧ R 36 0 i = C 11 i 2 ∧ R 37 0 i = C 11 i 3 ∧ R 38 0 i = C 11 i 4 ∧ R 39 0 i = C 11 i 7 ∧ R 40 0 i = C 11 i 5 ∧ R 41 0 i = C 11 i 8
def rT (n : Nat) (C R : hw_St) : Prop := ∀ i, i < n → rT1 C R i
def rM (C R : hw_St) : Prop := ∃ m, m ≤ 150 ∧ C 0 0 10 = nI m ∧ R 20 0 26 = nI m ∧ ∀ i, i < m → R 42 0 i = C 12 0 i
def rN (nb : Nat → Nat) (R : hw_St) : Prop := R 20 0 12 = nI (nb 9) ∧ R 20 0 18 = nI (nb 11)
/-- how many grants stand in a ticket's chain -/
def rK (n : Nat) (C R : hw_St) : Prop := ∀ i, i < n → C 11 i 6 = md_l0 R i + (if R 40 0 i < 0 then 0 else C 11 (R 40 0 i).toNatClampNeg 6)
def rl (t : Nat) (nb : Nat → Nat) (C R : hw_St) : Prop := rA C R ∧ rG C ∧ rU C R ∧ rB t R ∧ rS (nb 9) C R ∧ rT (nb 11) C R ∧ rM C R ∧ rN nb R ∧ rK (nb 11) C R
theorem rA_cg {C C' R R' : hw_St} (h : rA C R) (h1 : ∀ w, R' 28 0 w = R 28 0 w) (h2 : ∀ w, C' 6 0 w = C 6 0 w) (h3 : R' 20 0 3 = R 20 0 3) (h4 : C' 4 16 1 = C 4 16 1) (h5 : ∀ c, R' 29 0 c = R 29 0 c) (h6 : ∀ c, C' 7 0 c = C 7 0 c) (h7 : R' 20 0 1 = R 20 0 1) (h8 : C' 0 0 11 = C 0 0 11) : rA C' R' := by
  obtain ⟨a, b, c, d⟩ := h
  exact ⟨fun w hw => by rw [h1, h2]; exact a w hw, by rw [h3, h4]; exact b, fun x y z => by rw [h5, h6]; exact c x y z, by rw [h7, h8]; exact d⟩
theorem rG_cg {C C' : hw_St} (h : rG C) (h2 : ∀ w, C' 6 0 w = C 6 0 w) : rG C' := fun w hw => by rw [h2]; exact h w hw
theorem md_cnt_d (S : hw_St) (u : Nat) : md_cnt S u = if S 26 0 u = 3 then (if S 20 0 1 - S 27 0 u ≤ 20 then S 26 0 u else 0) else S 26 0 u := rfl
theorem md_cnt_cg {R R' : hw_St} {u : Nat} (h1 : R' 26 0 u = R 26 0 u) (h2 : R' 27 0 u = R 27 0 u) (h3 : R' 20 0 1 = R 20 0 1) : md_cnt R' u = md_cnt R u := by
  unfold md_cnt; rw [h1, h2, h3]
theorem rU1_cg {C C' R R' : hw_St} {u : Nat} (h : rU1 C R u) (h1 : ∀ j, C' 2 u j = C 2 u j) (h2 : R' 24 0 u = R 24 0 u ∧ R' 25 0 u = R 25 0 u ∧ R' 26 0 u = R 26 0 u ∧ R' 27 0 u = R 27 0 u) (h3 : R' 20 0 1 = R 20 0 1) : rU1 C' R' u := by
  unfold rU1
  rw [h1, h1, h1, h1, h2.1, h2.2.1, h2.2.2.2, md_cnt_cg h2.2.2.1 h2.2.2.2 h3]
  exact h
theorem rU_cg {C C' R R' : hw_St} (h : rU C R) (h1 : ∀ u j, C' 2 u j = C 2 u j) (h2 : ∀ u, R' 24 0 u = R 24 0 u ∧ R' 25 0 u = R 25 0 u ∧ R' 26 0 u = R 26 0 u ∧ R' 27 0 u = R 27 0 u) (h3 : R' 20 0 1 = R 20 0 1) : rU C' R' := fun u hu => rU1_cg (h u hu) (h1 u) (h2 u) h3
theorem rB_cg {t t' : Nat} {R R' : hw_St} (h : rB t R) (ht : t ≤ t') (h1 : R' 20 0 1 = R 20 0 1) (h2 : ∀ u, R' 27 0 u = R 27 0 u) : rB t' R' := by
  obtain ⟨c, a, b, d⟩ := h
  exact ⟨c, by omega, by rw [h1]; exact b, fun u hu => by rw [h2]; exact d u hu⟩
theorem rS1_cg {C C' R R' : hw_St} {i : Nat} (h : rS1 C R i) (h1 : ∀ j, C' 9 i j = C 9 i j) (h2 : R' 30 0 i = R 30 0 i ∧ R' 31 0 i = R 31 0 i ∧ R' 32 0 i = R 32 0 i ∧ R' 33 0 i = R 33 0 i ∧ R' 34 0 i = R 34 0 i) : rS1 C' R' i := by
  unfold rS1
  rw [h1, h1, h1, h1, h1, h2.1, h2.2.1, h2.2.2.1, h2.2.2.2.1, h2.2.2.2.2]
  exact h
theorem rS_cg {n : Nat} {C C' R R' : hw_St} (h : rS n C R) (h1 : ∀ i j, C' 9 i j = C 9 i j) (h2 : ∀ i, R' 30 0 i = R 30 0 i ∧ R' 31 0 i = R 31 0 i ∧ R' 32 0 i = R 32 0 i ∧ R' 33 0 i = R 33 0 i ∧ R' 34 0 i = R 34 0 i) : rS n C' R' := fun i hi => rS1_cg (h i hi) (h1 i) (h2 i)
theorem rT1_cg {C C' R R' : hw_St} {i : Nat} (h : rT1 C R i) (h1 : ∀ j, C' 11 i j = C 11 i j) (h2 : R' 35 0 i = R 35 0 i ∧ R' 36 0 i = R 36 0 i ∧ R' 37 0 i = R 37 0 i ∧ R' 38 0 i = R 38 0 i ∧ R' 39 0 i = R 39 0 i ∧ R' 40 0 i = R 40 0 i ∧ R' 41 0 i = R 41 0 i) : rT1 C' R' i := by
  unfold rT1
  rw [h1, h1, h1, h1, h1, h1, h1, h2.1, h2.2.1, h2.2.2.1, h2.2.2.2.1, h2.2.2.2.2.1, h2.2.2.2.2.2.1, h2.2.2.2.2.2.2]
  exact h
theorem rT_cg {n : Nat} {C C' R R' : hw_St} (h : rT n C R) (h1 : ∀ i j, C' 11 i j = C 11 i j) (h2 : ∀ i, R' 35 0 i = R 35 0 i ∧ R' 36 0 i = R 36 0 i ∧ R' 37 0 i = R 37 0 i ∧ R' 38 0 i = R 38 0 i ∧ R' 39 0 i = R 39 0 i ∧ R' 40 0 i = R 40 0 i ∧ R' 41 0 i = R 41 0 i) : rT n C' R' := fun i hi => rT1_cg (h i hi) (h1 i) (h2 i)
theorem rM_cg {C C' R R' : hw_St} (h : rM C R) (h1 : C' 0 0 10 = C 0 0 10) (h2 : ∀ i, C' 12 0 i = C 12 0 i) (h3 : R' 20 0 26 = R 20 0 26) (h4 : ∀ i, R' 42 0 i = R 42 0 i) : rM C' R' := by
  obtain ⟨m, hm, a, b, c⟩ := h
  exact ⟨m, hm, by rw [h1]; exact a, by rw [h3]; exact b, fun i hi => by rw [h2, h4]; exact c i hi⟩
theorem rN_cg {nb : Nat → Nat} {R R' : hw_St} (h : rN nb R) (h1 : R' 20 0 12 = R 20 0 12) (h2 : R' 20 0 18 = R 20 0 18) : rN nb R' := by
  unfold rN; rw [h1, h2]; exact h
theorem rK_cg {n : Nat} {C C' R R' : hw_St} (h : rK n C R) (h1 : ∀ i, C' 11 i 6 = C 11 i 6) (h2 : ∀ i, R' 35 0 i = R 35 0 i ∧ R' 40 0 i = R 40 0 i) : rK n C' R' := fun i hi => by
  have q := h i hi
  unfold md_l0 at q ⊢
  rw [(h2 i).1, (h2 i).2, h1, h1]
  exact q
/-- slots that the relation reads -/
def uc (k i j : Nat) : Prop := k = 0 ∨ k = 2 ∨ (k = 4 ∧ i = 16) ∨ k = 6 ∨ k = 7 ∨ k = 9 ∨ k = 11 ∨ k = 12
def ur (k i j : Nat) : Prop := (k = 20 ∧ ¬ j = 0 ∧ ¬ j = 29) ∨ (24 ≤ k ∧ k ≤ 42)
theorem rl_cg {t t' : Nat} {nb : Nat → Nat} {C C' R R' : hw_St} (h : rl t nb C R) (ht : t ≤ t') (hC : ∀ k i j, uc k i j → C' k i j = C k i j) (hR : ∀ k i j, ur k i j → R' k i j = R k i j) : rl t' nb C' R' := by
  obtain ⟨a, g, u, b, s, q, m, n, hk⟩ := h
  exact ⟨rA_cg a (fun w => hR 28 0 w (by unfold ur; omega)) (fun w => hC 6 0 w (by unfold uc; omega)) (hR 20 0 3 (by unfold ur; omega)) (hC 4 16 1 (by unfold uc; omega)) (fun w => hR 29 0 w (by unfold ur; omega)) (fun w => hC 7 0 w (by unfold uc; omega)) (hR 20 0 1 (by unfold ur; omega)) (hC 0 0 11 (by unfold uc; omega)), rG_cg g (fun w => hC 6 0 w (by unfold uc; omega)),
    rU_cg u (fun u j => hC 2 u j (by unfold uc; omega)) (fun u => ⟨hR 24 0 u (by unfold ur; omega), hR 25 0 u (by unfold ur; omega), hR 26 0 u (by unfold ur; omega), hR 27 0 u (by unfold ur; omega)⟩) (hR 20 0 1 (by unfold ur; omega)), rB_cg b ht (hR 20 0 1 (by unfold ur; omega)) (fun u => hR 27 0 u (by unfold ur; omega)),
    rS_cg s (fun i j => hC 9 i j (by unfold uc; omega)) (fun i => ⟨hR 30 0 i (by unfold ur; omega), hR 31 0 i (by unfold ur; omega), hR 32 0 i (by unfold ur; omega), hR 33 0 i (by unfold ur; omega), hR 34 0 i (by unfold ur; omega)⟩),
    rT_cg q (fun i j => hC 11 i j (by unfold uc; omega)) (fun i => ⟨hR 35 0 i (by unfold ur; omega), hR 36 0 i (by unfold ur; omega), hR 37 0 i (by unfold ur; omega), hR 38 0 i (by unfold ur; omega), hR 39 0 i (by unfold ur; omega), hR 40 0 i (by unfold ur; omega), hR 41 0 i (by unfold ur; omega)⟩),
    rM_cg m (hC 0 0 10 (by unfold uc; omega)) (fun i => hC 12 0 i (by unfold uc; omega)) (hR 20 0 26 (by unfold ur; omega)) (fun i => hR 42 0 i (by unfold ur; omega)), rN_cg n (hR 20 0 12 (by unfold ur; omega)) (hR 20 0 18 (by unfold ur; omega)), rK_cg hk (fun i => hC 11 i 6 (by unfold uc; omega)) (fun i => ⟨hR 35 0 i (by unfold ur; omega), hR 40 0 i (by unfold ur; omega)⟩)⟩
/-- the same questions get the same answers -/
theorem fl_bits : ∀ f, f < 64 → ((nI f &&& 1 = 0) ↔ ¬ (nI f - nI f / 2 * 2 = 1)) ∧ ((nI f &&& 2 = 0) ↔ ¬ (nI f / 2 - nI f / 2 / 2 * 2 = 1)) ∧ ((nI f &&& 4 = 0) ↔ ¬ (nI f / 4 - nI f / 4 / 2 * 2 = 1)) := by decide +kernel
theorem en_eq {C R : hw_St} (a : rA C R) (g : rG C) (v : Int32) : hs_en C v = md_en R v := by
  rcases ib_rng v 6 (by decide) with ⟨w, hw, rfl⟩ | hv
  · rw [hs_en_y hw, md_en_y hw]
    obtain ⟨f, hf, e⟩ := g w hw
    unfold hs_fl md_fl
    rw [a.1 w hw, e]
    by_cases q : nI f &&& 1 = 0
    · rw [if_pos q, if_neg ((fl_bits f hf).1.mp q)]
    · rw [if_neg q, if_pos (Decidable.not_not.mp (mt (fl_bits f hf).1.mpr q))]
  · unfold hs_en md_en
    rw [if_pos (show v < 0 ∨ 6 ≤ v from hv), if_pos (show v < 0 ∨ 6 ≤ v from hv)]
theorem fl2_eq {C R : hw_St} (a : rA C R) (g : rG C) {w : Nat} (hw : w < 6) : hs_fl C w 2 = 0 ↔ ¬ (R 28 0 w / 2 - R 28 0 w / 2 / 2 * 2 = 1) := by
  obtain ⟨f, hf, e⟩ := g w hw
  unfold hs_fl
  rw [a.1 w hw, e, ← (fl_bits f hf).2.1]
  split
  · exact ⟨fun _ => by assumption, fun _ => rfl⟩
  · exact ⟨fun q => absurd q (by decide), fun q => absurd q (by assumption)⟩
theorem fl4_eq {C R : hw_St} (a : rA C R) (g : rG C) {w : Nat} (hw : w < 6) : hs_fl C w 4 = 0 ↔ ¬ (R 28 0 w / 4 - R 28 0 w / 4 / 2 * 2 = 1) := by
  obtain ⟨f, hf, e⟩ := g w hw
  unfold hs_fl
  rw [a.1 w hw, e, ← (fl_bits f hf).2.2]
  split
  · exact ⟨fun _ => by assumption, fun _ => rfl⟩
  · exact ⟨fun q => absurd q (by decide), fun q => absurd q (by assumption)⟩
theorem md_nt_0 {x : Int32} (h : ib_b x) : md_nt x = 0 ↔ ¬ x = 0 := by
  rcases h with rfl | rfl <;> decide
theorem good_eq {C R : hw_St} {i s : Nat} (a : rA C R) (q : rT1 C R i) (r : rS1 C R s) (hb : ib_b (C 9 s 5)) : tk_good C i s (C 0 0 11) = md_good R i s := by
  unfold tk_good md_good
  obtain ⟨e1, -, -, e4, -, -, e7⟩ := q
  rw [e1, e4, e7, r.2.2.2.2, a.2.2.2]
  by_cases h : C 9 s 5 = 0
  · rw [if_pos h, if_neg (fun w => absurd h ((md_nt_0 hb).mp w))]
  · rw [if_neg h, if_pos ((md_nt_0 hb).mpr h)]
theorem h8_bits : ∀ j, j < 8 → ((nI j &&& 1 = 0) ↔ ¬ (nI j - nI j / 2 * 2 = 1)) ∧ ((nI j &&& 2 = 0) ↔ (nI j / 2 - nI j / 2 / 2 * 2 = 0)) := by decide +kernel
theorem judge_eq {C R : hw_St} {i s : Nat} (a : rA C R) (q : rT1 C R i) (r : rS1 C R s) (hb : ib_b (C 9 s 5)) (x : Int32) {j : Nat} (hj : j < 8) : tk_judge C i s x (nI j) (C 0 0 11) = md_j R i s x (nI j) := by
  have hg := good_eq a q r hb
  unfold tk_judge md_j
  have hr : tk_jrest C i s x (nI j) (C 0 0 11) = md_jr R i s x (nI j) := by
    unfold tk_jrest md_jr
    rw [hg, q.2.2.1, q.2.2.2.2.1]
    by_cases h1 : nI j &&& 1 = 0
    · rw [if_pos h1, if_neg ((h8_bits j hj).1.mp h1)]
    · rw [if_neg h1, if_pos (Decidable.not_not.mp (mt (h8_bits j hj).1.mpr h1))]
  rw [hr, q.1]
  by_cases h2 : nI j &&& 2 = 0
  · rw [if_pos h2, if_pos ((h8_bits j hj).2.mp h2)]
  · rw [if_neg h2, if_neg (mt (h8_bits j hj).2.mpr h2)]
/-! Joint steps. -/
theorem rl_used {t : Nat} {nb : Nat → Nat} {C R : hw_St} (h : rl t nb C R) (s : Nat) : rl t nb (hw_sv C 9 s 4 (C 0 0 11)) (hw_sv R 32 0 s (R 20 0 1)) := by
  obtain ⟨a, g, u, b, se, q, m, n, hk⟩ := h
  refine ⟨rA_cg a (fun _ => rfl) (fun _ => rfl) rfl rfl (fun _ => rfl) (fun _ => rfl) rfl rfl, rG_cg g (fun _ => rfl), rU_cg u (fun _ _ => rfl) (fun _ => ⟨rfl, rfl, rfl, rfl⟩) rfl, rB_cg b (Nat.le_refl _) rfl (fun _ => rfl), fun i hi => ?_, rT_cg q (fun _ _ => rfl) (fun _ => ⟨rfl, rfl, rfl, rfl, rfl, rfl, rfl⟩), rM_cg m rfl (fun _ => rfl) rfl (fun _ => rfl), rN_cg n rfl rfl, rK_cg hk (fun _ => rfl) (fun _ => ⟨rfl, rfl⟩)⟩
  obtain ⟨e1, e2, e3, e4, e5⟩ := se i hi
  by_cases e : i = s
  · subst e
    exact ⟨by simp [hw_sv]; exact e1, by simp [hw_sv]; exact e2, by simp [hw_sv]; exact a.2.2.2, by simp [hw_sv]; exact e4, by simp [hw_sv]; exact e5⟩
  · exact ⟨by simp [hw_sv, e]; exact e1, by simp [hw_sv, e]; exact e2, by simp [hw_sv, e]; exact e3, by simp [hw_sv, e]; exact e4, by simp [hw_sv, e]; exact e5⟩
theorem hw_sv_j {S : hw_St} {k i j k' i' j' : Nat} {x : Int32} (h : ¬ j' = j) : hw_sv S k i j x k' i' j' = S k' i' j' := by
  unfold hw_sv; rw [if_neg (fun q => h q.2.2)]
theorem rl_spent {t : Nat} {nb : Nat → Nat} {C R : hw_St} (h : rl t nb C R) (s : Nat) : rl t nb (hw_sv C 11 s 8 1) (hw_sv R 41 0 s 1) := by
  obtain ⟨a, g, u, b, se, q, m, n, hk⟩ := h
  refine ⟨rA_cg a (fun _ => rfl) (fun _ => rfl) rfl rfl (fun _ => rfl) (fun _ => rfl) rfl rfl, rG_cg g (fun _ => rfl), rU_cg u (fun _ _ => rfl) (fun _ => ⟨rfl, rfl, rfl, rfl⟩) rfl, rB_cg b (Nat.le_refl _) rfl (fun _ => rfl), rS_cg se (fun _ _ => rfl) (fun _ => ⟨rfl, rfl, rfl, rfl, rfl⟩), fun i hi => ?_, rM_cg m rfl (fun _ => rfl) rfl (fun _ => rfl), rN_cg n rfl rfl, rK_cg hk (fun _ => hw_sv_j (by decide)) (fun _ => ⟨rfl, rfl⟩)⟩
  obtain ⟨e1, e2, e3, e4, e5, e6, e7⟩ := q i hi
  by_cases e : i = s
  · subst e
    exact ⟨by simp [hw_sv]; exact e1, by simp [hw_sv]; exact e2, by simp [hw_sv]; exact e3, by simp [hw_sv]; exact e4, by simp [hw_sv]; exact e5, by simp [hw_sv]; exact e6, by simp [hw_sv]⟩
  · exact ⟨by simp [hw_sv, e]; exact e1, by simp [hw_sv, e]; exact e2, by simp [hw_sv, e]; exact e3, by simp [hw_sv, e]; exact e4, by simp [hw_sv, e]; exact e5, by simp [hw_sv, e]; exact e6, by simp [hw_sv, e]; exact e7⟩
theorem rl_pass {t : Nat} {nb : Nat → Nat} {C R : hw_St} (h : rl t nb C R) (v : Nat) (y : Int32) : rl t nb (hw_sv (hw_sv (hw_sv C 2 v 3 y) 2 v 2 1) 2 v 4 0) (hw_sv (hw_sv (hw_sv R 24 0 v 1) 25 0 v y) 26 0 v 0) := by
  obtain ⟨a, g, u, b, se, q, m, n, hk⟩ := h
  refine ⟨rA_cg a (fun _ => rfl) (fun _ => rfl) rfl rfl (fun _ => rfl) (fun _ => rfl) rfl rfl, rG_cg g (fun _ => rfl), fun i hi => ?_, rB_cg b (Nat.le_refl _) rfl (fun _ => rfl), rS_cg se (fun _ _ => rfl) (fun _ => ⟨rfl, rfl, rfl, rfl, rfl⟩), rT_cg q (fun _ _ => rfl) (fun _ => ⟨rfl, rfl, rfl, rfl, rfl, rfl, rfl⟩), rM_cg m rfl (fun _ => rfl) rfl (fun _ => rfl), rN_cg n rfl rfl, rK_cg hk (fun _ => rfl) (fun _ => ⟨rfl, rfl⟩)⟩
  by_cases e : i = v
  · subst e
    refine ⟨by simp [hw_sv], by simp [hw_sv], ?_, fun w => ?_⟩
    · unfold md_cnt
      rw [if_neg (by simp [hw_sv])]
      simp [hw_sv]
    · simp [hw_sv] at w
  · refine rU1_cg (u i hi) (fun j => by simp [hw_sv, e]) ⟨by simp [hw_sv, e], by simp [hw_sv, e], by simp [hw_sv, e], rfl⟩ rfl
theorem rl_fail {t : Nat} {nb : Nat → Nat} {C R : hw_St} (h : rl t nb C R) {v : Nat} (hv : v < 4) : rl t nb (hw_sv (hw_sv C 2 v 4 (C 2 v 4 + 1)) 2 v 5 (C 0 0 11)) (hw_sv (hw_sv R 26 0 v (md_cnt R v + 1)) 27 0 v (R 20 0 1)) := by
  obtain ⟨a, g, u, b, se, q, m, n, hk⟩ := h
  refine ⟨rA_cg a (fun _ => rfl) (fun _ => rfl) rfl rfl (fun _ => rfl) (fun _ => rfl) rfl rfl, rG_cg g (fun _ => rfl), fun i hi => ?_, ?_, rS_cg se (fun _ _ => rfl) (fun _ => ⟨rfl, rfl, rfl, rfl, rfl⟩), rT_cg q (fun _ _ => rfl) (fun _ => ⟨rfl, rfl, rfl, rfl, rfl, rfl, rfl⟩), rM_cg m rfl (fun _ => rfl) rfl (fun _ => rfl), rN_cg n rfl rfl, rK_cg hk (fun _ => rfl) (fun _ => ⟨rfl, rfl⟩)⟩
  · by_cases e : i = v
    · subst e
      obtain ⟨e1, e2, e3, e4⟩ := u i hi
      refine ⟨by simp [hw_sv]; exact e1, by simp [hw_sv]; exact e2, ?_, fun w => by simp [hw_sv]; exact a.2.2.2⟩
      have x1 : hw_sv (hw_sv R 26 0 i (md_cnt R i + 1)) 27 0 i (R 20 0 1) 26 0 i = md_cnt R i + 1 := by simp [hw_sv]
      have x2 : hw_sv (hw_sv R 26 0 i (md_cnt R i + 1)) 27 0 i (R 20 0 1) 27 0 i = R 20 0 1 := by simp [hw_sv]
      have x3 : hw_sv (hw_sv R 26 0 i (md_cnt R i + 1)) 27 0 i (R 20 0 1) 20 0 1 = R 20 0 1 := rfl
      have x4 : hw_sv (hw_sv C 2 i 4 (C 2 i 4 + 1)) 2 i 5 (C 0 0 11) 2 i 4 = C 2 i 4 + 1 := by simp [hw_sv]
      have x5 : R 20 0 1 - R 20 0 1 = 0 := Int32.sub_self _
      rw [md_cnt_d (hw_sv (hw_sv R 26 0 i (md_cnt R i + 1)) 27 0 i (R 20 0 1)) i, x1, x2, x3, x4, x5, if_pos (show (0 : Int32) ≤ 20 by decide), ite_self, e3]
    · exact rU1_cg (u i hi) (fun j => by simp [hw_sv, e]) ⟨rfl, rfl, by simp [hw_sv, e], by simp [hw_sv, e]⟩ rfl
  · obtain ⟨c, h1, h2, h3⟩ := b
    refine ⟨c, h1, h2, fun i hi => ?_⟩
    by_cases e : i = v
    · subst e
      exact ⟨c, Nat.le_refl _, by simp [hw_sv]; exact h2⟩
    · rw [show hw_sv (hw_sv R 26 0 v (md_cnt R v + 1)) 27 0 v (R 20 0 1) 27 0 i = R 27 0 i by simp [hw_sv, e]]; exact h3 i hi
theorem rl_opn {t : Nat} {nb : Nat → Nat} {C R : hw_St} (h : rl t nb C R) (v : Nat) (r : Int32) : rl t (hw_nb nb 9) (hs_opn (hw_sv C 2 v 4 0) (nb 9) v r) (md_opn R (nb 9) v r) := by
  obtain ⟨a, g, u, b, se, q, m, n, hk⟩ := h
  refine ⟨rA_cg a (fun _ => rfl) (fun _ => rfl) rfl rfl (fun _ => rfl) (fun _ => rfl) rfl rfl, rG_cg g (fun _ => rfl), fun i hi => ?_, rB_cg b (Nat.le_refl _) rfl (fun _ => rfl), fun i hi => ?_, rT_cg q (fun _ _ => rfl) (fun _ => ⟨rfl, rfl, rfl, rfl, rfl, rfl, rfl⟩), rM_cg m rfl (fun _ => rfl) rfl (fun _ => rfl), ⟨?_, n.2⟩, rK_cg hk (fun _ => rfl) (fun _ => ⟨rfl, rfl⟩)⟩
  · by_cases e : i = v
    · subst e
      obtain ⟨e1, e2, e3, e4⟩ := u i hi
      refine ⟨by simp [hs_opn, se_new, hw_nw, md_opn, hw_sv]; exact e1, by simp [hs_opn, se_new, hw_nw, md_opn, hw_sv]; exact e2, ?_, fun w => ?_⟩
      · unfold md_cnt
        rw [if_neg (by simp [md_opn, hw_sv])]
        simp [hs_opn, se_new, hw_nw, md_opn, hw_sv]
      · simp [hs_opn, se_new, hw_nw, hw_sv] at w
    · exact rU1_cg (u i hi) (fun j => by simp [hs_opn, se_new, hw_nw, hw_sv, e]) ⟨rfl, rfl, by simp [md_opn, hw_sv, e], rfl⟩ rfl
  · have hi : i < nb 9 + 1 := hi
    by_cases e : i = nb 9
    · subst e
      exact ⟨by simp [hs_opn, se_new, hw_nw, md_opn, hw_sv], by simp [hs_opn, se_new, hw_nw, md_opn, hw_sv]; exact a.2.2.2, by simp [hs_opn, se_new, hw_nw, md_opn, hw_sv]; exact a.2.2.2, by simp [hs_opn, se_new, hw_nw, md_opn, hw_sv], by simp [hs_opn, se_new, hw_nw, md_opn, hw_sv, md_nt]⟩
    · exact rS1_cg (se i (by omega)) (fun j => by simp [hs_opn, se_new, hw_nw, hw_sv, e]) ⟨by simp [md_opn, hw_sv, e], by simp [md_opn, hw_sv, e], by simp [md_opn, hw_sv, e], by simp [md_opn, hw_sv, e], by simp [md_opn, hw_sv, e]⟩
  · show R 20 0 12 + 1 = nI (nb 9 + 1)
    rw [n.1, nI_succ]
theorem rl_giv {t : Nat} {nb : Nat → Nat} {C R : hw_St} (h : rl t nb C R) (hI : ic nb C) (k : Int32) (s : Nat) (w f c : Int32) (hf : f = -1 ∨ ∃ p, p < nb 11 ∧ f = nI p) (hc : c = (if k = 2 then (1 : Int32) else 0) + (if f < 0 then 0 else C 11 f.toNatClampNeg 6)) : rl t (hw_nb nb 11) (hs_giv C (nb 11) k s w f c) (md_giv R (nb 11) k (nI s) w 0 f) := by
  obtain ⟨a, g, u, b, se, q, m, n, hk⟩ := h
  refine ⟨rA_cg a (fun _ => rfl) (fun _ => rfl) rfl rfl (fun _ => rfl) (fun _ => rfl) rfl rfl, rG_cg g (fun _ => rfl), rU_cg u (fun _ _ => rfl) (fun _ => ⟨rfl, rfl, rfl, rfl⟩) rfl, rB_cg b (Nat.le_refl _) rfl (fun _ => rfl), rS_cg se (fun _ _ => rfl) (fun _ => ⟨rfl, rfl, rfl, rfl, rfl⟩), fun i hi => ?_, rM_cg m rfl (fun _ => rfl) rfl (fun _ => rfl), ⟨n.1, ?_⟩, fun i hi => ?_⟩
  · have hi : i < nb 11 + 1 := hi
    by_cases e : i = nb 11
    · subst e
      exact ⟨by simp [hs_giv, tk_new, hw_nw, md_giv, hw_sv], by simp [hs_giv, tk_new, hw_nw, md_giv, hw_sv], by simp [hs_giv, tk_new, hw_nw, md_giv, hw_sv], by simp [hs_giv, tk_new, hw_nw, md_giv, hw_sv]; exact a.2.2.2, by simp [hs_giv, tk_new, hw_nw, md_giv, hw_sv]; rfl, by simp [hs_giv, tk_new, hw_nw, md_giv, hw_sv], by simp [hs_giv, tk_new, hw_nw, md_giv, hw_sv]; rfl⟩
    · exact rT1_cg (q i (by omega)) (fun j => by simp [hs_giv, tk_new, hw_nw, hw_sv, e]) ⟨by simp [md_giv, hw_sv, e], by simp [md_giv, hw_sv, e], by simp [md_giv, hw_sv, e], by simp [md_giv, hw_sv, e], by simp [md_giv, hw_sv, e], by simp [md_giv, hw_sv, e], by simp [md_giv, hw_sv, e]⟩
  · show R 20 0 18 + 1 = nI (nb 11 + 1)
    rw [n.2, nI_succ]
  · have hi : i < nb 11 + 1 := hi
    have h11 := hI.2.2.2.1.1
    have cC : ∀ p, p < nb 11 → (hs_giv C (nb 11) k s w f c) 11 p 6 = C 11 p 6 := fun p hp => by
      have e : ¬ p = nb 11 := by omega
      simp [hs_giv, tk_new, hw_nw, hw_sv, e]
    by_cases e : i = nb 11
    · subst e
      have x1 : (hs_giv C (nb 11) k s w f c) 11 (nb 11) 6 = c := by simp [hs_giv, tk_new, hw_nw, hw_sv]
      have x2 : md_l0 (md_giv R (nb 11) k (nI s) w 0 f) (nb 11) = if k = 2 then (1 : Int32) else 0 := by
        unfold md_l0
        rw [show (md_giv R (nb 11) k (nI s) w 0 f) 35 0 (nb 11) = k by simp [md_giv, hw_sv]]
      have x3 : (md_giv R (nb 11) k (nI s) w 0 f) 40 0 (nb 11) = f := by simp [md_giv, hw_sv]
      rw [x1, x2, x3]
      rcases hf with rfl | ⟨p, hp, rfl⟩
      · rw [if_pos (show (-1 : Int32) < 0 by decide)] at hc ⊢; exact hc
      · rw [nI_clamp (by omega)] at hc
        rw [nI_clamp (by omega), cC p hp]; exact hc
    · have q6 := hk i (by omega)
      have x2 : md_l0 (md_giv R (nb 11) k (nI s) w 0 f) i = md_l0 R i := by
        unfold md_l0
        rw [show (md_giv R (nb 11) k (nI s) w 0 f) 35 0 i = R 35 0 i by simp [md_giv, hw_sv, e]]
      have x3 : (md_giv R (nb 11) k (nI s) w 0 f) 40 0 i = R 40 0 i := by simp [md_giv, hw_sv, e]
      rw [cC i (by omega), x2, x3, q6]
      have x5 : R 40 0 i = C 11 i 5 := (q i (by omega)).2.2.2.2.2.1
      rcases (hI.2.2.2.2.2.2.2.1 i (by omega)).2.2.2.1 with w5 | ⟨p, hp, w5⟩
      · rw [x5, w5, if_pos (by decide), if_pos (by decide)]
      · rw [x5, w5, nI_clamp (by omega), cC p (by omega)]
theorem rl_fresh {t : Nat} {nb : Nat → Nat} {C R : hw_St} {n : Nat} (h : rl t nb C R) : rl t nb (hw_sv C 11 n 7 1) (hw_sv R 39 0 n 1) := by
  obtain ⟨a, g, u, b, se, q, m, nn, hk⟩ := h
  refine ⟨rA_cg a (fun _ => rfl) (fun _ => rfl) rfl rfl (fun _ => rfl) (fun _ => rfl) rfl rfl, rG_cg g (fun _ => rfl), rU_cg u (fun _ _ => rfl) (fun _ => ⟨rfl, rfl, rfl, rfl⟩) rfl, rB_cg b (Nat.le_refl _) rfl (fun _ => rfl), rS_cg se (fun _ _ => rfl) (fun _ => ⟨rfl, rfl, rfl, rfl, rfl⟩), fun i hi => ?_, rM_cg m rfl (fun _ => rfl) rfl (fun _ => rfl), rN_cg nn rfl rfl, rK_cg hk (fun _ => hw_sv_j (by decide)) (fun _ => ⟨rfl, rfl⟩)⟩
  obtain ⟨e1, e2, e3, e4, e5, e6, e7⟩ := q i hi
  by_cases e : i = n
  · subst e
    exact ⟨by simp [hw_sv]; exact e1, by simp [hw_sv]; exact e2, by simp [hw_sv]; exact e3, by simp [hw_sv]; exact e4, by simp [hw_sv], by simp [hw_sv]; exact e6, by simp [hw_sv]; exact e7⟩
  · exact ⟨by simp [hw_sv, e]; exact e1, by simp [hw_sv, e]; exact e2, by simp [hw_sv, e]; exact e3, by simp [hw_sv, e]; exact e4, by simp [hw_sv, e]; exact e5, by simp [hw_sv, e]; exact e6, by simp [hw_sv, e]; exact e7⟩
theorem rl_giv1 {t : Nat} {nb : Nat → Nat} {C R : hw_St} (h : rl t nb C R) (hI : ic nb C) (k : Int32) (s : Nat) (w f c : Int32) (hf : f = -1 ∨ ∃ p, p < nb 11 ∧ f = nI p) (hc : c = (if k = 2 then (1 : Int32) else 0) + (if f < 0 then 0 else C 11 f.toNatClampNeg 6)) : rl t (hw_nb nb 11) (hw_sv (hs_giv C (nb 11) k s w f c) 11 (nb 11) 7 1) (md_giv R (nb 11) k (nI s) w 1 f) := by
  obtain ⟨a, g, u, b, se, q, m, n, hk⟩ := h
  refine ⟨rA_cg a (fun _ => rfl) (fun _ => rfl) rfl rfl (fun _ => rfl) (fun _ => rfl) rfl rfl, rG_cg g (fun _ => rfl), rU_cg u (fun _ _ => rfl) (fun _ => ⟨rfl, rfl, rfl, rfl⟩) rfl, rB_cg b (Nat.le_refl _) rfl (fun _ => rfl), rS_cg se (fun _ _ => rfl) (fun _ => ⟨rfl, rfl, rfl, rfl, rfl⟩), fun i hi => ?_, rM_cg m rfl (fun _ => rfl) rfl (fun _ => rfl), ⟨n.1, ?_⟩, fun i hi => ?_⟩
  · have hi : i < nb 11 + 1 := hi
    by_cases e : i = nb 11
    · subst e
      exact ⟨by simp [hs_giv, tk_new, hw_nw, md_giv, hw_sv], by simp [hs_giv, tk_new, hw_nw, md_giv, hw_sv], by simp [hs_giv, tk_new, hw_nw, md_giv, hw_sv], by simp [hs_giv, tk_new, hw_nw, md_giv, hw_sv]; exact a.2.2.2, by simp [hs_giv, tk_new, hw_nw, md_giv, hw_sv], by simp [hs_giv, tk_new, hw_nw, md_giv, hw_sv], by simp [hs_giv, tk_new, hw_nw, md_giv, hw_sv]; rfl⟩
    · exact rT1_cg (q i (by omega)) (fun j => by simp [hs_giv, tk_new, hw_nw, hw_sv, e]) ⟨by simp [md_giv, hw_sv, e], by simp [md_giv, hw_sv, e], by simp [md_giv, hw_sv, e], by simp [md_giv, hw_sv, e], by simp [md_giv, hw_sv, e], by simp [md_giv, hw_sv, e], by simp [md_giv, hw_sv, e]⟩
  · show R 20 0 18 + 1 = nI (nb 11 + 1)
    rw [n.2, nI_succ]
  · have hi : i < nb 11 + 1 := hi
    have h11 := hI.2.2.2.1.1
    have cC : ∀ p, p < nb 11 → (hw_sv (hs_giv C (nb 11) k s w f c) 11 (nb 11) 7 1) 11 p 6 = C 11 p 6 := fun p hp => by
      have e : ¬ p = nb 11 := by omega
      simp [hs_giv, tk_new, hw_nw, hw_sv, e]
    by_cases e : i = nb 11
    · subst e
      have x1 : (hw_sv (hs_giv C (nb 11) k s w f c) 11 (nb 11) 7 1) 11 (nb 11) 6 = c := by simp [hs_giv, tk_new, hw_nw, hw_sv]
      have x2 : md_l0 (md_giv R (nb 11) k (nI s) w 1 f) (nb 11) = if k = 2 then (1 : Int32) else 0 := by
        unfold md_l0
        rw [show (md_giv R (nb 11) k (nI s) w 1 f) 35 0 (nb 11) = k by simp [md_giv, hw_sv]]
      have x3 : (md_giv R (nb 11) k (nI s) w 1 f) 40 0 (nb 11) = f := by simp [md_giv, hw_sv]
      rw [x1, x2, x3]
      rcases hf with rfl | ⟨p, hp, rfl⟩
      · rw [if_pos (show (-1 : Int32) < 0 by decide)] at hc ⊢; exact hc
      · rw [nI_clamp (by omega)] at hc
        rw [nI_clamp (by omega), cC p hp]; exact hc
    · have q6 := hk i (by omega)
      have x2 : md_l0 (md_giv R (nb 11) k (nI s) w 1 f) i = md_l0 R i := by
        unfold md_l0
        rw [show (md_giv R (nb 11) k (nI s) w 1 f) 35 0 i = R 35 0 i by simp [md_giv, hw_sv, e]]
      have x3 : (md_giv R (nb 11) k (nI s) w 1 f) 40 0 i = R 40 0 i := by simp [md_giv, hw_sv, e]
      rw [cC i (by omega), x2, x3, q6]
      have x5 : R 40 0 i = C 11 i 5 := (q i (by omega)).2.2.2.2.2.1
      rcases (hI.2.2.2.2.2.2.2.1 i (by omega)).2.2.2.1 with w5 | ⟨p, hp, w5⟩
      · rw [x5, w5, if_pos (by decide), if_pos (by decide)]
      · rw [x5, w5, nI_clamp (by omega), cC p (by omega)]
theorem gk_n {x : Int32} : (if (0 : Int32) = 2 then (0 : Int32) + 1 else 0) = (if (0 : Int32) = 2 then (1 : Int32) else 0) + (if (-1 : Int32) < 0 then 0 else x) := by
  rw [if_neg (by decide), if_neg (by decide), if_pos (by decide)]; rfl
theorem gk_p {C : hw_St} {i : Nat} (hi : i < 2 ^ 31) : (if (1 : Int32) = 2 then C 11 i 6 + 1 else C 11 i 6) = (if (1 : Int32) = 2 then (1 : Int32) else 0) + (if nI i < 0 then 0 else C 11 (nI i).toNatClampNeg 6) := by
  rw [if_neg (by decide), if_neg (by decide), if_neg (nI_pos hi), nI_clamp hi, Int32.zero_add]
theorem gk_v {C : hw_St} {i : Nat} (hi : i < 2 ^ 31) : C 11 i 6 + 1 = (if (2 : Int32) = 2 then (1 : Int32) else 0) + (if nI i < 0 then 0 else C 11 (nI i).toNatClampNeg 6) := by
  rw [if_pos rfl, if_neg (nI_pos hi), nI_clamp hi, Int32.add_comm]
theorem judge0 {C : hw_St} {i s : Nat} {x y t : Int32} (h : tk_judge C i s x y t = 0) : C 11 i 3 = x := by
  unfold tk_judge tk_jrest at h
  repeat' split at h
  all_goals first | assumption | exact absurd h (by decide)
theorem judge0k {C : hw_St} {i s : Nat} {x y t : Int32} (h : tk_judge C i s x y t = 0) : ¬ C 11 i 1 = 2 := fun q => by
  unfold tk_judge at h
  rw [if_pos q] at h
  exact absurd h (by decide)
theorem cb1 {nb : Nat → Nat} {C : hw_St} {c : Nat} (hI : ic nb C) (h : ¬ C 7 0 c = 0) : 1 ≤ c := by
  rcases Nat.eq_zero_or_pos c with rfl | q
  · exact absurd hI.2.2.2.2.2.2.2.2.2.1 h
  · exact q
theorem cb2 {nb : Nat → Nat} {C R : hw_St} {c : Nat} (a : rA C R) (hI : ic nb C) (hc : c < 6) (h : ¬ C 7 0 c = 0) : R 29 0 c = 0 := by
  rw [a.2.2.1 c (cb1 hI h) hc]; exact (md_nt_0 (hI.2.2.2.2.2.2.2.2.2.2 c hc)).mpr h
theorem cb3 {C R : hw_St} {c : Nat} (a : rA C R) (hc : c < 6) (h1 : 1 ≤ c) (h : R 29 0 c = 0) : ¬ C 7 0 c = 0 := fun q => by
  rw [a.2.2.1 c h1 hc, q] at h; exact absurd h (by decide)
/-- steps that change rA alone -/
theorem rl_serv {t w f : Nat} {nb : Nat → Nat} {C R : hw_St} (h : rl t nb C R) (hf : f < 64) : rl t nb (hw_sv C 6 0 w (nI f)) (hw_sv R 28 0 w (nI f)) := by
  obtain ⟨a, g, u, b, se, q, m, n, hk⟩ := h
  refine ⟨⟨fun v hv => ?_, a.2⟩, fun v hv => ?_, rU_cg u (fun _ _ => rfl) (fun _ => ⟨rfl, rfl, rfl, rfl⟩) rfl, rB_cg b (Nat.le_refl _) rfl (fun _ => rfl), rS_cg se (fun _ _ => rfl) (fun _ => ⟨rfl, rfl, rfl, rfl, rfl⟩), rT_cg q (fun _ _ => rfl) (fun _ => ⟨rfl, rfl, rfl, rfl, rfl, rfl, rfl⟩), rM_cg m rfl (fun _ => rfl) rfl (fun _ => rfl), rN_cg n rfl rfl, rK_cg hk (fun _ => rfl) (fun _ => ⟨rfl, rfl⟩)⟩
  · rw [hw_sv_row, hw_sv_row]
    split
    · rfl
    · exact a.1 v hv
  · rw [hw_sv_row]
    split
    · exact ⟨f, hf, rfl⟩
    · exact g v hv
theorem rl_call {t c : Nat} {nb : Nat → Nat} {C R : hw_St} {y : Int32} (h : rl t nb C R) : rl t nb (hw_sv C 7 0 c y) (hw_sv R 29 0 c (md_nt y)) := by
  obtain ⟨a, g, u, b, se, q, m, n, hk⟩ := h
  refine ⟨⟨a.1, a.2.1, fun v h1 h2 => ?_, a.2.2.2⟩, rG_cg g (fun _ => rfl), rU_cg u (fun _ _ => rfl) (fun _ => ⟨rfl, rfl, rfl, rfl⟩) rfl, rB_cg b (Nat.le_refl _) rfl (fun _ => rfl), rS_cg se (fun _ _ => rfl) (fun _ => ⟨rfl, rfl, rfl, rfl, rfl⟩), rT_cg q (fun _ _ => rfl) (fun _ => ⟨rfl, rfl, rfl, rfl, rfl, rfl, rfl⟩), rM_cg m rfl (fun _ => rfl) rfl (fun _ => rfl), rN_cg n rfl rfl, rK_cg hk (fun _ => rfl) (fun _ => ⟨rfl, rfl⟩)⟩
  rw [hw_sv_row, hw_sv_row]
  split
  · rfl
  · exact a.2.2.1 v h1 h2
theorem rl_dr {t : Nat} {nb : Nat → Nat} {C C' R R' : hw_St} (h : rl t nb C R) (e : R' 20 0 3 = C' 4 16 1) (hC : ∀ k i j, uc k i j → ¬ k = 4 → C' k i j = C k i j) (hR : ∀ k i j, ur k i j → ¬ (k = 20 ∧ j = 3) → R' k i j = R k i j) : rl t nb C' R' := by
  have h2 : rl t nb (fun k i j => if k = 4 then C k i j else C' k i j) (fun k i j => if k = 20 ∧ j = 3 then R k i j else R' k i j) := rl_cg h (Nat.le_refl _) (fun k i j p => by
    by_cases w : k = 4
    · exact if_pos w
    · show (if k = 4 then C k i j else C' k i j) = _
      rw [if_neg w]; exact hC k i j p w) (fun k i j p => by
    by_cases w : k = 20 ∧ j = 3
    · exact if_pos w
    · show (if k = 20 ∧ j = 3 then R k i j else R' k i j) = _
      rw [if_neg w]; exact hR k i j p w)
  obtain ⟨a, g, u, b, se, q, m, n, hk⟩ := h2
  exact ⟨⟨a.1, e, a.2.2.1, a.2.2.2⟩, g, u, b, se, q, m, n, hk⟩
