theorem rl_msg {t m : Nat} {nb : Nat → Nat} {C R : hw_St} (h : rl t nb C R) (hm : m < 150) (e : C 0 0 10 = nI m) (x : Int32) : rl t nb (hw_sv (hw_sv C 12 0 m x) 0 0 10 (C 0 0 10 + 1)) (hw_sv (hw_sv R 42 0 m x) 20 0 26 (R 20 0 26 + 1)) := by
  obtain ⟨a, g, u, b, se, q, ⟨m', hm', k1, k2, k3⟩, n, hk⟩ := h
  obtain rfl : m = m' := nI_inj (by omega) (by omega) (e.symm.trans k1)
  refine ⟨rA_cg a (fun _ => rfl) (fun _ => rfl) rfl rfl (fun _ => rfl) (fun _ => rfl) rfl rfl, rG_cg g (fun _ => rfl), rU_cg u (fun _ _ => rfl) (fun _ => ⟨rfl, rfl, rfl, rfl⟩) rfl, rB_cg b (Nat.le_refl _) rfl (fun _ => rfl), rS_cg se (fun _ _ => rfl) (fun _ => ⟨rfl, rfl, rfl, rfl, rfl⟩), rT_cg q (fun _ _ => rfl) (fun _ => ⟨rfl, rfl, rfl, rfl, rfl, rfl, rfl⟩), ⟨m + 1, by omega, ?_, ?_, fun i hi => ?_⟩, rN_cg n rfl rfl, rK_cg hk (fun _ => rfl) (fun _ => ⟨rfl, rfl⟩)⟩
  · rw [hw_sv_same, e, nI_succ]
  · rw [hw_sv_same, k2, nI_succ]
  · by_cases w : i = m
    · subst w; simp [hw_sv]
    · simp [hw_sv, w]; exact k3 i (by omega)
theorem rl_ended {t : Nat} {nb : Nat → Nat} {C R : hw_St} (h : rl t nb C R) (s : Nat) : rl t nb (hw_sv C 9 s 5 0) (hw_sv R 34 0 s 1) := by
  obtain ⟨a, g, u, b, se, q, m, n, hk⟩ := h
  refine ⟨rA_cg a (fun _ => rfl) (fun _ => rfl) rfl rfl (fun _ => rfl) (fun _ => rfl) rfl rfl, rG_cg g (fun _ => rfl), rU_cg u (fun _ _ => rfl) (fun _ => ⟨rfl, rfl, rfl, rfl⟩) rfl, rB_cg b (Nat.le_refl _) rfl (fun _ => rfl), fun i hi => ?_, rT_cg q (fun _ _ => rfl) (fun _ => ⟨rfl, rfl, rfl, rfl, rfl, rfl, rfl⟩), rM_cg m rfl (fun _ => rfl) rfl (fun _ => rfl), rN_cg n rfl rfl, rK_cg hk (fun _ => rfl) (fun _ => ⟨rfl, rfl⟩)⟩
  obtain ⟨e1, e2, e3, e4, e5⟩ := se i hi
  by_cases e : i = s
  · subst e
    exact ⟨by simp [hw_sv]; exact e1, by simp [hw_sv]; exact e2, by simp [hw_sv]; exact e3, by simp [hw_sv]; exact e4, by simp [hw_sv, md_nt]⟩
  · exact ⟨by simp [hw_sv, e]; exact e1, by simp [hw_sv, e]; exact e2, by simp [hw_sv, e]; exact e3, by simp [hw_sv, e]; exact e4, by simp [hw_sv, e]; exact e5⟩
theorem md_endk_cnt {s nm : Nat} {S : hw_St} (h : S 20 0 26 = nI nm) (k : Nat) : ∃ j, j ≤ md_co s S k ∧ md_endk s S k 20 0 26 = nI (nm + j) := by
  induction k with
  | zero => exact ⟨0, Nat.le_refl _, h⟩
  | succ k ih =>
    obtain ⟨j, hj, e⟩ := ih
    have f : md_endk s S k 36 0 k = S 36 0 k := md_endk_r k 36 0 k (by decide) (by omega)
    unfold md_endk md_end1 md_co
    rw [f]
    by_cases q : S 36 0 k = nI s
    · rw [if_pos q, if_pos q]
      repeat' split
      · exact ⟨j + 1, by omega, by rw [hw_sv_same, e, ← Nat.add_assoc, nI_succ]⟩
      all_goals exact ⟨j, by omega, e⟩
    · rw [if_neg q, if_neg q]
      exact ⟨j, by omega, e⟩
theorem ix_ends {ns nt s : Nat} {S : hw_St} (h : ix ns nt S) (hs : s < ns) (he : S 34 0 s = 0) : ix ns nt (md_endk s (hw_sv S 34 0 s 1) nt) := by
  obtain ⟨hM, nm, hm, hp⟩ := h
  obtain ⟨j, hj, e⟩ := md_endk_cnt (s := s) (S := hw_sv S 34 0 s 1) (nm := nm) hm nt
  exact ix_end hM hs he hp (by rw [← md_co_eq (S := S) (S' := hw_sv S 34 0 s 1) (fun _ => rfl)]; exact hj) e
theorem rl_endk {t s : Nat} {nb : Nat → Nat} {C R : hw_St} (h : rl t nb C R) (hI : ic nb C) (hX : ix (nb 9) (nb 11) R) (hs : s < nb 9) (he : R 34 0 s = 0) : rl t nb (hs_endk s (hw_sv C 9 s 5 0) (nb 11)) (md_endk s (hw_sv R 34 0 s 1) (nb 11)) := by
  obtain ⟨hM, nm, hnm, hp⟩ := hX
  have hco := md_po_end hM hs he (nb 11) (Nat.le_refl _)
  have h11 := hI.2.2.2.1.1
  have hC0 : ic nb (hw_sv C 9 s 5 0) := ic_sv hI (ipp_9_5 (Or.inl rfl))
  have key : ∀ k, k ≤ nb 11 → rl t nb (hs_endk s (hw_sv C 9 s 5 0) k) (md_endk s (hw_sv R 34 0 s 1) k) ∧ ∃ m, m ≤ nm + md_co s R k ∧ hs_endk s (hw_sv C 9 s 5 0) k 0 0 10 = nI m := by
    intro k
    induction k with
    | zero =>
      intro _
      obtain ⟨m, hm, k1, k2, -⟩ := h.2.2.2.2.2.2.1
      have e : m = nm := nI_inj (by omega) (by have := hM.2.1.1; omega) (k2.symm.trans hnm)
      exact ⟨rl_ended h s, m, by omega, k1⟩
    | succ k ih =>
      intro hk
      obtain ⟨r, m, hm, em⟩ := ih (by omega)
      obtain ⟨-, hn0, -, -, -, -, ⟨w, hw, ew⟩, -⟩ := hI.2.2.2.2.2.2.2.1 k (by omega)
      have fC : ∀ j, hs_endk s (hw_sv C 9 s 5 0) k 11 k j = C 11 k j := fun j => (hs_endk_r hC0.2.2.2.2.1 k).1 11 k j (by decide) (by omega)
      have hmo := md_co_mono s R (show k + 1 ≤ nb 11 from hk)
      have q := r.2.2.2.2.2.1 k (by omega)
      have e36 : md_endk s (hw_sv R 34 0 s 1) k 36 0 k = C 11 k 2 := q.2.1.trans (fC 2)
      have e37 : hw_sv R 34 0 s 1 37 0 k = C 11 k 3 := (h.2.2.2.2.2.1 k (by omega)).2.2.1
      have e36R : R 36 0 k = C 11 k 2 := (h.2.2.2.2.2.1 k (by omega)).2.1
      unfold hs_endk md_endk md_end1
      rw [e36, show hw_sv C 9 s 5 0 11 k 2 = C 11 k 2 from rfl]
      have hmd : md_co s R (k + 1) = md_co s R k + (if R 36 0 k = nI s then 1 else 0) := rfl
      rw [e36R] at hmd
      by_cases c1 : C 11 k 2 = nI s
      · rw [if_pos c1] at hmd
        rw [if_pos c1, if_pos c1]
        unfold hs_tell
        rw [fC 1, q.1, fC 1]
        by_cases c2 : C 11 k 1 = 0
        · rw [if_pos c2, if_pos c2]
          have ew1 : (hw_sv C 9 s 5 0 11 k 3).toNatClampNeg = w := by rw [show hw_sv C 9 s 5 0 11 k 3 = C 11 k 3 from rfl, ew, nI_clamp (by omega)]
          have ew2 : (hw_sv R 34 0 s 1 37 0 k).toNatClampNeg = w := by rw [e37, ew, nI_clamp (by omega)]
          rw [ew1, ew2]
          have hf := fl4_eq r.1 r.2.1 hw
          by_cases c3 : hs_fl (hs_endk s (hw_sv C 9 s 5 0) k) w 4 = 0
          · rw [if_pos c3, if_neg (hf.mp c3)]
            exact ⟨r, m, by omega, em⟩
          · rw [if_neg c3, if_pos (Decidable.not_not.mp (mt hf.mpr c3))]
            have hlt : m < 150 := by omega
            rw [if_neg (by rw [em]; exact nI_ge (b := 150) hlt (by decide))]
            have em2 : md_endk s (hw_sv R 34 0 s 1) k 20 0 26 = nI m := by
              obtain ⟨m', x1, x2, x3, -⟩ := r.2.2.2.2.2.2.1
              rw [x3, ← x2, em]
            rw [show (hs_endk s (hw_sv C 9 s 5 0) k 0 0 10).toNatClampNeg = m by rw [em, nI_clamp (by omega)], show (md_endk s (hw_sv R 34 0 s 1) k 20 0 26).toNatClampNeg = m by rw [em2, nI_clamp (by omega)]]
            have ex : 1000 * md_endk s (hw_sv R 34 0 s 1) k 37 0 k + nI k = 1000 * hs_endk s (hw_sv C 9 s 5 0) k 11 k 3 + hs_endk s (hw_sv C 9 s 5 0) k 11 k 0 := by rw [q.2.2.1, fC 0, hn0]
            rw [ex]
            refine ⟨rl_msg r hlt em _, m + 1, by omega, ?_⟩
            rw [hw_sv_same, em, nI_succ]
        · rw [if_neg c2, if_neg c2]
          exact ⟨r, m, by omega, em⟩
      · rw [if_neg c1] at hmd
        rw [if_neg c1, if_neg c1]
        exact ⟨r, m, by omega, em⟩
  exact (key (nb 11) (Nat.le_refl _)).1
theorem us_unl_o {S : hw_St} {u v : Nat} {t : Int32} (h : ¬ v = u) (j : Nat) : us_unl S u t 2 v j = S 2 v j := by
  unfold us_unl
  repeat' split
  · rfl
  · rfl
  · simp [hw_sv, h]
theorem hs_unl_at {S : hw_St} {t : Int32} {u : Nat} (hu : u < 4) (j : Nat) : hs_unl S t 2 u j = us_unl S u t 2 u j := by
  have key : ∀ (A B : hw_St) (v : Nat), (∀ j, A 2 v j = B 2 v j) → ∀ j, us_unl A v t 2 v j = us_unl B v t 2 v j := fun A B v h j => by
    unfold us_unl
    rw [h 4, h 5]
    repeat' split
    · exact h j
    · exact h j
    · rw [hw_sv_row, hw_sv_row, h j]
  unfold hs_unl
  rcases (show u = 0 ∨ u = 1 ∨ u = 2 ∨ u = 3 by omega) with rfl | rfl | rfl | rfl
  · rw [us_unl_o (by decide), us_unl_o (by decide), us_unl_o (by decide)]
  · rw [us_unl_o (by decide), us_unl_o (by decide)]
    exact key _ _ 1 (fun j => us_unl_o (by decide) j) j
  · rw [us_unl_o (by decide)]
    exact key _ _ 2 (fun j => by rw [us_unl_o (by decide), us_unl_o (by decide)]) j
  · exact key _ _ 3 (fun j => by rw [us_unl_o (by decide), us_unl_o (by decide), us_unl_o (by decide)]) j
theorem hs_unl_k {S : hw_St} {t : Int32} {k i j : Nat} (hk : ¬ k = 2) : hs_unl S t k i j = S k i j := by
  unfold hs_unl
  rw [us_unl_k _ _ _ hk, us_unl_k _ _ _ hk, us_unl_k _ _ _ hk, us_unl_k _ _ _ hk]
theorem nI_sub' {a b : Nat} (h : b ≤ a) : nI a - nI b = nI (a - b) := by
  obtain ⟨d, rfl⟩ : ∃ d, a = d + b := ⟨a - b, by omega⟩
  rw [← nI_add, Nat.add_sub_cancel]
  exact Int32.add_sub_cancel _ _
theorem rl_clk {t n : Nat} {nb : Nat → Nat} {C R : hw_St} (h : rl t nb C R) (hI : ic nb C) (hn : n ≤ 200) (ht : t ≤ 100000) : rl (t + 1) nb (hs_unl (hw_sv C 0 0 11 (C 0 0 11 + nI n)) (C 0 0 11 + nI n)) (hw_sv R 20 0 1 (R 20 0 1 + nI n)) := by
  obtain ⟨a, g, u, ⟨c, hc, b1, b2⟩, se, q, m, nn, hk⟩ := h
  have fk : ∀ k i j, ¬ k = 2 → ¬ k = 0 → hs_unl (hw_sv C 0 0 11 (C 0 0 11 + nI n)) (C 0 0 11 + nI n) k i j = C k i j := fun k i j h2 h0 => by
    rw [hs_unl_k h2]; unfold hw_sv; rw [if_neg (fun q => h0 q.1)]
  have e1 : R 20 0 1 + nI n = nI (c + n) := by rw [b1, nI_add]
  refine ⟨⟨fun w hw => by rw [fk 6 0 w (by decide) (by decide)]; exact a.1 w hw, by rw [fk 4 16 1 (by decide) (by decide)]; exact a.2.1, fun x y z => by rw [fk 7 0 x (by decide) (by decide)]; exact a.2.2.1 x y z, ?_⟩, rG_cg g (fun w => fk 6 0 w (by decide) (by decide)), fun v hv => ?_, ⟨c + n, by omega, by rw [hw_sv_same]; exact e1, fun v hv => ?_⟩, rS_cg se (fun i j => fk 9 i j (by decide) (by decide)) (fun _ => ⟨rfl, rfl, rfl, rfl, rfl⟩), rT_cg q (fun i j => fk 11 i j (by decide) (by decide)) (fun _ => ⟨rfl, rfl, rfl, rfl, rfl, rfl, rfl⟩), rM_cg m (by rw [hs_unl_k (by decide)]; rfl) (fun i => fk 12 0 i (by decide) (by decide)) rfl (fun _ => rfl), rN_cg nn rfl rfl, rK_cg hk (fun i => fk 11 i 6 (by decide) (by decide)) (fun _ => ⟨rfl, rfl⟩)⟩
  · rw [hs_unl_k (by decide), hw_sv_same, hw_sv_same, a.2.2.2]
  · obtain ⟨u1, u2, u3, u4⟩ := u v hv
    obtain ⟨w, hw, ew⟩ := b2 v hv
    have f2 : ∀ j, hw_sv C 0 0 11 (C 0 0 11 + nI n) 2 v j = C 2 v j := fun _ => rfl
    have hcl : C 0 0 11 + nI n = nI (c + n) := by rw [← a.2.2.2]; exact e1
    have hR1 : hw_sv R 20 0 1 (R 20 0 1 + nI n) 20 0 1 = nI (c + n) := by rw [hw_sv_same]; exact e1
    have hR26 : hw_sv R 20 0 1 (R 20 0 1 + nI n) 26 0 v = R 26 0 v := rfl
    have hR27 : hw_sv R 20 0 1 (R 20 0 1 + nI n) 27 0 v = nI w := ew
    have hd : nI (c + n) - nI w = nI (c + n - w) := nI_sub' (by omega)
    have hd0 : R 20 0 1 - R 27 0 v = nI (c - w) := by rw [b1, ew]; exact nI_sub' hw
    have x2 : hs_unl (hw_sv C 0 0 11 (C 0 0 11 + nI n)) (C 0 0 11 + nI n) 2 v 2 = C 2 v 2 := by
      rw [hs_unl_at hv]; unfold us_unl; repeat' split
      all_goals first | rfl | (simp [hw_sv])
    have x3 : hs_unl (hw_sv C 0 0 11 (C 0 0 11 + nI n)) (C 0 0 11 + nI n) 2 v 3 = C 2 v 3 := by
      rw [hs_unl_at hv]; unfold us_unl; repeat' split
      all_goals first | rfl | (simp [hw_sv])
    have x5 : hs_unl (hw_sv C 0 0 11 (C 0 0 11 + nI n)) (C 0 0 11 + nI n) 2 v 5 = C 2 v 5 := by
      rw [hs_unl_at hv]; unfold us_unl; repeat' split
      all_goals first | rfl | (simp [hw_sv])
    have x4 : hs_unl (hw_sv C 0 0 11 (C 0 0 11 + nI n)) (C 0 0 11 + nI n) 2 v 4 = if C 2 v 4 < 3 then C 2 v 4 else if nI (c + n) - C 2 v 5 ≤ 20 then C 2 v 4 else 0 := by
      rw [hs_unl_at hv]; unfold us_unl
      rw [f2 4, f2 5, hcl]
      repeat' split
      all_goals first | rfl | (simp [hw_sv])
    unfold rU1
    rw [x2, x3, x4, x5]
    unfold md_cnt at u3 ⊢
    rw [hR1, hR26, hR27, hd]
    rw [hd0] at u3
    refine ⟨u1, u2, ?_⟩
    by_cases c3 : R 26 0 v = 3
    · rw [if_pos c3] at u3 ⊢
      by_cases cs : nI (c - w) ≤ 20
      · rw [if_pos cs, c3] at u3
        have hw5 := u4 u3.symm
        rw [← u3, if_neg (show ¬ (3 : Int32) < 3 by decide), ← hw5, ew, hd, c3]
        by_cases cs2 : nI (c + n - w) ≤ 20
        · rw [if_pos cs2]; exact ⟨rfl, fun _ => rfl⟩
        · rw [if_neg cs2]; exact ⟨rfl, fun q => absurd q (by decide)⟩
      · rw [if_neg cs] at u3
        have hgt : ¬ c - w ≤ 20 := fun q => cs (nI_le (b := 20) q (by decide))
        rw [if_neg (show ¬ nI (c + n - w) ≤ 20 from nI_ge (a := 20) (b := c + n - w) (by omega) (by omega)), ← u3, if_pos (show (0 : Int32) < 3 by decide)]
        exact ⟨rfl, fun q => absurd q (by decide)⟩
    · rw [if_neg c3] at u3 ⊢
      by_cases cl : C 2 v 4 < 3
      · rw [if_pos cl]
        exact ⟨u3, fun q => absurd cl (by rw [q]; decide)⟩
      · exfalso
        obtain ⟨m', hm', em'⟩ := (hI.2.2.2.2.2.2.2.2.1 v hv).2
        by_cases e3 : m' = 3
        · exact c3 (u3.trans (em'.trans (by rw [e3]; rfl)))
        · exact cl (by rw [em']; exact nI_lt (b := 3) (by omega) (by decide))
  · obtain ⟨w, hw, ew⟩ := b2 v hv
    exact ⟨w, by omega, ew⟩
theorem over_eq {C R : hw_St} {k : Nat} {t : Int32} (r : rS1 C R k) (hc : R 20 0 1 = t) : ss_over C k t = 0 ↔ md_id R k = 0 ∧ md_ol R k = 0 := by
  obtain ⟨-, e2, e3, e4, -⟩ := r
  unfold ss_over md_id md_ol
  rw [hc, e2, e3, e4]
  by_cases h1 : (if C 9 k 3 = 0 then (30 : Int32) else 150) < t - C 9 k 4
  · rw [if_pos h1, if_neg (Int32.not_le.mpr h1)]
    exact ⟨fun q => absurd q (by decide), fun q => absurd q.1 (by decide)⟩
  · rw [if_neg h1, if_pos (Int32.not_lt.mp h1)]
    exact ⟨fun q => ⟨rfl, q⟩, fun q => q.2⟩
theorem ix_tk {ns nt : Nat} {S : hw_St} (h : ix ns nt S) (k : Nat) (hk : k ≤ ns) : ix ns nt (md_tk nt S k) := by
  induction k with
  | zero => exact h
  | succ k ih =>
    have i1 := ih (by omega)
    unfold md_tk md_t1
    split
    · rename_i he
      repeat' split
      all_goals first | exact i1 | exact ix_ends i1 (by omega) he
    · exact i1
theorem rl_tk {t : Nat} {nb : Nat → Nat} {C R : hw_St} {x : Int32} (h : rl t nb C R) (hI : ic nb C) (hX : ix (nb 9) (nb 11) R) (hx : C 0 0 11 = x) (k : Nat) (hk : k ≤ nb 9) : rl t nb (hs_tk (nb 11) x C k) (md_tk (nb 11) R k) := by
  induction k with
  | zero => exact h
  | succ k ih =>
    have r := ih (by omega)
    have hi := hs_tk_i hI hx k
    have hx2 := ix_tk hX k (by omega)
    have rs := r.2.2.2.2.1 k (by omega)
    have hb : ib_b (hs_tk (nb 11) x C k 9 k 5) := (hi.1.2.2.2.2.2.2.1 k (by omega)).2.2.2.2
    have hc : md_tk (nb 11) R k 20 0 1 = x := r.1.2.2.2.trans hi.2
    have ho := over_eq rs hc
    unfold hs_tk md_tk md_t1
    by_cases c1 : hs_tk (nb 11) x C k 9 k 5 = 0
    · rw [if_pos c1, if_neg (by rw [rs.2.2.2.2]; exact fun q => absurd c1 ((md_nt_0 hb).mp q))]
      exact r
    · have he : md_tk (nb 11) R k 34 0 k = 0 := by rw [rs.2.2.2.2]; exact (md_nt_0 hb).mpr c1
      rw [if_neg c1, if_pos he]
      by_cases c2 : ss_over (hs_tk (nb 11) x C k) k x = 0
      · rw [if_pos c2, if_pos (ho.mp c2).1, if_pos (ho.mp c2).2]
        exact r
      · rw [if_neg c2]
        have z := rl_endk r hi.1 hx2 (by omega) he
        by_cases c3 : md_id (md_tk (nb 11) R k) k = 0
        · rw [if_pos c3, if_neg (fun q => c2 (ho.mpr ⟨c3, q⟩))]; exact z
        · rw [if_neg c3]; exact z
