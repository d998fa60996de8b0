theorem gt9 {nb : Nat → Nat} {S : hw_St} (hI : ic nb S) (x : Int32) : (∃ s, s < nb 9 ∧ x = nI s) ∨ (x < 0 ∨ S 0 0 8 ≤ x) := by
  rw [hI.2.2.1.2]; exact ib_rng x (nb 9) (by have := hI.2.2.1.1; omega)
theorem gt11 {nb : Nat → Nat} {S : hw_St} (hI : ic nb S) (x : Int32) : (∃ s, s < nb 11 ∧ x = nI s) ∨ (x < 0 ∨ S 0 0 9 ≤ x) := by
  rw [hI.2.2.2.1.2]; exact ib_rng x (nb 11) (by have := hI.2.2.2.1.1; omega)
theorem hou_in {x : Int32} (h5 : ¬ x < 5) (h8 : x ≤ 8) : ∃ u, u < 4 ∧ x - 5 = nI u := by
  obtain ⟨j, hj, rfl⟩ := nI_of2 (M := 8) (n := 8) rfl (fun q => h5 (by
    have h1 := Int32.lt_iff_toInt_lt.mp q
    refine Int32.lt_iff_toInt_lt.mpr ?_
    rw [show (5 : Int32).toInt = 5 from rfl]
    rw [show (0 : Int32).toInt = 0 from rfl] at h1
    omega)) h8
  have h6 : 5 ≤ j := Nat.not_lt.mp fun q => h5 (nI_lt (b := 5) q (by decide))
  rcases (show j = 5 ∨ j = 6 ∨ j = 7 ∨ j = 8 by omega) with rfl | rfl | rfl | rfl
  · exact ⟨0, by decide, by decide⟩
  · exact ⟨1, by decide, by decide⟩
  · exact ⟨2, by decide, by decide⟩
  · exact ⟨3, by decide, by decide⟩
theorem ix_sv {ns nt : Nat} {S : hw_St} (h : ix ns nt S) {k i j : Nat} {x : Int32} (hk : ¬ (k = 23 ∨ k = 30 ∨ k = 34 ∨ k = 35 ∨ k = 36 ∨ k = 37 ∨ k = 40 ∨ (k = 20 ∧ (j = 3 ∨ j = 12 ∨ j = 18 ∨ j = 26)))) : ix ns nt (hw_sv S k i j x) :=
  ix_eq h fun k' j' p => by unfold hw_sv; rw [if_neg (fun q => hk (by rw [← q.1, ← q.2.2]; exact p))]
theorem ix_ev {ns nt : Nat} {S S2 : hw_St} (h : ix ns nt S) (e : eqv S S2) : ix ns nt S2 := ix_eq h fun k j p => e.1 k 0 j (by omega) (by omega)
theorem ix_dr {ns nt m : Nat} {S : hw_St} (h : ix ns nt S) (hm : m ≤ 8) : ix ns nt (hw_sv S 20 0 3 (nI m)) := by
  obtain ⟨⟨h1, h2, -, h4⟩, nm, g1, g2⟩ := h
  refine ⟨⟨h1, h2, ⟨m, hm, rfl⟩, h4⟩, nm, g1, ?_⟩
  rw [md_po_eq (S := S) (S' := hw_sv S 20 0 3 (nI m)) nt (fun _ _ => rfl) (fun _ _ => rfl)]; exact g2
theorem ix_ln {ns nt m t : Nat} {S : hw_St} (h : ix ns nt S) (hm : m ≤ 8) : ix ns nt (hw_sv S 23 0 t (nI m)) := by
  obtain ⟨⟨h1, h2, h3, h4, h5⟩, nm, g1, g2⟩ := h
  refine ⟨⟨h1, h2, h3, fun i hi => ?_, h5⟩, nm, g1, ?_⟩
  · rw [hw_sv_row]
    split
    · exact ⟨m, hm, rfl⟩
    · exact h4 i hi
  · rw [md_po_eq (S := S) (S' := hw_sv S 23 0 t (nI m)) nt (fun _ _ => rfl) (fun _ _ => rfl)]; exact g2
theorem wr_sv {S : hw_St} (h : wr S) {k i j : Nat} {x : Int32} (hk : ¬ (k = 20 ∧ j = 29)) : wr (hw_sv S k i j x) := by
  have e : hw_sv S k i j x 20 0 29 = S 20 0 29 := by
    unfold hw_sv; rw [if_neg (fun q => hk ⟨q.1.symm, q.2.2.symm⟩)]
  unfold wr; rw [e]; exact h
theorem wr_ev {S S2 : hw_St} (h : wr S) (e : eqv S S2) : wr S2 := by
  unfold wr; rw [e.1 20 0 29 (by decide) (by decide)]; exact h
theorem ipp_4_1 {nb : Nat → Nat} {i : Nat} {x : Int32} (hx : ∃ n, n ≤ hw_ln 5 i ∧ x = nI n) : ipp nb 4 i 1 x := by
  refine ⟨?_, ?_, ?_, ?_, ?_, ?_, ?_, ?_, ?_, ?_, ?_, ?_, ?_⟩ <;> first | (intro v hi hv; cases hv; done) | (rintro ⟨q, -⟩; exact absurd q (by decide)) | (intro _; exact hx)
theorem ipp_7 {nb : Nat → Nat} {j : Nat} {x : Int32} (hx : ib_b x) (hj : ¬ j = 0) : ipp nb 7 0 j x := by
  refine ⟨?_, ?_, ?_, ?_, ?_, ?_, ?_, ?_, ?_, ?_, ?_, ?_, ?_⟩ <;> first | (intro v hi hv; cases hv; done) | (rintro ⟨q, -⟩; exact absurd q (by decide)) | (rintro ⟨-, -, q⟩; exact absurd q hj) | (intro _; exact hx)
theorem md_tk_0 (nt : Nat) (S : hw_St) (k : Nat) : md_tk nt S k 20 0 0 = S 20 0 0 := by
  induction k with
  | zero => rfl
  | succ k ih =>
    unfold md_tk md_t1
    repeat' split
    all_goals first | exact ih | exact ((md_endk_r nt) 20 0 0 (by decide) (by decide)).trans ih
theorem hou_x {x : Int32} {u : Nat} (e : x - 5 = nI u) : x = nI (u + 5) := by
  rw [← nI_add, ← e]; exact (Int32.sub_add_cancel x 5).symm
theorem hou_n {x : Int32} (h5 : x < 5) (e0 : ¬ x = 0) (e1 : ¬ x = 1) (e2 : ¬ x = 2) (e3 : ¬ x = 3) (e4 : ¬ x = 4) : x - 5 < 0 ∨ 4 ≤ x - 5 := by
  rcases ib_rng (x - 5) 4 (by decide) with ⟨u, hu, e⟩ | q
  · exfalso
    rw [hou_x e] at h5
    exact nI_nlt (b := 5) (by omega) (by omega) h5
  · exact q
theorem hou_n8 {x : Int32} (h8 : ¬ x ≤ 8) : x - 5 < 0 ∨ 4 ≤ x - 5 := by
  rcases ib_rng (x - 5) 4 (by decide) with ⟨u, hu, e⟩ | q
  · exfalso
    apply h8
    rw [hou_x e]
    exact nI_le (b := 8) (by omega) (by decide)
  · exact q
def jw (t : Nat) (nb : Nat → Nat) (S : hw_St) : Prop := ic nb S ∧ iz nb S ∧ ix (nb 9) (nb 11) S ∧ wr S ∧ rl t nb S S
def Sg (t : Nat) (nb1 : Nat → Nat) (ag : Int32 → hw_St → Prop) (Post : hw_T) : Prop := ∀ oc nb3 S3 z3, Post oc nb3 S3 z3 → nb3 = nb1 ∧ jw t nb1 S3 ∧ ∃ b, oc = .inl (some (.int b)) ∧ ag b S3
/-- both threw alike, or both answered alike -/
def ag0 (k b : Int32) (S3 : hw_St) : Prop := S3 20 0 0 = k ∧ (k = 0 → S3 50 0 0 = b)
def agb (k b : Int32) (S3 : hw_St) : Prop := S3 20 0 0 = k ∧ (k = 0 → S3 50 0 0 = if b = 0 then 0 else 1)
theorem jw_mid {t : Nat} {nb : Nat → Nat} {S S1 S2 : hw_St} (J : jw t nb S) (kc : ∀ k i j, 20 ≤ k → k < 45 → S1 k i j = S k i j) (e : eqv S1 S2) : ix (nb 9) (nb 11) S2 ∧ wr S2 ∧ rl t nb S S2 := by
  obtain ⟨hI, hZ, hX, hW, hr⟩ := J
  have f : ∀ k i j, 20 ≤ k → k < 45 → S2 k i j = S k i j := fun k i j a b => (e.1 k i j (by omega) (by omega)).trans (kc k i j a b)
  refine ⟨ix_eq hX fun k j p => f k 0 j (by omega) (by omega), ?_, rl_cg hr (Nat.le_refl _) (fun _ _ _ _ => rfl) fun k i j p => f k i j (by unfold ur at p; omega) (by unfold ur at p; omega)⟩
  unfold wr; rw [f 20 0 29 (by decide) (by decide)]; exact hW
theorem jw_fin {t : Nat} {nb1 : Nat → Nat} {S1 S2 S3 : hw_St} (hI : ic nb1 S1) (hZ : iz nb1 S1) (e : eqv S1 S2) (q : rq S2 S3) (hX : ix (nb1 9) (nb1 11) S3) (hW : wr S3) (r : rl t nb1 S1 S3) : jw t nb1 S3 :=
  ⟨ic_rq (ic_eqv hI e) q, iz_rq (iz_eqv hZ e) q, hX, hW, rl_cg r (Nat.le_refl _) (fun k i j p => (q k i j (Or.inl (by unfold uc at p; omega))).trans (e.1 k i j (by unfold uc at p; omega) (by unfold uc at p; omega))) (fun _ _ _ _ => rfl)⟩
theorem jw_up {t : Nat} {nb : Nat → Nat} {S : hw_St} (J : jw t nb S) : jw (t + 1) nb S := ⟨J.1, J.2.1, J.2.2.1, J.2.2.2.1, rl_cg J.2.2.2.2 (Nat.le_succ _) (fun _ _ _ _ => rfl) (fun _ _ _ _ => rfl)⟩
theorem rl_t {t : Nat} {nb : Nat → Nat} {C R : hw_St} (h : rl t nb C R) (x : Int32) : rl t nb C (hw_sv R 20 0 0 x) := rl_cg h (Nat.le_refl _) (fun _ _ _ _ => rfl) fun k' i' j' p => by
  unfold hw_sv; rw [if_neg (fun q => by unfold ur at p; omega)]
theorem rl_out {t : Nat} {nb : Nat → Nat} {C R : hw_St} (h : rl t nb C R) (x : Int32) : rl (t + 1) nb (hw_sv C 50 0 0 x) R := rl_cg h (Nat.le_succ _) (fun k' i' j' p => by
  unfold hw_sv; rw [if_neg (fun q => by unfold uc at p; omega)]) (fun _ _ _ _ => rfl)
theorem rl_out0 {t : Nat} {nb : Nat → Nat} {C R : hw_St} (h : rl t nb C R) (x : Int32) : rl t nb (hw_sv C 50 0 0 x) R := rl_cg h (Nat.le_refl _) (fun k' i' j' p => by
  unfold hw_sv; rw [if_neg (fun q => by unfold uc at p; omega)]) (fun _ _ _ _ => rfl)
theorem kc_sv {S S1 : hw_St} (h : ∀ k i j, 20 ≤ k → k < 45 → S1 k i j = S k i j) {k0 i0 j0 : Nat} {x : Int32} (hk : k0 < 20 ∨ 45 ≤ k0) : ∀ k i j, 20 ≤ k → k < 45 → hw_sv S1 k0 i0 j0 x k i j = S k i j := fun k i j a b => by
  unfold hw_sv; rw [if_neg (fun q => by omega)]; exact h k i j a b
theorem rl_pg {t b : Nat} {nb : Nat → Nat} {C R R' : hw_St} (h : rl t nb C R) (q : pg_r b R R') : rl t nb C R' := rl_cg h (Nat.le_refl _) (fun _ _ _ _ => rfl) fun k i j p => q.1 k i j (by unfold ur at p; omega) (by unfold ur at p; omega) (by unfold ur at p; omega)
theorem sg_thr {t : Nat} {nb : Nat → Nat} {S S2 : hw_St} {z : Nat} {b k : Int32} (J : jw t nb S) (e : eqv S S2) (hk : ¬ k = 0) : Sg (t + 1) nb (fun b S3 => ag0 k b S3) (hw_p (.inl (some (.int b))) nb (hw_sv S2 20 0 0 k) z) := fun oc nb3 S3 z3 hp => by
  obtain ⟨rfl, rfl, rfl, -⟩ := hp
  obtain ⟨m1, m2, m3⟩ := jw_mid J (fun _ _ _ _ _ => rfl) e
  exact ⟨rfl, jw_fin J.1 J.2.1 e (rq_sv rq_rf (by unfold rQ; omega)) (ix_t m1 k) m2 (rl_cg (rl_t m3 k) (Nat.le_succ _) (fun _ _ _ _ => rfl) (fun _ _ _ _ => rfl)), b, rfl, hw_sv_same, fun q => absurd q hk⟩
theorem sg_thb {t : Nat} {nb : Nat → Nat} {S S2 : hw_St} {z : Nat} {b k : Int32} (J : jw t nb S) (e : eqv S S2) (hk : ¬ k = 0) : Sg (t + 1) nb (fun b S3 => agb k b S3) (hw_p (.inl (some (.int b))) nb (hw_sv S2 20 0 0 k) z) := fun oc nb3 S3 z3 hp => by
  obtain ⟨rfl, rfl, rfl, -⟩ := hp
  obtain ⟨m1, m2, m3⟩ := jw_mid J (fun _ _ _ _ _ => rfl) e
  exact ⟨rfl, jw_fin J.1 J.2.1 e (rq_sv rq_rf (by unfold rQ; omega)) (ix_t m1 k) m2 (rl_cg (rl_t m3 k) (Nat.le_succ _) (fun _ _ _ _ => rfl) (fun _ _ _ _ => rfl)), b, rfl, hw_sv_same, fun q => absurd q hk⟩
theorem sg_p {t z : Nat} {nb1 : Nat → Nat} {S1 S2 S3 : hw_St} {b : Int32} {ag : Int32 → hw_St → Prop} (hI : ic nb1 S1) (hZ : iz nb1 S1) (e : eqv S1 S2) (q : rk (nb1 9) (nb1 11) S2 S3) (r : rl t nb1 S1 S3) (ha : ag b S3) : Sg t nb1 ag (hw_p (.inl (some (.int b))) nb1 S3 z) := fun oc nb3 S3' z3 hp => by
  obtain ⟨rfl, rfl, rfl, -⟩ := hp
  exact ⟨rfl, jw_fin hI hZ e q.2.2.q q.1 q.2.1 r, b, rfl, ha⟩
theorem sg_g {t z : Nat} {nb1 : Nat → Nat} {S1 S2 S3 : hw_St} {k b : Int32} (hI : ic nb1 S1) (hZ : iz nb1 S1) (e : eqv S1 S2) (q : rk (nb1 9) (nb1 11) S2 S3) (r : rl t nb1 S1 S3) (ha : ag0 k b S3) : Sg t nb1 (fun b S3 => ag0 k b S3) (fun oc nb' S' z' => oc = .inl (some (.int b)) ∧ nb' = nb1 ∧ pg_r 1400 S3 S' ∧ z' = z) := fun oc nb3 S3' z3 hp => by
  obtain ⟨rfl, rfl, hq, -⟩ := hp
  have q2 := rk_pg q hq (Nat.le_refl _)
  refine ⟨rfl, jw_fin hI hZ e q2.2.2.q q2.1 q2.2.1 (rl_pg r hq), b, rfl, ?_⟩
  show S3' 20 0 0 = k ∧ (k = 0 → S3' 50 0 0 = b)
  rw [hq.1 20 0 0 (by decide) (by decide) (by decide), hq.1 50 0 0 (by decide) (by decide) (by decide)]
  exact ha
theorem ua1 {C : hw_St} {u : Nat} {y t : Int32} (c1 : C 2 u 2 = 0) : us_att C u y t = (-2, C) := by unfold us_att; rw [if_pos c1]
theorem ua2 {C : hw_St} {u : Nat} {y t : Int32} (c1 : ¬ C 2 u 2 = 0) (c2 : ¬ C 2 u 4 < 3) : us_att C u y t = (-3, C) := by unfold us_att; rw [if_neg c1, if_neg c2]
theorem ua3 {C : hw_St} {u : Nat} {y t : Int32} (c1 : ¬ C 2 u 2 = 0) (c2 : C 2 u 4 < 3) (c3 : ¬ y = C 2 u 3) : us_att C u y t = (-2, hw_sv (hw_sv C 2 u 4 (C 2 u 4 + 1)) 2 u 5 t) := by unfold us_att; rw [if_neg c1, if_pos c2, if_neg c3]
theorem ua4 {C : hw_St} {u : Nat} {y t : Int32} (c1 : ¬ C 2 u 2 = 0) (c2 : C 2 u 4 < 3) (c3 : y = C 2 u 3) : us_att C u y t = (0, hw_sv C 2 u 4 0) := by unfold us_att; rw [if_neg c1, if_pos c2, if_pos c3]
theorem mt1 {C R : hw_St} {u n : Nat} {y r : Int32} (h : rU1 C R u) (c1 : C 2 u 2 = 0) : md_try R u y r n = (-2, R) := by unfold md_try; rw [if_pos (h.1.trans c1)]
theorem us3 {C : hw_St} {u : Nat} (hk : us_ok C u) (c2 : ¬ C 2 u 4 < 3) : C 2 u 4 = 3 := by
  obtain ⟨m, hm, e⟩ := hk.2
  by_cases e3 : m = 3
  · rw [e, e3]; rfl
  · exact absurd (by rw [e]; exact nI_lt (b := 3) (by omega) (by decide)) c2
theorem mt2 {C R : hw_St} {u n : Nat} {y r : Int32} (h : rU1 C R u) (hk : us_ok C u) (c1 : ¬ C 2 u 2 = 0) (c2 : ¬ C 2 u 4 < 3) : md_try R u y r n = (-3, R) := by
  unfold md_try
  rw [if_neg (by rw [h.1]; exact c1), if_pos (h.2.2.1.trans (us3 hk c2))]
theorem lt3 {x : Int32} (c2 : x < 3) : ¬ x = 3 := fun q => by rw [q] at c2; exact absurd c2 (by decide)
theorem mt3 {C R : hw_St} {u n : Nat} {y r : Int32} (h : rU1 C R u) (c1 : ¬ C 2 u 2 = 0) (c2 : C 2 u 4 < 3) (c3 : ¬ y = C 2 u 3) : md_try R u y r n = (-2, hw_sv (hw_sv R 26 0 u (md_cnt R u + 1)) 27 0 u (R 20 0 1)) := by
  unfold md_try
  rw [if_neg (by rw [h.1]; exact c1), if_neg (by rw [h.2.2.1]; exact lt3 c2), if_neg (by rw [h.2.1]; exact fun q => c3 q.symm)]
theorem mt4 {C R : hw_St} {u n : Nat} {y r : Int32} (h : rU1 C R u) (c1 : ¬ C 2 u 2 = 0) (c2 : C 2 u 4 < 3) (c3 : y = C 2 u 3) : md_try R u y r n = (nI n, md_opn R n u r) := by
  unfold md_try
  rw [if_neg (by rw [h.1]; exact c1), if_neg (by rw [h.2.2.1]; exact lt3 c2), if_pos (by rw [h.2.1]; exact c3.symm)]
set_option maxHeartbeats 1000000 in
theorem st_login (l : Launch) (hst : l.stackTraces = false) (B : hw_B) (nb : Nat → Nat) (S : hw_St) (z : Nat) {t : Nat} (J : jw t nb S) (x y r : Int32) (hr : ib_b r) (hz : hw_a B 9 (nb 9) = z) : ∃ (k : Int32) (nb1 : Nat → Nat) (S1 : hw_St), hw_MW l yL_login cL_login 6 (some .int) [(0, 12, 15, 13), (0, 12, 19, 15)] ({ frames := 7, cells := 1, slots := 6, locals := 115 }) B [.ref (hw_a B 0 0), .int x, .int y, .int r, .ref (hw_a B 50 0)] nb S z (hw_pq k nb1 S1) ∧ ∀ S2, eqv S1 S2 → hw_al nb1 ∧ ∀ z2, ∃ Post : hw_T, hw_M l yM_login cM_login 4 (some .int) ({ frames := 2, cells := 0, slots := 0, locals := 50 }) B [.ref (hw_a B 20 0), .int x, .int y, .int r] nb1 S2 z2 Post ∧ Sg (t + 1) nb1 (fun b S3 => ag0 k b S3) Post := by
  obtain ⟨hI, hZ, hX, hW, hr0⟩ := id J
  rcases ib_rng x 4 (by decide) with ⟨u, hu, rfl⟩ | hx
  · by_cases h40 : nb 9 = 40
    · skip
      refine ⟨2, nb, S, m_L_login_ISE l B nb S z hI.1 _ _ _ nb S hI.1 (m_H_login_b l hst B nb S z u y r hu h40 hI), fun S2 e => ?_⟩
      have m := jw_mid J (fun _ _ _ _ _ => rfl) e
      have hI2 := ic_eqv hI e
      exact ⟨hI.1, fun z2 => ⟨_, m_M_login_b l B nb S2 z2 hI2.1 hI2.2.1 u hu y r (by rw [m.1.1.1.2, h40]; rfl), sg_thr J e (by decide)⟩⟩
    · have h40' : nb 9 < 40 := by have := hI.2.2.1.1; omega
      have hU := hI.2.2.2.2.2.2.2.2.1 u hu
      by_cases c1 : S 2 u 2 = 0
      · skip
        have q := ck_out (ck_rf hI hZ) (-2)
        refine ⟨0, _, _, m_L_login_ok l B nb S z hI.1 _ _ _ _ _ q.1.1 _ (m_H_login_c l hst B nb S z u y r hu h40' _ _ (ua1 c1) (by decide) hI), fun S2 e => ?_⟩
        have m := jw_mid J (fun k i j a b => q.2.2 k i j (Or.inl ⟨a, b⟩)) e
        have hI2 := ic_eqv q.1 e
        have r2 := rl_t m.2.2 0
        exact ⟨hI2.1, fun z2 => ⟨_, m_M_login_c l B nb S2 z2 hI2.1 hI2.2.1 u hu y r hr (nb 9) h40' m.1.1.1.2 _ _ (mt1 (r2.2.2.1 u hu) c1), sg_p q.1 q.2.1 e (rk_t (rk_rf m.1 m.2.1) 0) (rl_out (r2) _) ⟨rfl, fun _ => (e.1 50 0 0 (by decide) (by decide)).trans rfl⟩⟩⟩
      by_cases c2 : S 2 u 4 < 3
      · by_cases c3 : y = S 2 u 3
        · skip
          have q := ck_out (ck_opn (ck_att (ua4 (t := S 0 0 11) c1 c2 c3) hu hI hZ) h40' hu hr) (nI (nb 9))
          refine ⟨0, _, _, m_L_login_ok l B nb S z hI.1 _ _ _ _ _ q.1.1 _ (m_H_login_d l hst B nb S z u y r hu hr h40' (ua4 c1 c2 c3) hI hz), fun S2 e => ?_⟩
          have m := jw_mid J (fun k i j a b => q.2.2 k i j (Or.inl ⟨a, b⟩)) e
          have hI2 := ic_eqv q.1 e
          have r2 := rl_t m.2.2 0
          exact ⟨hI2.1, fun z2 => ⟨_, m_M_login_c l B _ S2 z2 hI2.1 hI2.2.1 u hu y r hr (nb 9) h40' m.1.1.1.2 _ _ (mt4 (r2.2.2.1 u hu) c1 c2 c3), sg_p q.1 q.2.1 e (rk_opn (rk_t (rk_rf m.1 m.2.1) 0) h40' hu r) (rl_out (rl_opn r2 u r) _) ⟨rfl, fun _ => (e.1 50 0 0 (by decide) (by decide)).trans rfl⟩⟩⟩
        · skip
          have q := ck_out (ck_att (ua3 (t := S 0 0 11) c1 c2 c3) hu hI hZ) (-2)
          refine ⟨0, _, _, m_L_login_ok l B nb S z hI.1 _ _ _ _ _ q.1.1 _ (m_H_login_c l hst B nb S z u y r hu h40' _ _ (ua3 c1 c2 c3) (by decide) hI), fun S2 e => ?_⟩
          have m := jw_mid J (fun k i j a b => q.2.2 k i j (Or.inl ⟨a, b⟩)) e
          have hI2 := ic_eqv q.1 e
          have r2 := rl_t m.2.2 0
          exact ⟨hI2.1, fun z2 => ⟨_, m_M_login_c l B nb S2 z2 hI2.1 hI2.2.1 u hu y r hr (nb 9) h40' m.1.1.1.2 _ _ (mt3 (r2.2.2.1 u hu) c1 c2 c3), sg_p q.1 q.2.1 e (rk_sv (rk_sv (rk_t (rk_rf m.1 m.2.1) 0) (by omega)) (by omega)) (rl_out (rl_fail r2 hu) _) ⟨rfl, fun _ => (e.1 50 0 0 (by decide) (by decide)).trans rfl⟩⟩⟩
      · skip
        have q := ck_out (ck_rf hI hZ) (-3)
        refine ⟨0, _, _, m_L_login_ok l B nb S z hI.1 _ _ _ _ _ q.1.1 _ (m_H_login_c l hst B nb S z u y r hu h40' _ _ (ua2 c1 c2) (by decide) hI), fun S2 e => ?_⟩
        have m := jw_mid J (fun k i j a b => q.2.2 k i j (Or.inl ⟨a, b⟩)) e
        have hI2 := ic_eqv q.1 e
        have r2 := rl_t m.2.2 0
        exact ⟨hI2.1, fun z2 => ⟨_, m_M_login_c l B nb S2 z2 hI2.1 hI2.2.1 u hu y r hr (nb 9) h40' m.1.1.1.2 _ _ (mt2 (r2.2.2.1 u hu) hU c1 c2), sg_p q.1 q.2.1 e (rk_t (rk_rf m.1 m.2.1) 0) (rl_out (r2) _) ⟨rfl, fun _ => (e.1 50 0 0 (by decide) (by decide)).trans rfl⟩⟩⟩
  · skip
    refine ⟨1, nb, S, m_L_login_IAE l B nb S z hI.1 _ _ _ nb S hI.1 (m_H_login_a l hst B nb S z x y r hx hI), fun S2 e => ?_⟩
    have m := jw_mid J (fun _ _ _ _ _ => rfl) e
    have hI2 := ic_eqv hI e
    exact ⟨hI.1, fun z2 => ⟨_, m_M_login_a l B nb S2 z2 hI2.1 hI2.2.1 x y r (hx.imp id fun q => ib_gt q (by decide)), sg_thr J e (by decide)⟩⟩
set_option maxHeartbeats 1000000 in
theorem st_enter (l : Launch) (hst : l.stackTraces = false) (B : hw_B) (nb : Nat → Nat) (S : hw_St) (z : Nat) {t : Nat} (J : jw t nb S) (x y v : Int32) (hz : hw_a B 9 (nb 9) = z) (hz2 : hw_a B 11 (nb 11) = z + 1) : ∃ (k : Int32) (nb1 : Nat → Nat) (S1 : hw_St), hw_MW l yL_enter cL_enter 6 (some .int) [(0, 12, 15, 13), (0, 12, 19, 15)] ({ frames := 7, cells := 2, slots := 15, locals := 126 }) B [.ref (hw_a B 0 0), .int x, .int y, .int v, .ref (hw_a B 50 0)] nb S z (hw_pq k nb1 S1) ∧ ∀ S2, eqv S1 S2 → hw_al nb1 ∧ ∀ z2, ∃ Post : hw_T, hw_M l yM_enter cM_enter 5 (some .int) ({ frames := 2, cells := 0, slots := 0, locals := 50 }) B [.ref (hw_a B 20 0), .int x, .int y, .int v] nb1 S2 z2 Post ∧ Sg (t + 1) nb1 (fun b S3 => ag0 k b S3) Post := by
  obtain ⟨hI, hZ, hX, hW, hr0⟩ := id J
  rcases ib_rng x 4 (by decide) with ⟨u, hu, rfl⟩ | hx
  · by_cases hv : hs_en S v = 0
    · skip
      refine ⟨1, nb, S, m_L_enter_IAE l B nb S z hI.1 _ _ _ nb S hI.1 (m_H_enter_b l hst B nb S z u y v hu hv hI), fun S2 e => ?_⟩
      have m := jw_mid J (fun _ _ _ _ _ => rfl) e
      have hI2 := ic_eqv hI e
      exact ⟨hI.1, fun z2 => ⟨_, m_M_enter_b l B nb S2 z2 hI2.1 hI2.2.1 u hu y v (by rw [← en_eq m.2.2.1 m.2.2.2.1]; exact hv), sg_thr J e (by decide)⟩⟩
    by_cases h40 : nb 9 = 40
    · skip
      refine ⟨2, nb, S, m_L_enter_ISE l B nb S z hI.1 _ _ _ nb S hI.1 (m_H_enter_c l hst B nb S z u y v hu hv h40 hI), fun S2 e => ?_⟩
      have m := jw_mid J (fun _ _ _ _ _ => rfl) e
      have hI2 := ic_eqv hI e
      exact ⟨hI.1, fun z2 => ⟨_, m_M_enter_c l B nb S2 z2 hI2.1 hI2.2.1 u hu y v (by rw [← en_eq m.2.2.1 m.2.2.2.1]; exact hv) (by rw [m.1.1.1.2, h40]; rfl), sg_thr J e (by decide)⟩⟩
    have h40' : nb 9 < 40 := by have := hI.2.2.1.1; omega
    by_cases h150 : nb 11 = 150
    · skip
      refine ⟨2, nb, S, m_L_enter_ISE l B nb S z hI.1 _ _ _ nb S hI.1 (m_H_enter_d l hst B nb S z u y v hu hv h40' h150 hI), fun S2 e => ?_⟩
      have m := jw_mid J (fun _ _ _ _ _ => rfl) e
      have hI2 := ic_eqv hI e
      exact ⟨hI.1, fun z2 => ⟨_, m_M_enter_d l B nb S2 z2 hI2.1 hI2.2.1 u hu y v (by rw [← en_eq m.2.2.1 m.2.2.2.1]; exact hv) (by rw [m.1.1.1.2]; exact fun q => h40 (nI_inj (b := 40) (by omega) (by decide) q)) (by rw [m.1.1.2.1.2, h150]; rfl), sg_thr J e (by decide)⟩⟩
    have h150' : nb 11 < 150 := by have := hI.2.2.2.1.1; omega
    have hU := hI.2.2.2.2.2.2.2.2.1 u hu
    by_cases c1 : S 2 u 2 = 0
    · skip
      have q := ck_out (ck_rf hI hZ) (-2)
      refine ⟨0, _, _, m_L_enter_ok l B nb S z hI.1 _ _ _ _ _ q.1.1 _ (m_H_enter_e l hst B nb S z u y v hu hv h40' h150' _ _ (ua1 c1) (by decide) hI), fun S2 e => ?_⟩
      have m := jw_mid J (fun k i j a b => q.2.2 k i j (Or.inl ⟨a, b⟩)) e
      have hI2 := ic_eqv q.1 e
      have r2 := rl_t m.2.2 0
      exact ⟨hI2.1, fun z2 => ⟨_, m_M_enter_e l B nb S2 z2 hI2.1 hI2.2.1 u hu y v (by rw [← en_eq m.2.2.1 m.2.2.2.1]; exact hv) (nb 9) (nb 11) h40' m.1.1.1.2 h150' m.1.1.2.1.2 _ _ (mt1 (r2.2.2.1 u hu) c1) (by decide), sg_p q.1 q.2.1 e (rk_t (rk_rf m.1 m.2.1) 0) (rl_out (r2) _) ⟨rfl, fun _ => (e.1 50 0 0 (by decide) (by decide)).trans rfl⟩⟩⟩
    by_cases c2 : S 2 u 4 < 3
    · by_cases c3 : y = S 2 u 3
      · obtain ⟨w, hw, rfl⟩ := hs_en_in hv
        have q := ck_out (ck_sv (k := 11) (i := nb 11) (j := 7) (x := 1) (ck_giv (k := 0) (s := nb 9) (w := nI w) (f := -1) (c := if (0 : Int32) = 2 then 0 + 1 else 0) (ck_opn (ck_att (ua4 (t := S 0 0 11) c1 c2 c3) hu hI hZ) h40' hu (r := 0) (Or.inl rfl)) (show nb 11 < 150 from h150') (Or.inl rfl) (show nb 9 < nb 9 + 1 from Nat.lt_succ_self _) ⟨w, hw, rfl⟩ (Or.inl rfl)) (ipp_11_7 (Or.inr rfl)) (by unfold cP; omega) (by decide) (by decide)) (nI (nb 11))
        refine ⟨0, _, _, m_L_enter_ok l B nb S z hI.1 _ _ _ _ _ q.1.1 _ (m_H_enter_f l hst B nb S z u w y hu hw hv h40' h150' (ua4 c1 c2 c3) hI hz hz2), fun S2 e => ?_⟩
        have m := jw_mid J (fun k i j a b => q.2.2 k i j (Or.inl ⟨a, b⟩)) e
        have hI2 := ic_eqv q.1 e
        have r2 := rl_t m.2.2 0
        exact ⟨hI2.1, fun z2 => ⟨_, m_M_enter_f l B _ S2 z2 hI2.1 hI2.2.1 u hu y _ (by rw [← en_eq m.2.2.1 m.2.2.2.1]; exact hv) (nb 9) (nb 11) h40' m.1.1.1.2 h150' m.1.1.2.1.2 (mt4 (r2.2.2.1 u hu) c1 c2 c3), sg_p q.1 q.2.1 e (rk_giv (rk_opn (rk_t (rk_rf m.1 m.2.1) 0) h40' hu 0) h150' ⟨nb 9, Nat.lt_succ_self _, rfl⟩ ⟨w, hw, rfl⟩ (Or.inl rfl) (fun q => absurd q (by decide))) (rl_out (rl_giv1 (rl_opn r2 u 0) (ck_opn (ck_att (ua4 (t := S 0 0 11) c1 c2 c3) hu hI hZ) h40' hu (r := 0) (Or.inl rfl)).1 0 (nb 9) (nI w) (-1) _ (Or.inl rfl) gk_n) _) ⟨rfl, fun _ => (e.1 50 0 0 (by decide) (by decide)).trans rfl⟩⟩⟩
      · skip
        have q := ck_out (ck_att (ua3 (t := S 0 0 11) c1 c2 c3) hu hI hZ) (-2)
        refine ⟨0, _, _, m_L_enter_ok l B nb S z hI.1 _ _ _ _ _ q.1.1 _ (m_H_enter_e l hst B nb S z u y v hu hv h40' h150' _ _ (ua3 c1 c2 c3) (by decide) hI), fun S2 e => ?_⟩
        have m := jw_mid J (fun k i j a b => q.2.2 k i j (Or.inl ⟨a, b⟩)) e
        have hI2 := ic_eqv q.1 e
        have r2 := rl_t m.2.2 0
        exact ⟨hI2.1, fun z2 => ⟨_, m_M_enter_e l B nb S2 z2 hI2.1 hI2.2.1 u hu y v (by rw [← en_eq m.2.2.1 m.2.2.2.1]; exact hv) (nb 9) (nb 11) h40' m.1.1.1.2 h150' m.1.1.2.1.2 _ _ (mt3 (r2.2.2.1 u hu) c1 c2 c3) (by decide), sg_p q.1 q.2.1 e (rk_sv (rk_sv (rk_t (rk_rf m.1 m.2.1) 0) (by omega)) (by omega)) (rl_out (rl_fail r2 hu) _) ⟨rfl, fun _ => (e.1 50 0 0 (by decide) (by decide)).trans rfl⟩⟩⟩
    · skip
      have q := ck_out (ck_rf hI hZ) (-3)
      refine ⟨0, _, _, m_L_enter_ok l B nb S z hI.1 _ _ _ _ _ q.1.1 _ (m_H_enter_e l hst B nb S z u y v hu hv h40' h150' _ _ (ua2 c1 c2) (by decide) hI), fun S2 e => ?_⟩
      have m := jw_mid J (fun k i j a b => q.2.2 k i j (Or.inl ⟨a, b⟩)) e
      have hI2 := ic_eqv q.1 e
      have r2 := rl_t m.2.2 0
      exact ⟨hI2.1, fun z2 => ⟨_, m_M_enter_e l B nb S2 z2 hI2.1 hI2.2.1 u hu y v (by rw [← en_eq m.2.2.1 m.2.2.2.1]; exact hv) (nb 9) (nb 11) h40' m.1.1.1.2 h150' m.1.1.2.1.2 _ _ (mt2 (r2.2.2.1 u hu) hU c1 c2) (by decide), sg_p q.1 q.2.1 e (rk_t (rk_rf m.1 m.2.1) 0) (rl_out (r2) _) ⟨rfl, fun _ => (e.1 50 0 0 (by decide) (by decide)).trans rfl⟩⟩⟩
  · skip
    refine ⟨1, nb, S, m_L_enter_IAE l B nb S z hI.1 _ _ _ nb S hI.1 (m_H_enter_a l hst B nb S z x y v hx hI), fun S2 e => ?_⟩
    have m := jw_mid J (fun _ _ _ _ _ => rfl) e
    have hI2 := ic_eqv hI e
    exact ⟨hI.1, fun z2 => ⟨_, m_M_enter_a l B nb S2 z2 hI2.1 hI2.2.1 x y v (hx.imp id fun q => ib_gt q (by decide)), sg_thr J e (by decide)⟩⟩
set_option maxHeartbeats 1000000 in
theorem st_ticket (l : Launch) (hst : l.stackTraces = false) (B : hw_B) (nb : Nat → Nat) (S : hw_St) (z : Nat) {t : Nat} (J : jw t nb S) (x v : Int32) (hz : hw_a B 11 (nb 11) = z) : ∃ (k : Int32) (nb1 : Nat → Nat) (S1 : hw_St), hw_MW l yL_ticket cL_ticket 5 (some .int) [(0, 10, 13, 13), (0, 10, 17, 15)] ({ frames := 7, cells := 1, slots := 9, locals := 113 }) B [.ref (hw_a B 0 0), .int x, .int v, .ref (hw_a B 50 0)] nb S z (hw_pq k nb1 S1) ∧ ∀ S2, eqv S1 S2 → hw_al nb1 ∧ ∀ z2, ∃ Post : hw_T, hw_M l yM_ticket cM_ticket 3 (some .int) ({ frames := 2, cells := 0, slots := 0, locals := 50 }) B [.ref (hw_a B 20 0), .int x, .int v] nb1 S2 z2 Post ∧ Sg (t + 1) nb1 (fun b S3 => ag0 k b S3) Post := by
  obtain ⟨hI, hZ, hX, hW, hr0⟩ := id J
  rcases gt9 hI x with ⟨s, hs, rfl⟩ | hx
  · have hb := (hI.2.2.2.2.2.2.1 s hs).2.2.2.2
    by_cases hv : hs_en S v = 0
    · skip
      refine ⟨1, nb, S, m_L_ticket_IAE l B nb S z hI.1 _ _ nb S hI.1 (m_H_ticket_b l hst B nb S z s v hs hv hI), fun S2 e => ?_⟩
      have m := jw_mid J (fun _ _ _ _ _ => rfl) e
      have hI2 := ic_eqv hI e
      exact ⟨hI.1, fun z2 => ⟨_, m_M_ticket_b l B nb S2 z2 hI2.1 hI2.2.1 s (nb 9) hs hI.2.2.1.1 m.1.1.1.2 v (by rw [← en_eq m.2.2.1 m.2.2.2.1]; exact hv), sg_thr J e (by decide)⟩⟩
    by_cases ho : S 9 s 5 = 0
    · skip
      refine ⟨2, nb, S, m_L_ticket_ISE l B nb S z hI.1 _ _ nb S hI.1 (m_H_ticket_c l hst B nb S z s v hs hv ho hI), fun S2 e => ?_⟩
      have m := jw_mid J (fun _ _ _ _ _ => rfl) e
      have hI2 := ic_eqv hI e
      exact ⟨hI.1, fun z2 => ⟨_, m_M_ticket_c l B nb S2 z2 hI2.1 hI2.2.1 s (nb 9) hs hI.2.2.1.1 m.1.1.1.2 v (by rw [← en_eq m.2.2.1 m.2.2.2.1]; exact hv) (by rw [(m.2.2.2.2.2.2.1 s hs).2.2.2.2]; exact fun q => absurd ho ((md_nt_0 hb).mp q)), sg_thr J e (by decide)⟩⟩
    by_cases h150 : nb 11 = 150
    · skip
      refine ⟨2, nb, S, m_L_ticket_ISE l B nb S z hI.1 _ _ nb S hI.1 (m_H_ticket_d l hst B nb S z s v hs hv ho h150 hI), fun S2 e => ?_⟩
      have m := jw_mid J (fun _ _ _ _ _ => rfl) e
      have hI2 := ic_eqv hI e
      exact ⟨hI.1, fun z2 => ⟨_, m_M_ticket_d l B nb S2 z2 hI2.1 hI2.2.1 s (nb 9) hs hI.2.2.1.1 m.1.1.1.2 v (by rw [← en_eq m.2.2.1 m.2.2.2.1]; exact hv) (by rw [(m.2.2.2.2.2.2.1 s hs).2.2.2.2]; exact (md_nt_0 hb).mpr ho) (by rw [m.1.1.2.1.2, h150]; rfl), sg_thr J e (by decide)⟩⟩
    have h150' : nb 11 < 150 := by have := hI.2.2.2.1.1; omega
    obtain ⟨w, hw, rfl⟩ := hs_en_in hv
    have q := ck_out (ck_giv (k := 0) (s := s) (w := nI w) (f := -1) (c := if (0 : Int32) = 2 then 0 + 1 else 0) (ck_sv (k := 9) (i := s) (j := 4) (x := S 0 0 11) (ck_rf hI hZ) ipp_9_4 (by unfold cP; omega) (by decide) (by decide)) h150' (Or.inl rfl) hs ⟨w, hw, rfl⟩ (Or.inl rfl)) (nI (nb 11))
    refine ⟨0, _, _, m_L_ticket_ok l B nb S z hI.1 _ _ _ _ q.1.1 _ (m_H_ticket_e l hst B nb S z s w hs hw hv ho h150' hI hz), fun S2 e => ?_⟩
    have m := jw_mid J (fun k i j a b => q.2.2 k i j (Or.inl ⟨a, b⟩)) e
    have hI2 := ic_eqv q.1 e
    have r2 := rl_t m.2.2 0
    exact ⟨hI2.1, fun z2 => ⟨_, m_M_ticket_e l B _ S2 z2 hI2.1 hI2.2.1 s (nb 9) hs hI.2.2.1.1 m.1.1.1.2 _ (by rw [← en_eq m.2.2.1 m.2.2.2.1]; exact hv) (by rw [(m.2.2.2.2.2.2.1 s hs).2.2.2.2]; exact (md_nt_0 hb).mpr ho) (nb 11) h150' m.1.1.2.1.2, sg_p q.1 q.2.1 e (rk_giv (rk_sv (rk_t (rk_rf m.1 m.2.1) 0) (by omega)) h150' ⟨s, hs, rfl⟩ ⟨w, hw, rfl⟩ (Or.inl rfl) (fun q => absurd q (by decide))) (rl_out (rl_giv (rl_used r2 s) (ic_sv hI (k0 := 9) (i0 := s) (j0 := 4) (x := S 0 0 11) ipp_9_4) 0 s (nI w) (-1) _ (Or.inl rfl) gk_n) _) ⟨rfl, fun _ => (e.1 50 0 0 (by decide) (by decide)).trans rfl⟩⟩⟩
  · skip
    refine ⟨1, nb, S, m_L_ticket_IAE l B nb S z hI.1 _ _ nb S hI.1 (m_H_ticket_a l hst B nb S z x v hx hI), fun S2 e => ?_⟩
    have m := jw_mid J (fun _ _ _ _ _ => rfl) e
    have hI2 := ic_eqv hI e
    exact ⟨hI.1, fun z2 => ⟨_, m_M_ticket_a l B nb S2 z2 hI2.1 hI2.2.1 x v (by rw [m.1.1.1.2]; exact hx.imp id fun q => nI_ge_p (by have := hI.2.2.1.1; omega) (by rw [← hI.2.2.1.2]; exact q)), sg_thr J e (by decide)⟩⟩
set_option maxHeartbeats 1000000 in
theorem st_proxy (l : Launch) (hst : l.stackTraces = false) (B : hw_B) (nb : Nat → Nat) (S : hw_St) (z : Nat) {t : Nat} (J : jw t nb S) (x v : Int32) (hz : hw_a B 11 (nb 11) = z) : ∃ (k : Int32) (nb1 : Nat → Nat) (S1 : hw_St), hw_MW l yL_proxy cL_proxy 5 (some .int) [(0, 10, 13, 13), (0, 10, 17, 15)] ({ frames := 7, cells := 1, slots := 9, locals := 113 }) B [.ref (hw_a B 0 0), .int x, .int v, .ref (hw_a B 50 0)] nb S z (hw_pq k nb1 S1) ∧ ∀ S2, eqv S1 S2 → hw_al nb1 ∧ ∀ z2, ∃ Post : hw_T, hw_M l yM_proxy cM_proxy 3 (some .int) ({ frames := 2, cells := 0, slots := 0, locals := 50 }) B [.ref (hw_a B 20 0), .int x, .int v] nb1 S2 z2 Post ∧ Sg (t + 1) nb1 (fun b S3 => ag0 k b S3) Post := by
  obtain ⟨hI, hZ, hX, hW, hr0⟩ := id J
  have h9 := hI.2.2.1.1
  rcases gt11 hI x with ⟨i, hi, rfl⟩ | hx
  · by_cases hk : S 11 i 1 = 2
    · by_cases hv : hs_en S v = 0
      · skip
        refine ⟨1, nb, S, m_L_proxy_IAE l B nb S z hI.1 _ _ nb S hI.1 (m_H_proxy_c l hst B nb S z i v hi hk hv hI), fun S2 e => ?_⟩
        have m := jw_mid J (fun _ _ _ _ _ => rfl) e
        have hI2 := ic_eqv hI e
        exact ⟨hI.1, fun z2 => ⟨_, m_M_proxy_c l B nb S2 z2 hI2.1 hI2.2.1 i (nb 11) hi hI.2.2.2.1.1 m.1.1.2.1.2 v (by rw [(m.2.2.2.2.2.2.2.1 i hi).1]; exact hk) (by rw [← en_eq m.2.2.1 m.2.2.2.1]; exact hv), sg_thr J e (by decide)⟩⟩
      obtain ⟨s, hs, hts⟩ := (hI.2.2.2.2.2.2.2.1 i hi).2.2.1
      have hb := (hI.2.2.2.2.2.2.1 s hs).2.2.2.2
      by_cases hg : tk_good S i s (S 0 0 11) = 0
      · skip
        refine ⟨2, nb, S, m_L_proxy_ISE l B nb S z hI.1 _ _ nb S hI.1 (m_H_proxy_d l hst B nb S z i v hi s hs hts hk hv hg hI), fun S2 e => ?_⟩
        have m := jw_mid J (fun _ _ _ _ _ => rfl) e
        have hI2 := ic_eqv hI e
        exact ⟨hI.1, fun z2 => ⟨_, m_M_proxy_d l B nb S2 z2 hI2.1 hI2.2.1 i (nb 11) hi hI.2.2.2.1.1 m.1.1.2.1.2 v (by rw [(m.2.2.2.2.2.2.2.1 i hi).1]; exact hk) (by rw [← en_eq m.2.2.1 m.2.2.2.1]; exact hv) s (by omega) ((m.2.2.2.2.2.2.2.1 i hi).2.1.trans hts) (by rw [← good_eq m.2.2.1 (m.2.2.2.2.2.2.2.1 i hi) (m.2.2.2.2.2.2.1 s hs) hb]; exact hg), sg_thr J e (by decide)⟩⟩
      by_cases h150 : nb 11 = 150
      · skip
        refine ⟨2, nb, S, m_L_proxy_ISE l B nb S z hI.1 _ _ nb S hI.1 (m_H_proxy_e l hst B nb S z i v hi s hs hts hk hv hg h150 hI), fun S2 e => ?_⟩
        have m := jw_mid J (fun _ _ _ _ _ => rfl) e
        have hI2 := ic_eqv hI e
        exact ⟨hI.1, fun z2 => ⟨_, m_M_proxy_e l B nb S2 z2 hI2.1 hI2.2.1 i (nb 11) hi hI.2.2.2.1.1 m.1.1.2.1.2 v (by rw [(m.2.2.2.2.2.2.2.1 i hi).1]; exact hk) (by rw [← en_eq m.2.2.1 m.2.2.2.1]; exact hv) s (by omega) ((m.2.2.2.2.2.2.2.1 i hi).2.1.trans hts) (by rw [← good_eq m.2.2.1 (m.2.2.2.2.2.2.2.1 i hi) (m.2.2.2.2.2.2.1 s hs) hb]; exact hg) (by rw [m.1.1.2.1.2, h150]; rfl), sg_thr J e (by decide)⟩⟩
      have h150' : nb 11 < 150 := by have := hI.2.2.2.1.1; omega
      obtain ⟨w, hw, rfl⟩ := hs_en_in hv
      have q := ck_out (ck_giv (k := 1) (s := s) (w := nI w) (f := nI i) (c := if (1 : Int32) = 2 then S 11 i 6 + 1 else S 11 i 6) (ck_sv (k := 9) (i := s) (j := 4) (x := S 0 0 11) (ck_rf hI hZ) ipp_9_4 (by unfold cP; omega) (by decide) (by decide)) h150' (Or.inr (Or.inl rfl)) hs ⟨w, hw, rfl⟩ (Or.inr ⟨i, hi, rfl⟩)) (nI (nb 11))
      refine ⟨0, _, _, m_L_proxy_ok l B nb S z hI.1 _ _ _ _ q.1.1 _ (m_H_proxy_f l hst B nb S z i s w hi hs hw hts hk hv hg h150' hI hz), fun S2 e => ?_⟩
      have m := jw_mid J (fun k i j a b => q.2.2 k i j (Or.inl ⟨a, b⟩)) e
      have hI2 := ic_eqv q.1 e
      have r2 := rl_t m.2.2 0
      exact ⟨hI2.1, fun z2 => ⟨_, m_M_proxy_f l B _ S2 z2 hI2.1 hI2.2.1 i (nb 11) hi h150' m.1.1.2.1.2 _ (by rw [(m.2.2.2.2.2.2.2.1 i hi).1]; exact hk) (by rw [← en_eq m.2.2.1 m.2.2.2.1]; exact hv) s (by omega) ((m.2.2.2.2.2.2.2.1 i hi).2.1.trans hts) (by rw [← good_eq m.2.2.1 (m.2.2.2.2.2.2.2.1 i hi) (m.2.2.2.2.2.2.1 s hs) hb]; exact hg), sg_p q.1 q.2.1 e (rk_giv (rk_sv (rk_t (rk_rf m.1 m.2.1) 0) (by omega)) h150' ⟨s, hs, ((m.2.2.2.2.2.2.2.1 i hi).2.1.trans hts)⟩ ⟨w, hw, rfl⟩ (Or.inr ⟨i, hi, rfl⟩) (fun q => absurd q (by decide))) (rl_out (by rw [((m.2.2.2.2.2.2.2.1 i hi).2.1.trans hts)]; exact (rl_giv (rl_used r2 s) (ic_sv hI (k0 := 9) (i0 := s) (j0 := 4) (x := S 0 0 11) ipp_9_4) 1 s (nI w) (nI i) _ (Or.inr ⟨i, hi, rfl⟩) (gk_p (C := hw_sv S 9 s 4 (S 0 0 11)) (by omega)))) _) ⟨rfl, fun _ => (e.1 50 0 0 (by decide) (by decide)).trans rfl⟩⟩⟩
    · skip
      refine ⟨1, nb, S, m_L_proxy_IAE l B nb S z hI.1 _ _ nb S hI.1 (m_H_proxy_b l hst B nb S z i v hi hk hI), fun S2 e => ?_⟩
      have m := jw_mid J (fun _ _ _ _ _ => rfl) e
      have hI2 := ic_eqv hI e
      exact ⟨hI.1, fun z2 => ⟨_, m_M_proxy_b l B nb S2 z2 hI2.1 hI2.2.1 i (nb 11) hi hI.2.2.2.1.1 m.1.1.2.1.2 v (by rw [(m.2.2.2.2.2.2.2.1 i hi).1]; exact hk), sg_thr J e (by decide)⟩⟩
  · skip
    refine ⟨1, nb, S, m_L_proxy_IAE l B nb S z hI.1 _ _ nb S hI.1 (m_H_proxy_a l hst B nb S z x v hx hI), fun S2 e => ?_⟩
    have m := jw_mid J (fun _ _ _ _ _ => rfl) e
    have hI2 := ic_eqv hI e
    exact ⟨hI.1, fun z2 => ⟨_, m_M_proxy_a l B nb S2 z2 hI2.1 hI2.2.1 x v (by rw [m.1.1.2.1.2]; exact hx.imp id fun q => nI_ge_p (by have := hI.2.2.2.1.1; omega) (by rw [← hI.2.2.2.1.2]; exact q)), sg_thr J e (by decide)⟩⟩
set_option maxHeartbeats 1000000 in
theorem st_validate (l : Launch) (hst : l.stackTraces = false) (B : hw_B) (nb : Nat → Nat) (S : hw_St) (z : Nat) {t : Nat} (J : jw t nb S) (x v h c : Int32) (hz : hw_a B 11 (nb 11) = z) : ∃ (k : Int32) (nb1 : Nat → Nat) (S1 : hw_St), hw_MW l yL_validate cL_validate 7 (some .int) [(0, 14, 17, 13)] ({ frames := 10, cells := 1, slots := 9, locals := 226 }) B [.ref (hw_a B 0 0), .int x, .int v, .int h, .int c, .ref (hw_a B 50 0)] nb S z (hw_pq k nb1 S1) ∧ ∀ S2, eqv S1 S2 → hw_al nb1 ∧ ∀ z2, ∃ Post : hw_T, hw_M l yM_validate cM_validate 7 (some .int) ({ frames := 5, cells := 0, slots := 0, locals := 127 }) B [.ref (hw_a B 20 0), .int x, .int v, .int h, .int c] nb1 S2 z2 Post ∧ Sg (t + 1) nb1 (fun b S3 => ag0 k b S3) Post := by
  obtain ⟨hI, hZ, hX, hW, hr0⟩ := id J
  have h9 := hI.2.2.1.1
  have h11 := hI.2.2.2.1.1
  rcases ib_rng h 8 (by decide) with ⟨j, hj, rfl⟩ | hh
  · have hh1 : ¬ nI j < 0 := nI_pos (by omega)
    have hh3 : nI j ≤ 7 := nI_le (b := 7) (by omega) (by decide)
    have hh2 : ¬ 7 < nI j := Int32.not_lt.mpr hh3
    rcases ib_rng c 6 (by decide) with ⟨c, hc, rfl⟩ | hcc
    · rcases gt11 hI x with ⟨i, hi, rfl⟩ | hx
      · by_cases hv : hs_en S v = 0
        · skip
          have q := ck_out (ck_rf hI hZ) 1
          refine ⟨0, _, _, m_L_validate_ok l B nb S z hI.1 _ _ _ _ _ _ q.1.1 _ (m_H_validate_c l hst B nb S z i v (nI j) c hc hh1 hh2 hi hv hI), fun S2 e => ?_⟩
          have m := jw_mid J (fun k i j a b => q.2.2 k i j (Or.inl ⟨a, b⟩)) e
          have hI2 := ic_eqv q.1 e
          have r2 := rl_t m.2.2 0
          exact ⟨hI2.1, fun z2 => ⟨_, m_M_validate_b l B nb S2 z2 hI2.1 hI2.2.1 (nI i) v (nI j) c hc hh1 hh3 1 (m_M_judged_b l B nb _ z2 hI2.1 (hI2.2.1.sv rfl) (nb 9) (nb 11) (ix_t m.1 0).1 i hi v (nI j) (by rw [← en_eq r2.1 r2.2.1]; exact hv)) (by decide) (by decide), sg_g q.1 q.2.1 e (rk_t (rk_rf m.1 m.2.1) 0) (rl_out (r2) _) ⟨rfl, fun _ => (e.1 50 0 0 (by decide) (by decide)).trans rfl⟩⟩⟩
        obtain ⟨-, -, ⟨s, hs, hts⟩, -, -, -, ⟨w, hw, htw⟩, -⟩ := hI.2.2.2.2.2.2.2.1 i hi
        have hb := (hI.2.2.2.2.2.2.1 s hs).2.2.2.2
        by_cases hJ2 : tk_judge S i s v (nI j) (S 0 0 11) = 2
        · skip
          have q := ck_out (ck_rf hI hZ) 2
          refine ⟨0, _, _, m_L_validate_ok l B nb S z hI.1 _ _ _ _ _ _ q.1.1 _ (m_H_validate_d l hst B nb S z i s v (nI j) c hc hh1 hh2 hi hs hts hv hJ2 hI), fun S2 e => ?_⟩
          have m := jw_mid J (fun k i j a b => q.2.2 k i j (Or.inl ⟨a, b⟩)) e
          have hI2 := ic_eqv q.1 e
          have r2 := rl_t m.2.2 0
          exact ⟨hI2.1, fun z2 => ⟨_, m_M_validate_b l B nb S2 z2 hI2.1 hI2.2.1 (nI i) v (nI j) c hc hh1 hh3 2 (by have hj9 := m_M_judged_c l B _ _ z2 hI2.1 (hI2.2.1.sv rfl) (nb 9) (nb 11) (ix_t m.1 0).1 i hi s (by omega) ((m.2.2.2.2.2.2.2.1 i hi).2.1.trans hts) _ (nI j) (by rw [← en_eq r2.1 r2.2.1]; exact hv); rw [← (judge_eq r2.1 (r2.2.2.2.2.2.1 i hi) (r2.2.2.2.2.1 s hs) hb _ hj), hJ2] at hj9; exact hj9) (by decide) (by decide), sg_g q.1 q.2.1 e (rk_t (rk_rf m.1 m.2.1) 0) (rl_out (r2) _) ⟨rfl, fun _ => (e.1 50 0 0 (by decide) (by decide)).trans rfl⟩⟩⟩
        by_cases hJ0 : tk_judge S i s v (nI j) (S 0 0 11) = 0
        · have e3 : S 11 i 3 = v := judge0 hJ0
          obtain rfl : nI w = v := htw.symm.trans e3
          by_cases hd : ¬ S 7 0 c = 0 ∧ ¬ hs_fl S w 2 = 0 ∧ nb 11 < 150
          · skip
            have q := ck_out (ck_giv (k := 2) (s := s) (w := nI c) (f := nI i) (c := (hw_sv (hw_sv S 11 i 8 1) 9 s 4 (S 0 0 11)) 11 i 6 + 1) (ck_sv (k := 9) (i := s) (j := 4) (x := S 0 0 11) (ck_sv (k := 11) (i := i) (j := 8) (x := 1) (ck_rf hI hZ) (ipp_11_8 (Or.inr rfl)) (by unfold cP; omega) (by decide) (by decide)) ipp_9_4 (by unfold cP; omega) (by decide) (by decide)) hd.2.2 (Or.inr (Or.inr rfl)) hs ⟨c, hc, rfl⟩ (Or.inr ⟨i, hi, rfl⟩)) 0
            refine ⟨0, _, _, m_L_validate_ok l B nb S z hI.1 _ _ _ _ _ _ q.1.1 _ (m_H_validate_f l hst B nb S z i s w _ (nI j) c hc hh1 hh2 hi hs hts hw htw hv hJ0 hd.2.2 hd.1 hd.2.1 hI hz), fun S2 e => ?_⟩
            have m := jw_mid J (fun k i j a b => q.2.2 k i j (Or.inl ⟨a, b⟩)) e
            have hI2 := ic_eqv q.1 e
            have r2 := rl_t m.2.2 0
            exact ⟨hI2.1, fun z2 => ⟨_, m_M_validate_f l B _ S2 z2 hI2.1 hI2.2.1 (nb 9) (nb 11) m.1.1 i hi w hw (nI j) c hc hh1 hh3 (by have hj9 := m_M_judged_c l B _ _ z2 hI2.1 (hI2.2.1.sv rfl) (nb 9) (nb 11) (ix_t m.1 0).1 i hi s (by omega) ((m.2.2.2.2.2.2.2.1 i hi).2.1.trans hts) _ (nI j) (by rw [← en_eq r2.1 r2.2.1]; exact hv); rw [← (judge_eq r2.1 (r2.2.2.2.2.2.1 i hi) (r2.2.2.2.2.1 s hs) hb _ hj), hJ0] at hj9; exact hj9) s hs ((m.2.2.2.2.2.2.2.1 i hi).2.1.trans hts) (by rw [(m.2.2.2.2.2.2.2.1 i hi).1]; exact judge0k hJ0) hd.2.2 (cb1 hI hd.1) (cb2 m.2.2.1 hI hc hd.1) (Decidable.not_not.mp (mt (fl2_eq m.2.2.1 m.2.2.2.1 hw).mpr hd.2.1)), sg_g q.1 q.2.1 e (rk_giv (rk_sv (rk_sv (rk_t (rk_rf m.1 m.2.1) 0) (by omega)) (by omega)) hd.2.2 ⟨s, hs, ((m.2.2.2.2.2.2.2.1 i hi).2.1.trans hts)⟩ ⟨c, hc, rfl⟩ (Or.inr ⟨i, hi, rfl⟩) (fun _ q hq e2 => by have e3 := nI_inj (by omega) (by omega) e2; subst e3; show ¬ S2 35 0 _ = 2; rw [(m.2.2.2.2.2.2.2.1 _ hi).1]; exact judge0k hJ0)) (rl_out (by rw [((m.2.2.2.2.2.2.2.1 i hi).2.1.trans hts)]; exact rl_giv (rl_used (rl_spent r2 i) s) (ic_sv (ic_sv hI (k0 := 11) (i0 := i) (j0 := 8) (x := 1) (ipp_11_8 (Or.inr rfl))) (k0 := 9) (i0 := s) (j0 := 4) (x := S 0 0 11) ipp_9_4) 2 s (nI c) (nI i) _ (Or.inr ⟨i, hi, rfl⟩) (gk_v (by omega))) _) ⟨rfl, fun _ => (e.1 50 0 0 (by decide) (by decide)).trans rfl⟩⟩⟩
          · skip
            have q := ck_out (ck_sv (k := 9) (i := s) (j := 4) (x := S 0 0 11) (ck_sv (k := 11) (i := i) (j := 8) (x := 1) (ck_rf hI hZ) (ipp_11_8 (Or.inr rfl)) (by unfold cP; omega) (by decide) (by decide)) ipp_9_4 (by unfold cP; omega) (by decide) (by decide)) 0
            refine ⟨0, _, _, m_L_validate_ok l B nb S z hI.1 _ _ _ _ _ _ q.1.1 _ (m_H_validate_g l hst B nb S z i s w _ (nI j) c hc hh1 hh2 hi hs hts hw htw hv hJ0 hd hI), fun S2 e => ?_⟩
            have m := jw_mid J (fun k i j a b => q.2.2 k i j (Or.inl ⟨a, b⟩)) e
            have hI2 := ic_eqv q.1 e
            have r2 := rl_t m.2.2 0
            exact ⟨hI2.1, fun z2 => ⟨_, m_M_validate_g l B nb S2 z2 hI2.1 hI2.2.1 (nb 9) (nb 11) m.1.1 i hi w hw (nI j) c hc hh1 hh3 (by have hj9 := m_M_judged_c l B _ _ z2 hI2.1 (hI2.2.1.sv rfl) (nb 9) (nb 11) (ix_t m.1 0).1 i hi s (by omega) ((m.2.2.2.2.2.2.2.1 i hi).2.1.trans hts) _ (nI j) (by rw [← en_eq r2.1 r2.2.1]; exact hv); rw [← (judge_eq r2.1 (r2.2.2.2.2.2.1 i hi) (r2.2.2.2.2.1 s hs) hb _ hj), hJ0] at hj9; exact hj9) s hs ((m.2.2.2.2.2.2.2.1 i hi).2.1.trans hts) (fun w3 => hd ⟨cb3 m.2.2.1 hc w3.1 w3.2.1, fun q => absurd w3.2.2.1 ((fl2_eq m.2.2.1 m.2.2.2.1 hw).mp q), w3.2.2.2⟩), sg_g q.1 q.2.1 e (rk_sv (rk_sv (rk_t (rk_rf m.1 m.2.1) 0) (by omega)) (by omega)) (rl_out (rl_used (rl_spent r2 i) s) _) ⟨rfl, fun _ => (e.1 50 0 0 (by decide) (by decide)).trans rfl⟩⟩⟩
        · skip
          have q := ck_out (ck_sv (k := 11) (i := i) (j := 8) (x := 1) (ck_rf hI hZ) (ipp_11_8 (Or.inr rfl)) (by unfold cP; omega) (by decide) (by decide)) (tk_judge S i s v (nI j) (S 0 0 11))
          refine ⟨0, _, _, m_L_validate_ok l B nb S z hI.1 _ _ _ _ _ _ q.1.1 _ (m_H_validate_e l hst B nb S z i s v (nI j) c hc hh1 hh2 hi hs hts hv _ rfl hJ2 hJ0 hI), fun S2 e => ?_⟩
          have m := jw_mid J (fun k i j a b => q.2.2 k i j (Or.inl ⟨a, b⟩)) e
          have hI2 := ic_eqv q.1 e
          have r2 := rl_t m.2.2 0
          exact ⟨hI2.1, fun z2 => ⟨_, m_M_validate_d l B nb S2 z2 hI2.1 hI2.2.1 i (by omega) v (nI j) c hc hh1 hh3 (tk_judge S i s v (nI j) (S 0 0 11)) (by have hj9 := m_M_judged_c l B _ _ z2 hI2.1 (hI2.2.1.sv rfl) (nb 9) (nb 11) (ix_t m.1 0).1 i hi s (by omega) ((m.2.2.2.2.2.2.2.1 i hi).2.1.trans hts) _ (nI j) (by rw [← en_eq r2.1 r2.2.1]; exact hv); rw [← (judge_eq r2.1 (r2.2.2.2.2.2.1 i hi) (r2.2.2.2.2.1 s hs) hb _ hj)] at hj9; exact hj9) (by rw [(judge_eq r2.1 (r2.2.2.2.2.2.1 i hi) (r2.2.2.2.2.1 s hs) hb _ hj)] at hJ2 hJ0 ⊢; rcases md_j_c (hw_sv S2 20 0 0 0) i s v (nI j) with q | q | q; exact absurd q.1 hJ0; exact absurd q hJ2; exact q), sg_g q.1 q.2.1 e (rk_sv (rk_t (rk_rf m.1 m.2.1) 0) (by omega)) (rl_out (rl_spent r2 i) _) ⟨rfl, fun _ => (e.1 50 0 0 (by decide) (by decide)).trans rfl⟩⟩⟩
      · skip
        have q := ck_out (ck_rf hI hZ) 1
        refine ⟨0, _, _, m_L_validate_ok l B nb S z hI.1 _ _ _ _ _ _ q.1.1 _ (m_H_validate_b l hst B nb S z x v (nI j) c hc hh1 hh2 hx hI), fun S2 e => ?_⟩
        have m := jw_mid J (fun k i j a b => q.2.2 k i j (Or.inl ⟨a, b⟩)) e
        have hI2 := ic_eqv q.1 e
        have r2 := rl_t m.2.2 0
        exact ⟨hI2.1, fun z2 => ⟨_, m_M_validate_b l B nb S2 z2 hI2.1 hI2.2.1 x v (nI j) c hc hh1 hh3 1 (m_M_judged_a l B nb _ z2 hI2.1 (hI2.2.1.sv rfl) x v (nI j) (by rw [(ix_t m.1 0).1.2.1.2]; exact hx.imp id fun q => nI_ge_p (by have := hI.2.2.2.1.1; omega) (by rw [← hI.2.2.2.1.2]; exact q))) (by decide) (by decide), sg_g q.1 q.2.1 e (rk_t (rk_rf m.1 m.2.1) 0) (rl_out (r2) _) ⟨rfl, fun _ => (e.1 50 0 0 (by decide) (by decide)).trans rfl⟩⟩⟩
    · skip
      refine ⟨1, nb, S, m_L_validate_IAE l B nb S z hI.1 _ _ _ _ nb S hI.1 (m_H_validate_a l hst B nb S z x v (nI j) c (Or.inr (Or.inr (hcc.imp id fun q => ib_gt q (by decide)))) hI), fun S2 e => ?_⟩
      have m := jw_mid J (fun _ _ _ _ _ => rfl) e
      have hI2 := ic_eqv hI e
      exact ⟨hI.1, fun z2 => ⟨_, m_M_validate_a2 l B nb S2 z2 hI2.1 hI2.2.1 x v (nI j) c hh1 hh3 (hcc.imp id fun q => ib_gt q (by decide)), sg_thr J e (by decide)⟩⟩
  · skip
    refine ⟨1, nb, S, m_L_validate_IAE l B nb S z hI.1 _ _ _ _ nb S hI.1 (m_H_validate_a l hst B nb S z x v h c (hh.elim (fun q => Or.inl q) (fun q => Or.inr (Or.inl (Int32.not_le.mp (ib_gt q (by decide)))))) hI), fun S2 e => ?_⟩
    have m := jw_mid J (fun _ _ _ _ _ => rfl) e
    have hI2 := ic_eqv hI e
    exact ⟨hI.1, fun z2 => ⟨_, m_M_validate_a l B nb S2 z2 hI2.1 hI2.2.1 x v h c (hh.imp id fun q => ib_gt q (by decide)), sg_thr J e (by decide)⟩⟩
set_option maxHeartbeats 1000000 in
theorem st_logout (l : Launch) (hst : l.stackTraces = false) (B : hw_B) (nb : Nat → Nat) (S : hw_St) (z : Nat) {t : Nat} (J : jw t nb S) (x : Int32) : ∃ (k : Int32) (nb1 : Nat → Nat) (S1 : hw_St), hw_MW l yL_logout cL_logout 4 (some .int) [(0, 9, 12, 13), (0, 9, 15, 15)] ({ frames := 7, cells := 1, slots := 6, locals := 122 }) B [.ref (hw_a B 0 0), .int x, .ref (hw_a B 50 0)] nb S z (hw_pq k nb1 S1) ∧ ∀ S2, eqv S1 S2 → hw_al nb1 ∧ ∀ z2, ∃ Post : hw_T, hw_M l yM_logout cM_logout 2 (some .int) ({ frames := 2, cells := 0, slots := 0, locals := 60 }) B [.ref (hw_a B 20 0), .int x] nb1 S2 z2 Post ∧ Sg (t + 1) nb1 (fun b S3 => ag0 k b S3) Post := by
  obtain ⟨hI, hZ, hX, hW, hr0⟩ := id J
  rcases gt9 hI x with ⟨s, hs, rfl⟩ | hx
  · have hb := (hI.2.2.2.2.2.2.1 s hs).2.2.2.2
    by_cases ho : S 9 s 5 = 0
    · skip
      refine ⟨2, nb, S, m_L_logout_ISE l B nb S z hI.1 _ nb S hI.1 (m_H_logout_b l hst B nb S z s hs ho hI), fun S2 e => ?_⟩
      have m := jw_mid J (fun _ _ _ _ _ => rfl) e
      have hI2 := ic_eqv hI e
      exact ⟨hI.1, fun z2 => ⟨_, m_M_logout_b l B nb S2 z2 hI2.1 hI2.2.1 s (nb 9) hs hI.2.2.1.1 m.1.1.1.2 (by rw [(m.2.2.2.2.2.2.1 s hs).2.2.2.2]; exact fun q => absurd ho ((md_nt_0 hb).mp q)), sg_thr J e (by decide)⟩⟩
    · have q := ck_out (ck_end (ck_rf hI hZ) s (nb 11)) (hs_endk s (hw_sv S 9 s 5 0) (nb 11) 0 0 10 - S 0 0 10)
      refine ⟨0, nb, _, m_L_logout_ok l B nb S z hI.1 _ nb _ hI.1 _ (m_H_logout_c l hst B nb S z s hs ho hI), fun S2 e => ?_⟩
      have m := jw_mid J (fun k i j a b => q.2.2 k i j (Or.inl ⟨a, b⟩)) e
      have hI2 := ic_eqv q.1 e
      have r2 := rl_t m.2.2 0
      have he : S2 34 0 s = 0 := by rw [(m.2.2.2.2.2.2.1 s hs).2.2.2.2]; exact (md_nt_0 hb).mpr ho
      have r3 := rl_endk r2 hI (ix_t m.1 0) hs he
      obtain ⟨hM, nm, hnm, hp⟩ := m.1
      have hco := md_po_end hM hs he (nb 11) (Nat.le_refl _)
      have h11 := hI.2.2.2.1.1
      refine ⟨hI.1, fun z2 => ⟨_, m_M_logout_c l B nb S2 z2 hI2.1 hI2.2.1 s (nb 9) hs hI.2.2.1.1 hM.1.2 (nb 11) nm hM he hnm (by omega), fun oc nb3 S3 z3 hq => ?_⟩⟩
      obtain ⟨⟨j, hj, rfl, hj2⟩, e9, rfl, -⟩ := hq
      obtain rfl := e9.symm
      refine ⟨rfl, jw_fin q.1 q.2.1 e (rf_mm (rf_sv (rf_sv rf_rf (by unfold rP; omega)) (by unfold rP; omega)) (md_endk_r (nb 11))).q (ix_ends (ix_t m.1 0) hs he) (wr_mm (S := hw_sv (hw_sv S2 20 0 0 0) 34 0 s 1) m.2.1 (md_endk_r (nb 11))) (rl_out r3 _), _, rfl, ?_, fun _ => ?_⟩
      · exact (md_endk_r (nb 11) 20 0 0 (by decide) (by decide)).trans rfl
      · rw [md_endk_r (nb 11) 50 0 0 (by decide) (by decide)]
        show S2 50 0 0 = nI j
        rw [e.1 50 0 0 (by decide) (by decide)]
        show hs_endk s (hw_sv S 9 s 5 0) (nb 11) 0 0 10 - S 0 0 10 = nI j
        obtain ⟨m1, -, a1, a2, -⟩ := r3.2.2.2.2.2.2.1
        obtain ⟨m0, -, b1, b2, -⟩ := m.2.2.2.2.2.2.2.2.1
        rw [a1, ← a2, hj2, b1, ← b2, hnm, nI_sub' (by omega)]
        rw [Nat.add_sub_cancel_left]
  · skip
    refine ⟨1, nb, S, m_L_logout_IAE l B nb S z hI.1 _ nb S hI.1 (m_H_logout_a l hst B nb S z x hx hI), fun S2 e => ?_⟩
    have m := jw_mid J (fun _ _ _ _ _ => rfl) e
    have hI2 := ic_eqv hI e
    exact ⟨hI.1, fun z2 => ⟨_, m_M_logout_a l B nb S2 z2 hI2.1 hI2.2.1 x (by rw [m.1.1.1.2]; exact hx.imp id fun q => nI_ge_p (by have := hI.2.2.1.1; omega) (by rw [← hI.2.2.1.2]; exact q)), sg_thr J e (by decide)⟩⟩
set_option maxHeartbeats 1000000 in
theorem st_tick (l : Launch) (hst : l.stackTraces = false) (B : hw_B) (nb : Nat → Nat) (S : hw_St) (z : Nat) {t : Nat} (J : jw t nb S) (x : Int32) (htt : t ≤ 100000) : ∃ (k : Int32) (nb1 : Nat → Nat) (S1 : hw_St), hw_MW l yL_tick cL_tick 4 (some .int) [(0, 9, 12, 13)] ({ frames := 7, cells := 1, slots := 6, locals := 122 }) B [.ref (hw_a B 0 0), .int x, .ref (hw_a B 50 0)] nb S z (hw_pq k nb1 S1) ∧ ∀ S2, eqv S1 S2 → hw_al nb1 ∧ ∀ z2, ∃ Post : hw_T, hw_M l yM_tick cM_tick 5 (some .int) ({ frames := 2, cells := 0, slots := 0, locals := 60 }) B [.ref (hw_a B 20 0), .int x] nb1 S2 z2 Post ∧ Sg (t + 1) nb1 (fun b S3 => ag0 k b S3) Post := by
  obtain ⟨hI, hZ, hX, hW, hr0⟩ := id J
  by_cases h1 : x < 1
  · skip
    refine ⟨1, nb, S, m_L_tick_IAE l B nb S z hI.1 _ nb S hI.1 (m_H_tick_a l hst B nb S z x (Or.inl h1) hI), fun S2 e => ?_⟩
    have m := jw_mid J (fun _ _ _ _ _ => rfl) e
    have hI2 := ic_eqv hI e
    exact ⟨hI.1, fun z2 => ⟨_, m_M_tick_a l B nb S2 z2 hI2.1 hI2.2.1 x (Or.inl h1), sg_thr J e (by decide)⟩⟩
  by_cases h2 : x ≤ 200
  · obtain ⟨n, hn, rfl⟩ : ∃ n, n ≤ 200 ∧ x = nI n := nI_of2 (M := 200) (n := 200) rfl (fun q => h1 (Int32.lt_trans q (by decide))) h2
    have q1 := ck_unl (ck_unl (ck_unl (ck_unl (ck_rf (ic_sv hI (ipp_0_11 (x := S 0 0 11 + nI n))) (iz_sv hZ (by decide) (by decide))) 0 (S 0 0 11 + nI n)) 1 (S 0 0 11 + nI n)) 2 (S 0 0 11 + nI n)) 3 (S 0 0 11 + nI n)
    have q := ck_out (ck_tk q1 (S 0 0 11 + nI n) (nb 9)) (S 0 0 11 + nI n)
    refine ⟨0, nb, _, m_L_tick_ok l B nb S z hI.1 _ nb _ hI.1 _ (m_H_tick_c l hst B nb S z (nI n) h1 h2 hI), fun S2 e => ?_⟩
    have m := jw_mid J (fun k i j a b => (q.2.2 k i j (Or.inl ⟨a, b⟩)).trans (by unfold hw_sv; rw [if_neg (fun q => by omega)])) e
    have hI2 := ic_eqv q.1 e
    have r2 := rl_t m.2.2 0
    have r3 := rl_tk (rl_clk r2 hI hn htt) q1.1 (ix_sv (ix_t m.1 0) (by omega)) (hs_unl_k (by decide)) (nb 9) (Nat.le_refl _)
    refine ⟨hI.1, fun z2 => ⟨_, m_M_tick_c l B nb S2 z2 hI2.1 hI2.2.1 (nb 9) (nb 11) m.1 (nI n) h1 h2, fun oc nb3 S3 z3 hq => ?_⟩⟩
    obtain ⟨rfl, e9, ⟨rfl, hX3, hcl⟩, -⟩ := hq
    obtain rfl := e9.symm
    have g : rf (hw_sv (hw_sv S2 20 0 0 0) 20 0 1 (S2 20 0 1 + nI n)) (md_tk (nb 11) (hw_sv (hw_sv S2 20 0 0 0) 20 0 1 (S2 20 0 1 + nI n)) (nb 9)) := rf_tk rf_rf (nb 11) (nb 9)
    have g2 : rq S2 (md_tk (nb 11) (hw_sv (hw_sv S2 20 0 0 0) 20 0 1 (S2 20 0 1 + nI n)) (nb 9)) := fun k i j p => (g.q k i j p).trans (rq_sv (rq_sv rq_rf (by unfold rQ; omega)) (by unfold rQ; omega) k i j p)
    refine ⟨rfl, jw_fin q.1 q.2.1 e g2 hX3 (wr_tk (wr_sv (wr_sv m.2.1 (by omega)) (by omega)) (nb 11) (nb 9)) (rl_out0 r3 _), _, rfl, ?_, fun _ => ?_⟩
    · rw [md_tk_0]; rfl
    · rw [g2 50 0 0 (by unfold rQ; omega), e.1 50 0 0 (by decide) (by decide), show S2 20 0 1 + nI n = S 0 0 11 + nI n from congrArg (· + nI n) m.2.2.1.2.2.2]; rfl
  · skip
    refine ⟨1, nb, S, m_L_tick_IAE l B nb S z hI.1 _ nb S hI.1 (m_H_tick_a l hst B nb S z x (Or.inr h2) hI), fun S2 e => ?_⟩
    have m := jw_mid J (fun _ _ _ _ _ => rfl) e
    have hI2 := ic_eqv hI e
    exact ⟨hI.1, fun z2 => ⟨_, m_M_tick_a l B nb S2 z2 hI2.1 hI2.2.1 x (Or.inr h2), sg_thr J e (by decide)⟩⟩
set_option maxHeartbeats 1000000 in
theorem st_password (l : Launch) (hst : l.stackTraces = false) (B : hw_B) (nb : Nat → Nat) (S : hw_St) (z : Nat) {t : Nat} (J : jw t nb S) (x y : Int32) : ∃ (k : Int32) (nb1 : Nat → Nat) (S1 : hw_St), hw_MW l yL_password cL_password 5 (some .int) [(0, 17, 20, 13)] ({ frames := 7, cells := 1, slots := 6, locals := 113 }) B [.ref (hw_a B 0 0), .int x, .int y, .ref (hw_a B 50 0)] nb S z (hw_pq k nb1 S1) ∧ ∀ S2, eqv S1 S2 → hw_al nb1 ∧ ∀ z2, ∃ Post : hw_T, hw_M l yM_password cM_password 3 (some .boolean) ({ frames := 1, cells := 0, slots := 0, locals := 22 }) B [.ref (hw_a B 20 0), .int x, .int y] nb1 S2 z2 Post ∧ Sg (t + 1) nb1 (fun b S3 => agb k b S3) Post := by
  obtain ⟨hI, hZ, hX, hW, hr0⟩ := id J
  rcases ib_rng x 4 (by decide) with ⟨u, hu, rfl⟩ | hx
  · skip
    have q := ck_out (ck_sv (k := 2) (i := u) (j := 4) (x := 0) (ck_sv (k := 2) (i := u) (j := 2) (x := 1) (ck_sv (k := 2) (i := u) (j := 3) (x := y) (ck_rf hI hZ) ipp_2_3 (by unfold cP; omega) (by decide) (by decide)) (ipp_2_2 (Or.inr rfl)) (by unfold cP; omega) (by decide) (by decide)) (ipp_2_4 ⟨0, by omega, rfl⟩) (by unfold cP; omega) (by decide) (by decide)) (if (1 : Int32) = 0 then 0 else 1)
    refine ⟨0, _, _, m_L_password_ok l B nb S z hI.1 _ _ _ _ q.1.1 _ (m_H_password_c l hst B nb S z u y hu hI), fun S2 e => ?_⟩
    have m := jw_mid J (fun k i j a b => q.2.2 k i j (Or.inl ⟨a, b⟩)) e
    have hI2 := ic_eqv q.1 e
    have r2 := rl_t m.2.2 0
    exact ⟨hI2.1, fun z2 => ⟨_, m_M_password_c l B nb S2 z2 hI2.1 hI2.2.1 u hu y, sg_p q.1 q.2.1 e (rk_sv (rk_sv (rk_sv (rk_t (rk_rf m.1 m.2.1) 0) (by omega)) (by omega)) (by omega)) (rl_out (rl_pass r2 u y) _) ⟨rfl, fun _ => (e.1 50 0 0 (by decide) (by decide)).trans rfl⟩⟩⟩
  · skip
    refine ⟨1, nb, S, m_L_password_IAE l B nb S z hI.1 _ _ nb S hI.1 (m_H_password_a l hst B nb S z x y hx hI), fun S2 e => ?_⟩
    have m := jw_mid J (fun _ _ _ _ _ => rfl) e
    have hI2 := ic_eqv hI e
    exact ⟨hI.1, fun z2 => ⟨_, m_M_password_a l B nb S2 z2 hI2.1 hI2.2.1 x y (hx.imp id fun q => ib_gt q (by decide)), sg_thb J e (by decide)⟩⟩
set_option maxHeartbeats 1000000 in
theorem st_service (l : Launch) (hst : l.stackTraces = false) (B : hw_B) (nb : Nat → Nat) (S : hw_St) (z : Nat) {t : Nat} (J : jw t nb S) (x y : Int32) : ∃ (k : Int32) (nb1 : Nat → Nat) (S1 : hw_St), hw_MW l yL_service cL_service 5 (some .int) [(0, 10, 13, 13)] ({ frames := 7, cells := 1, slots := 6, locals := 113 }) B [.ref (hw_a B 0 0), .int x, .int y, .ref (hw_a B 50 0)] nb S z (hw_pq k nb1 S1) ∧ ∀ S2, eqv S1 S2 → hw_al nb1 ∧ ∀ z2, ∃ Post : hw_T, hw_M l yM_service cM_service 4 (some .int) ({ frames := 1, cells := 0, slots := 0, locals := 22 }) B [.ref (hw_a B 20 0), .int x, .int y] nb1 S2 z2 Post ∧ Sg (t + 1) nb1 (fun b S3 => ag0 k b S3) Post := by
  obtain ⟨hI, hZ, hX, hW, hr0⟩ := id J
  rcases ib_rng x 6 (by decide) with ⟨w, hw, rfl⟩ | hx
  · by_cases h1 : y < 0
    · skip
      refine ⟨1, nb, S, m_L_service_IAE l B nb S z hI.1 _ _ nb S hI.1 (m_H_service_b l hst B nb S z w y hw (Or.inl h1) hI), fun S2 e => ?_⟩
      have m := jw_mid J (fun _ _ _ _ _ => rfl) e
      have hI2 := ic_eqv hI e
      exact ⟨hI.1, fun z2 => ⟨_, m_M_service_b l B nb S2 z2 hI2.1 hI2.2.1 w hw y (Or.inl h1), sg_thr J e (by decide)⟩⟩
    by_cases h2 : y ≤ 63
    · obtain ⟨f, hf, rfl⟩ : ∃ f, f ≤ 63 ∧ y = nI f := nI_of2 (M := 63) (n := 63) rfl h1 h2
      refine ⟨0, nb, _, m_L_service_ok l B nb S z hI.1 _ _ nb _ hI.1 _ (m_H_service_c l hst B nb S z w (nI f) hw h1 h2 hI), fun S2 e => ?_⟩
      have m := jw_mid J (kc_sv (kc_sv (fun _ _ _ _ _ => rfl) (by omega)) (by omega)) e
      have hI1 : ic nb (hw_sv (hw_sv S 6 0 w (nI f)) 50 0 0 (S 6 0 w)) := ic_sv (ic_sv hI ipp_6) ipp_50
      have hI2 := ic_eqv hI1 e
      have r2 := rl_t m.2.2 0
      refine ⟨hI.1, fun z2 => ⟨_, m_M_service_c l B nb S2 z2 hI2.1 hI2.2.1 w hw (nI f) h1 h2, fun oc nb3 S3 z3 hp => ?_⟩⟩
      obtain ⟨rfl, rfl, rfl, -⟩ := hp
      refine ⟨rfl, jw_fin hI1 (iz_sv (iz_sv hZ (by decide) (by decide)) (by decide) (by decide)) e (rq_sv (rq_sv rq_rf (by unfold rQ; omega)) (by unfold rQ; omega)) (ix_sv (ix_t m.1 0) (by omega)) (wr_sv (wr_sv m.2.1 (by omega)) (by omega)) (rl_out (rl_serv r2 (by omega)) _), _, rfl, rfl, fun _ => ?_⟩
      show S2 50 0 0 = S2 28 0 w
      rw [e.1 50 0 0 (by decide) (by decide), m.2.2.1.1 w hw]; rfl
    · skip
      refine ⟨1, nb, S, m_L_service_IAE l B nb S z hI.1 _ _ nb S hI.1 (m_H_service_b l hst B nb S z w y hw (Or.inr h2) hI), fun S2 e => ?_⟩
      have m := jw_mid J (fun _ _ _ _ _ => rfl) e
      have hI2 := ic_eqv hI e
      exact ⟨hI.1, fun z2 => ⟨_, m_M_service_b l B nb S2 z2 hI2.1 hI2.2.1 w hw y (Or.inr h2), sg_thr J e (by decide)⟩⟩
  · skip
    refine ⟨1, nb, S, m_L_service_IAE l B nb S z hI.1 _ _ nb S hI.1 (m_H_service_a l hst B nb S z x y hx hI), fun S2 e => ?_⟩
    have m := jw_mid J (fun _ _ _ _ _ => rfl) e
    have hI2 := ic_eqv hI e
    exact ⟨hI.1, fun z2 => ⟨_, m_M_service_a l B nb S2 z2 hI2.1 hI2.2.1 x y (hx.imp id fun q => ib_gt q (by decide)), sg_thr J e (by decide)⟩⟩
set_option maxHeartbeats 1000000 in
theorem st_callback (l : Launch) (hst : l.stackTraces = false) (B : hw_B) (nb : Nat → Nat) (S : hw_St) (z : Nat) {t : Nat} (J : jw t nb S) (x y : Int32) (hy : ib_b y) : ∃ (k : Int32) (nb1 : Nat → Nat) (S1 : hw_St), hw_MW l yL_callback cL_callback 5 (some .int) [(0, 17, 20, 13)] ({ frames := 7, cells := 1, slots := 6, locals := 113 }) B [.ref (hw_a B 0 0), .int x, .int y, .ref (hw_a B 50 0)] nb S z (hw_pq k nb1 S1) ∧ ∀ S2, eqv S1 S2 → hw_al nb1 ∧ ∀ z2, ∃ Post : hw_T, hw_M l yM_callback cM_callback 4 (some .boolean) ({ frames := 1, cells := 0, slots := 0, locals := 22 }) B [.ref (hw_a B 20 0), .int x, .int y] nb1 S2 z2 Post ∧ Sg (t + 1) nb1 (fun b S3 => agb k b S3) Post := by
  obtain ⟨hI, hZ, hX, hW, hr0⟩ := id J
  by_cases h1 : x < 1
  · skip
    refine ⟨1, nb, S, m_L_callback_IAE l B nb S z hI.1 _ _ nb S hI.1 (m_H_callback_a l hst B nb S z x y (Or.inl h1) hI), fun S2 e => ?_⟩
    have m := jw_mid J (fun _ _ _ _ _ => rfl) e
    have hI2 := ic_eqv hI e
    exact ⟨hI.1, fun z2 => ⟨_, m_M_callback_a l B nb S2 z2 hI2.1 hI2.2.1 x y (Or.inl h1), sg_thb J e (by decide)⟩⟩
  by_cases h2 : x ≤ 5
  · rcases ib_rng x 6 (by decide) with ⟨c, hc, rfl⟩ | hx
    · have hc1 : 1 ≤ c := by
        rcases Nat.eq_zero_or_pos c with rfl | q
        · exact absurd (by decide) h1
        · exact q
      refine ⟨0, nb, _, m_L_callback_ok l B nb S z hI.1 _ _ nb _ hI.1 _ (m_H_callback_c l hst B nb S z c y hc hc1 hy hI), fun S2 e => ?_⟩
      have m := jw_mid J (kc_sv (kc_sv (fun _ _ _ _ _ => rfl) (by omega)) (by omega)) e
      have hI1 : ic nb (hw_sv (hw_sv S 7 0 c y) 50 0 0 (if S 7 0 c = 0 then 0 else 1)) := ic_sv (ic_sv hI (ipp_7 hy (by omega))) ipp_50
      have hI2 := ic_eqv hI1 e
      have r2 := rl_t m.2.2 0
      refine ⟨hI.1, fun z2 => ⟨_, m_M_callback_c l B nb S2 z2 hI2.1 hI2.2.1 c hc hc1 y, fun oc nb3 S3 z3 hp => ?_⟩⟩
      obtain ⟨rfl, rfl, rfl, -⟩ := hp
      refine ⟨rfl, jw_fin hI1 (iz_sv (iz_sv hZ (by decide) (by decide)) (by decide) (by decide)) e (rq_sv (rq_sv rq_rf (by unfold rQ; omega)) (by unfold rQ; omega)) (ix_sv (ix_t m.1 0) (by omega)) (wr_sv (wr_sv m.2.1 (by omega)) (by omega)) (rl_out (rl_call r2) _), _, rfl, rfl, fun _ => ?_⟩
      show S2 50 0 0 = if md_nt (S2 29 0 c) = 0 then 0 else 1
      rw [e.1 50 0 0 (by decide) (by decide), m.2.2.1.2.2.1 c hc1 hc]
      show (if S 7 0 c = 0 then 0 else 1) = if md_nt (md_nt (S 7 0 c)) = 0 then (0 : Int32) else 1
      unfold md_nt
      by_cases e0 : S 7 0 c = 0
      · rw [if_pos e0, if_pos e0]; rfl
      · rw [if_neg e0, if_neg e0]; rfl
    · rcases hx with hx | hx
      · exact absurd (Int32.lt_trans hx (by decide)) h1
      · exact absurd h2 (ib_gt hx (by decide))
  · skip
    refine ⟨1, nb, S, m_L_callback_IAE l B nb S z hI.1 _ _ nb S hI.1 (m_H_callback_a l hst B nb S z x y (Or.inr h2) hI), fun S2 e => ?_⟩
    have m := jw_mid J (fun _ _ _ _ _ => rfl) e
    have hI2 := ic_eqv hI e
    exact ⟨hI.1, fun z2 => ⟨_, m_M_callback_a l B nb S2 z2 hI2.1 hI2.2.1 x y (Or.inr h2), sg_thb J e (by decide)⟩⟩
set_option maxHeartbeats 1000000 in
theorem st_letter (l : Launch) (hst : l.stackTraces = false) (B : hw_B) (nb : Nat → Nat) (S : hw_St) (z : Nat) {t : Nat} (J : jw t nb S) (x : Int32) : ∃ (k : Int32) (nb1 : Nat → Nat) (S1 : hw_St), hw_MW l yL_letter cL_letter 4 (some .int) [(0, 9, 12, 13), (0, 9, 15, 15)] ({ frames := 7, cells := 1, slots := 6, locals := 111 }) B [.ref (hw_a B 0 0), .int x, .ref (hw_a B 50 0)] nb S z (hw_pq k nb1 S1) ∧ ∀ S2, eqv S1 S2 → hw_al nb1 ∧ ∀ z2, ∃ Post : hw_T, hw_M l yM_letter cM_letter 2 (some .int) ({ frames := 1, cells := 0, slots := 0, locals := 22 }) B [.ref (hw_a B 20 0), .int x] nb1 S2 z2 Post ∧ Sg (t + 1) nb1 (fun b S3 => ag0 k b S3) Post := by
  obtain ⟨hI, hZ, hX, hW, hr0⟩ := id J
  by_cases h1 : x < 32
  · skip
    refine ⟨1, nb, S, m_L_letter_IAE l B nb S z hI.1 _ nb S hI.1 (m_H_letter_a l hst B nb S z x (Or.inl h1) hI), fun S2 e => ?_⟩
    have m := jw_mid J (fun _ _ _ _ _ => rfl) e
    have hI2 := ic_eqv hI e
    exact ⟨hI.1, fun z2 => ⟨_, m_M_letter_a l B nb S2 z2 hI2.1 hI2.2.1 x (Or.inl h1), sg_thr J e (by decide)⟩⟩
  by_cases h2 : x ≤ 126
  · obtain ⟨n, hn, en⟩ := (hI.2.2.2.2.2.1 16 (by decide)).1
    have hn : n ≤ 8 := hn
    by_cases h8 : n = 8
    · skip
      refine ⟨2, nb, S, m_L_letter_ISE l B nb S z hI.1 _ nb S hI.1 (m_H_letter_b l hst B nb S z x h1 h2 (by rw [en, h8]; decide) hI), fun S2 e => ?_⟩
      have m := jw_mid J (fun _ _ _ _ _ => rfl) e
      have hI2 := ic_eqv hI e
      exact ⟨hI.1, fun z2 => ⟨_, m_M_letter_b l B nb S2 z2 hI2.1 hI2.2.1 x h1 h2 (by rw [m.2.2.1.2.1, en, h8]; rfl), sg_thr J e (by decide)⟩⟩
    · refine ⟨0, nb, _, m_L_letter_ok l B nb S z hI.1 _ nb _ hI.1 _ (m_H_letter_c l hst B nb S z x h1 h2 n en (by omega) hI), fun S2 e => ?_⟩
      have m := jw_mid J (kc_sv (kc_sv (fun _ _ _ _ _ => rfl) (by omega)) (by omega)) e
      have hI1 : ic nb (hw_sv (hw_sv S 4 16 1 (nI (n + 1))) 50 0 0 (nI (n + 1))) := ic_sv (ic_sv hI (ipp_4_1 ⟨n + 1, (by show n + 1 ≤ 8; omega), rfl⟩)) ipp_50
      have hI2 := ic_eqv hI1 e
      have hd : S2 20 0 3 = nI n := m.2.2.1.2.1.trans en
      have e3 : S2 20 0 3 + 1 = nI (n + 1) := by rw [hd, nI_succ]
      refine ⟨hI.1, fun z2 => ⟨_, m_M_letter_c l B nb S2 z2 hI2.1 hI2.2.1 x h1 h2 n (by omega) hd, fun oc nb3 S3 z3 hp => ?_⟩⟩
      obtain ⟨rfl, rfl, rfl, -⟩ := hp
      refine ⟨rfl, jw_fin hI1 (iz_sv (iz_sv hZ (by decide) (by decide)) (by decide) (by decide)) e (rq_sv (rq_sv (rq_sv rq_rf (by unfold rQ; omega)) (by unfold rQ; omega)) (by unfold rQ; omega)) (by rw [e3]; exact ix_dr (ix_sv (ix_t m.1 0) (by omega)) (by omega)) (wr_sv (wr_sv (wr_sv m.2.1 (by omega)) (by omega)) (by omega)) (rl_out (rl_dr m.2.2 (by rw [hw_sv_same, e3]; rfl) (fun k i j p w => by unfold hw_sv; rw [if_neg (fun q => by omega)]) (fun k i j p w => by unfold hw_sv; rw [if_neg (fun q => by omega), if_neg (fun q => by unfold ur at p; omega), if_neg (fun q => by unfold ur at p; omega)])) _), _, rfl, rfl, fun _ => ?_⟩
      show S2 50 0 0 = S2 20 0 3 + 1
      rw [e.1 50 0 0 (by decide) (by decide), e3]; rfl
  · skip
    refine ⟨1, nb, S, m_L_letter_IAE l B nb S z hI.1 _ nb S hI.1 (m_H_letter_a l hst B nb S z x (Or.inr h2) hI), fun S2 e => ?_⟩
    have m := jw_mid J (fun _ _ _ _ _ => rfl) e
    have hI2 := ic_eqv hI e
    exact ⟨hI.1, fun z2 => ⟨_, m_M_letter_a l B nb S2 z2 hI2.1 hI2.2.1 x (Or.inr h2), sg_thr J e (by decide)⟩⟩
set_option maxHeartbeats 1000000 in
theorem st_text (l : Launch) (hst : l.stackTraces = false) (B : hw_B) (nb : Nat → Nat) (S : hw_St) (z : Nat) {t : Nat} (J : jw t nb S) (x y : Int32) : ∃ (k : Int32) (nb1 : Nat → Nat) (S1 : hw_St), hw_MW l yL_text cL_text 5 (some .int) [(0, 10, 13, 13)] ({ frames := 7, cells := 1, slots := 6, locals := 114 }) B [.ref (hw_a B 0 0), .int x, .int y, .ref (hw_a B 50 0)] nb S z (hw_pq k nb1 S1) ∧ ∀ S2, eqv S1 S2 → hw_al nb1 ∧ ∀ z2, ∃ Post : hw_T, hw_M l yM_text cM_text 5 (some .int) ({ frames := 2, cells := 0, slots := 0, locals := 60 }) B [.ref (hw_a B 20 0), .int x, .int y] nb1 S2 z2 Post ∧ Sg (t + 1) nb1 (fun b S3 => ag0 k b S3) Post := by
  obtain ⟨hI, hZ, hX, hW, hr0⟩ := id J
  rcases ib_rng x 4 (by decide) with ⟨u, hu, rfl⟩ | hx
  · rcases ib_rng y 4 (by decide) with ⟨j, hj, rfl⟩ | hy
    · obtain ⟨n, hn, en⟩ := (hI.2.2.2.2.2.1 16 (by decide)).1
      have hn : n ≤ 8 := hn
      refine ⟨0, nb, _, m_L_text_ok l B nb S z hI.1 _ _ nb _ hI.1 _ (m_H_text_c l hst B nb S z u j n hu hj en hn hI), fun S2 e => ?_⟩
      have m := jw_mid J (kc_sv (kc_sv (kc_sv (fun _ _ _ _ _ => rfl) (by omega)) (by omega)) (by omega)) e
      have hI1 : ic nb (hw_sv (hw_sv (hw_sv S 4 (4 * u + j) 1 (nI n)) 4 16 1 0) 50 0 0 (nI n)) := ic_sv (ic_sv (ic_sv hI (ipp_4_1 ⟨n, (by rw [hw_ln8 (by omega)]; exact hn), rfl⟩)) (ipp_4_1 ⟨0, Nat.zero_le _, rfl⟩)) ipp_50
      have hI2 := ic_eqv hI1 e
      have hd : S2 20 0 3 = nI n := m.2.2.1.2.1.trans en
      refine ⟨hI.1, fun z2 => ⟨_, m_M_text_c l B nb S2 z2 hI2.1 hI2.2.1 u j n hu hj hn hd, fun oc nb3 S3 z3 hp => ?_⟩⟩
      obtain ⟨rfl, rfl, h3, -⟩ := hp
      have q : rq S2 (hw_sv (hw_sv (hw_sv S2 20 0 0 0) 23 0 (4 * u + j) (nI n)) 20 0 3 0) := rq_sv (rq_sv (rq_sv rq_rf (by unfold rQ; omega)) (by unfold rQ; omega)) (by unfold rQ; omega)
      have hX3 : ix (nb3 9) (nb3 11) (hw_sv (hw_sv (hw_sv S2 20 0 0 0) 23 0 (4 * u + j) (nI n)) 20 0 3 0) := ix_dr (m := 0) (ix_ln (ix_t m.1 0) hn) (by omega)
      refine ⟨rfl, jw_fin hI1 (iz_sv (iz_sv (iz_sv hZ (by decide) (by decide)) (by decide) (by decide)) (by decide) (by decide)) e (fun k i j p => (h3 k i j (by unfold rQ at p; omega)).trans (q k i j p)) (ix_eq hX3 fun k j p => h3 k 0 j (by omega)) (by unfold wr; rw [h3 20 0 29 (by decide)]; exact m.2.1) (rl_out (rl_dr m.2.2 ?_ (fun k i j p w => by unfold hw_sv; rw [if_neg (fun q => by omega), if_neg (fun q => by omega)]) (fun k i j p w => (h3 k i j (by unfold ur at p; omega)).trans (by unfold hw_sv; rw [if_neg (fun q => by omega), if_neg (fun q => by unfold ur at p; omega), if_neg (fun q => by unfold ur at p; omega)]))) _), _, rfl, (h3 20 0 0 (by decide)).trans rfl, fun _ => (h3 50 0 0 (by decide)).trans ?_⟩
      · rw [h3 20 0 3 (by decide), hw_sv_same, hw_sv_same]
      · show S2 50 0 0 = nI n
        rw [e.1 50 0 0 (by decide) (by decide)]; rfl
    · skip
      refine ⟨1, nb, S, m_L_text_IAE l B nb S z hI.1 _ _ nb S hI.1 (m_H_text_b l hst B nb S z u y hu (hy.imp id fun q => ib_gt q (by decide)) hI), fun S2 e => ?_⟩
      have m := jw_mid J (fun _ _ _ _ _ => rfl) e
      have hI2 := ic_eqv hI e
      exact ⟨hI.1, fun z2 => ⟨_, m_M_text_b l B nb S2 z2 hI2.1 hI2.2.1 u hu y (hy.imp id fun q => ib_gt q (by decide)), sg_thr J e (by decide)⟩⟩
  · skip
    refine ⟨1, nb, S, m_L_text_IAE l B nb S z hI.1 _ _ nb S hI.1 (m_H_text_a l hst B nb S z x y hx hI), fun S2 e => ?_⟩
    have m := jw_mid J (fun _ _ _ _ _ => rfl) e
    have hI2 := ic_eqv hI e
    exact ⟨hI.1, fun z2 => ⟨_, m_M_text_a l B nb S2 z2 hI2.1 hI2.2.1 x y (hx.imp id fun q => ib_gt q (by decide)), sg_thr J e (by decide)⟩⟩
theorem sg_r {t z : Nat} {nb : Nat → Nat} {S : hw_St} {a b : Int32} (J : jw t nb S) (h : b = a) : Sg (t + 1) nb (fun b _ => b = a) (hw_p (.inl (some (.int b))) nb (hw_sv S 20 0 0 0) z) := fun oc nb3 S3 z3 hp => by
  obtain ⟨rfl, rfl, rfl, -⟩ := hp
  exact ⟨rfl, jw_fin J.1 J.2.1 (eqv.rf J.1.2.2.2.2.2.1) (rq_sv rq_rf (by unfold rQ; omega)) (ix_t J.2.2.1 0) J.2.2.2.1 (rl_cg (rl_t J.2.2.2.2 0) (Nat.le_succ _) (fun _ _ _ _ => rfl) (fun _ _ _ _ => rfl)), b, rfl, h⟩
theorem ib_oo {x : Int32} : ib_o x = if x = 0 then 0 else 1 := rfl
theorem md_nt_o {x : Int32} (h : ib_b x) : (if md_nt x = 0 then (1 : Int32) else 0) = ib_o x := by
  rcases h with rfl | rfl <;> rfl
theorem ses_eq {C R : hw_St} {i : Nat} (r : rS1 C R i) (h5 : ib_b (C 9 i 5)) (x : Int32) : md_ses R i x = hs_ses C i x := by
  obtain ⟨e1, e2, e3, e4, e5⟩ := r
  unfold md_ses hs_ses
  rw [e1, e2, e3, e4, e5, md_nt_o h5]
  rfl
theorem nI_nlt' {x : Int32} {n : Nat} (h : x < nI n) (h0 : ¬ x < 0) (hn : n < 2 ^ 31) : ∃ j, j < n ∧ x = nI j := ib_in h0 h hn
set_option maxHeartbeats 1000000 in
theorem st_document (l : Launch) (B : hw_B) (nb : Nat → Nat) (S : hw_St) (z : Nat) {t : Nat} (J : jw t nb S) (x : Int32) : ∃ (a : Int32) (Post : hw_T), hw_M l yH_document cH_document 2 (some .int) ({ frames := 1, cells := 0, slots := 0, locals := 21 }) B [.ref (hw_a B 0 0), .int x] nb S z Post ∧ (∀ oc nb1 S1 z1, Post oc nb1 S1 z1 → nb1 = nb ∧ S1 = S ∧ ∃ a, oc = .inl (some (.int a))) ∧ ∀ z2, ∃ Post : hw_T, hw_M l yM_document cM_document 2 (some .int) ({ frames := 0, cells := 0, slots := 0, locals := 0 }) B [.ref (hw_a B 20 0), .int x] nb S z2 Post ∧ Sg (t + 1) nb (fun b _ => True) Post := by
  obtain ⟨hI, hZ, hX, hW, hr0⟩ := id J
  exact ⟨0, _, m_H_document l B nb S z x hI, fun oc nb1 S1 z1 hp => by obtain ⟨⟨r, rfl⟩, rfl, rfl, -⟩ := hp; exact ⟨rfl, rfl, _, rfl⟩, fun z2 => ⟨_, m_M_document l B nb S z2 hI.1 hI.2.1 x hW, fun oc nb3 S3 z3 hp => by
    obtain ⟨⟨r, rfl⟩, rfl, rfl, -⟩ := hp
    obtain ⟨a1, a2, -⟩ := sg_r (z := z2) (b := 0) J rfl _ _ _ _ hw_pi
    exact ⟨rfl, a2, r, rfl, trivial⟩⟩⟩
set_option maxHeartbeats 1000000 in
theorem st_session (l : Launch) (B : hw_B) (nb : Nat → Nat) (S : hw_St) (z : Nat) {t : Nat} (J : jw t nb S) (x y : Int32) : ∃ (a : Int32) (Post : hw_T), hw_M l yH_session cH_session 4 (some .int) ({ frames := 1, cells := 0, slots := 0, locals := 21 }) B [.ref (hw_a B 0 0), .int x, .int y] nb S z Post ∧ (∀ oc nb1 S1 z1, Post oc nb1 S1 z1 → nb1 = nb ∧ S1 = S ∧ oc = .inl (some (.int a))) ∧ ∀ z2, ∃ Post : hw_T, hw_M l yM_session cM_session 3 (some .int) ({ frames := 2, cells := 0, slots := 0, locals := 60 }) B [.ref (hw_a B 20 0), .int x, .int y] nb S z2 Post ∧ Sg (t + 1) nb (fun b _ => b = a) Post := by
  obtain ⟨hI, hZ, hX, hW, hr0⟩ := id J
  rcases gt9 hI x with ⟨s, hs, rfl⟩ | hx
  · exact ⟨_, _, m_H_session_y l B nb S z s y hI hs, fun oc nb1 S1 z1 hp => by obtain ⟨rfl, rfl, rfl, -⟩ := hp; exact ⟨rfl, rfl, rfl⟩, fun z2 => ⟨_, m_M_session_y l B nb S z2 hI.1 hI.2.1 s (nb 9) hs hI.2.2.1.1 hX.1.1.2 y, sg_r J (ses_eq (hr0.2.2.2.2.1 s hs) (hI.2.2.2.2.2.2.1 s hs).2.2.2.2 y)⟩⟩
  · exact ⟨_, _, m_H_session_n l B nb S z hI.1 hI.2.1 x y hx, fun oc nb1 S1 z1 hp => by obtain ⟨rfl, rfl, rfl, -⟩ := hp; exact ⟨rfl, rfl, rfl⟩, fun z2 => ⟨_, m_M_session_n l B nb S z2 hI.1 hI.2.1 x y (by rw [hX.1.1.2]; exact hx.imp id fun q => nI_ge_p (by have := hI.2.2.1.1; omega) (by rw [← hI.2.2.1.2]; exact q)), sg_r J rfl⟩⟩
theorem gr_fuel {ns nt : Nat} {S : hw_St} (h : im ns nt S) : ∀ (f f' : Nat) (x : Int32), f ≤ nt → f' ≤ nt → (x = -1 ∨ ∃ p, p < f ∧ p < f' ∧ x = nI p) → md_gr S f x = md_gr S f' x := by
  have hnt := h.2.1.1
  intro f
  induction f with
  | zero =>
    intro f' x _ _ hx
    rcases hx with rfl | ⟨p, hp, -, -⟩
    · rw [md_gr_n, md_gr_n]
    · exact absurd hp (Nat.not_lt_zero _)
  | succ f ih =>
    intro f' x h1 h2 hx
    rcases hx with rfl | ⟨p, hp, hp2, rfl⟩
    · rw [md_gr_n, md_gr_n]
    · obtain ⟨e, rfl⟩ : ∃ e, f' = e + 1 := ⟨f' - 1, by omega⟩
      rw [md_gr_y S f p (by omega), md_gr_y S e p (by omega)]
      split
      · rfl
      · refine ih e _ (by omega) (by omega) ?_
        rcases h.2.2.2.2.2.2.2.1 p (by omega) with w | ⟨q, hq, w⟩
        · exact Or.inl w
        · exact Or.inr ⟨q, by omega, by omega, w⟩
def aA (C R : hw_St) (t : Nat) : Int32 := if R 40 0 t < 0 then 0 else C 11 (R 40 0 t).toNatClampNeg 6
theorem g_A {ns nt : Nat} {C R : hw_St} (h : im ns nt R) (hk : rK nt C R) : ∀ t, t < nt → (md_g R t = -1 ∧ aA C R t = 0) ∨ ∃ g, g < t ∧ md_g R t = nI g ∧ aA C R t = 1 + aA C R g := by
  have hnt := h.2.1.1
  intro t
  induction t using Nat.strongRecOn with
  | ind t ih =>
    intro ht
    rcases h.2.2.2.2.2.2.2.1 t ht with w | ⟨p, hp, w⟩
    · left
      unfold md_g aA
      rw [w, md_gr_n, if_pos (by decide)]
      exact ⟨rfl, rfl⟩
    · obtain ⟨f, rfl⟩ : ∃ f, t = f + 1 := ⟨t - 1, by omega⟩
      have ea : aA C R (f + 1) = C 11 p 6 := by
        unfold aA
        rw [w, if_neg (nI_pos (by omega)), nI_clamp (by omega)]
      have eg : md_g R (f + 1) = if R 35 0 p = 2 then nI p else md_gr R f (R 40 0 p) := by
        unfold md_g
        rw [w, md_gr_y R f p (by omega)]
      have ep : C 11 p 6 = md_l0 R p + aA C R p := hk p (by omega)
      unfold md_l0 at ep
      by_cases k2 : R 35 0 p = 2
      · right
        rw [if_pos k2] at eg ep
        exact ⟨p, hp, eg, by rw [ea, ep]⟩
      · rw [if_neg k2] at eg ep
        rw [Int32.zero_add] at ep
        have ef : md_gr R f (R 40 0 p) = md_g R p := by
          unfold md_g
          refine gr_fuel h f p _ (by omega) (by omega) ?_
          rcases h.2.2.2.2.2.2.2.1 p (by omega) with w2 | ⟨q, hq, w2⟩
          · exact Or.inl w2
          · exact Or.inr ⟨q, by omega, by omega, w2⟩
        rw [eg, ef, ea, ep]
        rcases ih p (by omega) (by omega) with q | ⟨g, hg, q⟩
        · exact Or.inl q
        · exact Or.inr ⟨g, by omega, q⟩
theorem lnk_A {ns nt : Nat} {C R : hw_St} (h : im ns nt R) (hk : rK nt C R) : ∀ t, t < nt → ∀ (f : Nat) (l : Int32), t ≤ f → md_lnk R f (md_g R t) l = l + aA C R t := by
  have hnt := h.2.1.1
  intro t
  induction t using Nat.strongRecOn with
  | ind t ih =>
    intro ht f l hf
    rcases g_A h hk t ht with ⟨e1, e2⟩ | ⟨g, hg, e1, e2⟩
    · rw [e1, e2, md_lnk_n, Int32.add_zero]
    · obtain ⟨e, rfl⟩ : ∃ e, f = e + 1 := ⟨f - 1, by omega⟩
      rw [e1, e2, md_lnk_y R e g l (by omega), ih g hg (by omega) e (l + 1) (by omega), Int32.add_assoc]
theorem lnk_eq {ns nt : Nat} {C R : hw_St} (h : im ns nt R) (hk : rK nt C R) {t : Nat} (ht : t < nt) : md_lnk R t (md_g R t) (md_l0 R t) = C 11 t 6 := by
  rw [lnk_A h hk t ht t _ (Nat.le_refl _)]
  exact (hk t ht).symm
theorem abt_eq {C R : hw_St} {i s : Nat} {L : Int32} (a : rA C R) (q : rT1 C R i) (r : rS1 C R s) (hb : ib_b (C 9 s 5)) (hL : L = C 11 i 6) (x : Int32) : md_abt R i s L x = hs_abt C i s x := by
  have hg := good_eq a q r hb
  obtain ⟨e1, e2, e3, e4, e5, e6, e7⟩ := q
  unfold md_abt hs_abt
  rw [← hg, e1, e2, e3, e4, e5, e6, hL]
  rfl
set_option maxHeartbeats 1000000 in
theorem st_about (l : Launch) (B : hw_B) (nb : Nat → Nat) (S : hw_St) (z : Nat) {t : Nat} (J : jw t nb S) (x y : Int32) : ∃ (a : Int32) (Post : hw_T), hw_M l yH_about cH_about 4 (some .int) ({ frames := 1, cells := 0, slots := 0, locals := 22 }) B [.ref (hw_a B 0 0), .int x, .int y] nb S z Post ∧ (∀ oc nb1 S1 z1, Post oc nb1 S1 z1 → nb1 = nb ∧ S1 = S ∧ oc = .inl (some (.int a))) ∧ ∀ z2, ∃ Post : hw_T, hw_M l yM_about cM_about 5 (some .int) ({ frames := 2, cells := 0, slots := 0, locals := 60 }) B [.ref (hw_a B 20 0), .int x, .int y] nb S z2 Post ∧ Sg (t + 1) nb (fun b _ => b = a) Post := by
  obtain ⟨hI, hZ, hX, hW, hr0⟩ := id J
  have h9 := hI.2.2.1.1
  rcases gt11 hI x with ⟨i, hi, rfl⟩ | hx
  · obtain ⟨s, hs, hts⟩ := (hI.2.2.2.2.2.2.2.1 i hi).2.2.1
    have r2 := rl_t hr0 0
    exact ⟨_, _, m_H_about_y l B nb S z i y s hI hi hs hts, fun oc nb1 S1 z1 hp => by obtain ⟨rfl, rfl, rfl, -⟩ := hp; exact ⟨rfl, rfl, rfl⟩, fun z2 => ⟨_, m_M_about_y l B nb S z2 hI.1 hI.2.1 (nb 9) (nb 11) hX.1 i hi s (by omega) ((hr0.2.2.2.2.2.1 i hi).2.1.trans hts) y, sg_r J (abt_eq r2.1 (r2.2.2.2.2.2.1 i hi) (r2.2.2.2.2.1 s hs) (hI.2.2.2.2.2.2.1 s hs).2.2.2.2 (lnk_eq (ix_t hX 0).1 r2.2.2.2.2.2.2.2.2 hi) y)⟩⟩
  · exact ⟨_, _, m_H_about_n l B nb S z hI.1 hI.2.1 x y hx, fun oc nb1 S1 z1 hp => by obtain ⟨rfl, rfl, rfl, -⟩ := hp; exact ⟨rfl, rfl, rfl⟩, fun z2 => ⟨_, m_M_about_n l B nb S z2 hI.1 hI.2.1 x y (by rw [hX.1.2.1.2]; exact hx.imp id fun q => nI_ge_p (by have := hI.2.2.2.1.1; omega) (by rw [← hI.2.2.2.1.2]; exact q)), sg_r J rfl⟩⟩
set_option maxHeartbeats 1000000 in
theorem st_message (l : Launch) (B : hw_B) (nb : Nat → Nat) (S : hw_St) (z : Nat) {t : Nat} (J : jw t nb S) (x : Int32) : ∃ (a : Int32) (Post : hw_T), hw_M l yH_message cH_message 2 (some .int) ({ frames := 0, cells := 0, slots := 0, locals := 0 }) B [.ref (hw_a B 0 0), .int x] nb S z Post ∧ (∀ oc nb1 S1 z1, Post oc nb1 S1 z1 → nb1 = nb ∧ S1 = S ∧ oc = .inl (some (.int a))) ∧ ∀ z2, ∃ Post : hw_T, hw_M l yM_message cM_message 2 (some .int) ({ frames := 0, cells := 0, slots := 0, locals := 0 }) B [.ref (hw_a B 20 0), .int x] nb S z2 Post ∧ Sg (t + 1) nb (fun b _ => b = a) Post := by
  obtain ⟨hI, hZ, hX, hW, hr0⟩ := id J
  obtain ⟨m, hm, e1, e2, e3⟩ := hr0.2.2.2.2.2.2.1
  refine ⟨_, _, m_H_message l B nb S z x hI, fun oc nb1 S1 z1 hp => by obtain ⟨rfl, rfl, rfl, -⟩ := hp; exact ⟨rfl, rfl, rfl⟩, fun z2 => ⟨_, m_M_message l B nb S z2 hI.1 hI.2.1 x m (by omega) e2, sg_r J ?_⟩⟩
  by_cases h0 : x < 0
  · rw [if_pos h0, if_pos h0]
  · rw [if_neg h0, if_neg h0, e1, e2]
    by_cases h1 : nI m ≤ x
    · rw [if_pos h1, if_pos h1]
    · rw [if_neg h1, if_neg h1]
      obtain ⟨j, hj, rfl⟩ := ib_in h0 (Int32.not_le.mp h1) (by omega)
      rw [nI_clamp (by omega)]; exact e3 j hj
set_option maxHeartbeats 1000000 in
theorem st_house (l : Launch) (B : hw_B) (nb : Nat → Nat) (S : hw_St) (z : Nat) {t : Nat} (J : jw t nb S) (x : Int32) : ∃ (a : Int32) (Post : hw_T), hw_M l yH_house cH_house 2 (some .int) ({ frames := 2, cells := 0, slots := 0, locals := 43 }) B [.ref (hw_a B 0 0), .int x] nb S z Post ∧ (∀ oc nb1 S1 z1, Post oc nb1 S1 z1 → nb1 = nb ∧ S1 = S ∧ oc = .inl (some (.int a))) ∧ ∀ z2, ∃ Post : hw_T, hw_M l yM_house cM_house 2 (some .int) ({ frames := 2, cells := 0, slots := 0, locals := 60 }) B [.ref (hw_a B 20 0), .int x] nb S z2 Post ∧ Sg (t + 1) nb (fun b _ => b = a) Post := by
  obtain ⟨hI, hZ, hX, hW, hr0⟩ := id J
  have hcl := hr0.1.2.2.2
  have h12 : S 20 0 12 = S 0 0 8 := hr0.2.2.2.2.2.2.2.1.1.trans hI.2.2.1.2.symm
  have h18 : S 20 0 18 = S 0 0 9 := hr0.2.2.2.2.2.2.2.1.2.trans hI.2.2.2.1.2.symm
  have h26 : S 20 0 26 = S 0 0 10 := by
    obtain ⟨m, -, e1, e2, -⟩ := hr0.2.2.2.2.2.2.1
    rw [e1, e2]
  have h3 : S 20 0 3 = S 4 16 1 := hr0.1.2.1
  by_cases hy : x = 0 ∨ x = 1 ∨ x = 2 ∨ x = 3 ∨ x = 4
  · refine ⟨_, _, m_H_house_y l B nb S z x hI hy, fun oc nb1 S1 z1 hp => by obtain ⟨rfl, rfl, rfl, -⟩ := hp; exact ⟨rfl, rfl, rfl⟩, fun z2 => ⟨_, m_M_house_n l B nb S z2 hI.1 hI.2.1 x (Or.inl (by rcases hy with rfl | rfl | rfl | rfl | rfl <;> decide)), sg_r J ?_⟩⟩
    unfold md_hou hs_house
    rw [hcl, h12, h18, h26, h3]
    rcases hy with rfl | rfl | rfl | rfl | rfl <;> rfl
  · have hn : ¬ x = 0 ∧ ¬ x = 1 ∧ ¬ x = 2 ∧ ¬ x = 3 ∧ ¬ x = 4 := ⟨fun q => hy (Or.inl q), fun q => hy (Or.inr (Or.inl q)), fun q => hy (Or.inr (Or.inr (Or.inl q))), fun q => hy (Or.inr (Or.inr (Or.inr (Or.inl q)))), fun q => hy (Or.inr (Or.inr (Or.inr (Or.inr q))))⟩
    obtain ⟨e0, e1, e2, e3, e4⟩ := hn
    have hmd : md_hou S x = -1 := by unfold md_hou; rw [if_neg e0, if_neg e1, if_neg e2, if_neg e3, if_neg e4]
    by_cases h5 : x < 5
    · refine ⟨_, _, m_H_house_n l B nb S z hI.1 x (hou_n h5 e0 e1 e2 e3 e4) e0 e1 e2 e3 e4, fun oc nb1 S1 z1 hp => by obtain ⟨rfl, rfl, rfl, -⟩ := hp; exact ⟨rfl, rfl, rfl⟩, fun z2 => ⟨_, m_M_house_n l B nb S z2 hI.1 hI.2.1 x (Or.inl h5), sg_r J hmd⟩⟩
    · by_cases h8 : x ≤ 8
      · obtain ⟨u, hu, e⟩ := hou_in h5 h8
        exact ⟨_, _, m_H_house_u l B nb S z hI.1 hI.2.1 x u hu e e0 e1 e2 e3 e4, fun oc nb1 S1 z1 hp => by obtain ⟨rfl, rfl, rfl, -⟩ := hp; exact ⟨rfl, rfl, rfl⟩, fun z2 => ⟨_, m_M_house_y l B nb S z2 hI.1 hI.2.1 x h5 h8 u hu e, sg_r J (hr0.2.2.1 u hu).2.2.1⟩⟩
      · exact ⟨_, _, m_H_house_n l B nb S z hI.1 x (hou_n8 h8) e0 e1 e2 e3 e4, fun oc nb1 S1 z1 hp => by obtain ⟨rfl, rfl, rfl, -⟩ := hp; exact ⟨rfl, rfl, rfl⟩, fun z2 => ⟨_, m_M_house_n l B nb S z2 hI.1 hI.2.1 x (Or.inr h8), sg_r J hmd⟩⟩
