/-! One step of the law: the class, then the reference. -/
/-- what must hold behind both calls -/
def Sg (nb1 : Nat → Nat) (ag : Int32 → hw_St → Prop) (Post : hw_T) : Prop := ∀ oc nb3 S3 z3, Post oc nb3 S3 z3 → nb3 = nb1 ∧ jv nb1 S3 ∧ ∃ b, oc = .inl (some (.int b)) ∧ ag b S3
/-- both threw alike, or both answered alike -/
def ag0 (k b : Int32) (S3 : hw_St) : Prop := S3 20 0 0 = k ∧ (k = 0 → S3 50 0 0 = b)
def agb (k b : Int32) (S3 : hw_St) : Prop := S3 20 0 0 = k ∧ (k = 0 → S3 50 0 0 = if b = 0 then 0 else 1)
theorem Sg_r {nb : Nat → Nat} {S : hw_St} {Post : hw_T} (J : jv nb S) (h : Rp nb S Post) : Sg nb (fun _ _ => True) Post := fun oc nb3 S3 z3 hp => by
  obtain ⟨e, ⟨b, hb⟩, ns, nt, q⟩ := h oc nb3 S3 z3 hp
  exact ⟨e, jv_r J q, b, hb, trivial⟩
theorem jv_t {nb : Nat → Nat} {S : hw_St} (J : jv nb S) (x : Int32) : jv nb (hw_sv S 20 0 0 x) := by
  obtain ⟨-, -, ⟨ns, nt, hX⟩, hW, -⟩ := id J
  exact jv_r J (rk_t (rk_rf hX hW) x)
theorem jv_e {nb : Nat → Nat} {S S2 : hw_St} (J : jv nb S) (e : eqv S S2) : jv nb S2 := jv_c J (ck_rf J.1 J.2.1) e
theorem sg_thr {nb : Nat → Nat} {S S2 : hw_St} {z : Nat} {b k : Int32} (J : jv nb S) (e : eqv S S2) (hk : ¬ k = 0) : Sg nb (fun b S3 => ag0 k b S3) (hw_p (.inl (some (.int b))) nb (hw_sv S2 20 0 0 k) z) := fun oc nb3 S3 z3 hp => by
  obtain ⟨rfl, rfl, rfl, -⟩ := hp
  exact ⟨rfl, jv_t (jv_e J e) k, b, rfl, hw_sv_same, fun q => absurd q hk⟩
theorem sg_thb {nb : Nat → Nat} {S S2 : hw_St} {z : Nat} {b k : Int32} (J : jv nb S) (e : eqv S S2) (hk : ¬ k = 0) : Sg nb (fun b S3 => agb k b S3) (hw_p (.inl (some (.int b))) nb (hw_sv S2 20 0 0 k) z) := fun oc nb3 S3 z3 hp => by
  obtain ⟨rfl, rfl, rfl, -⟩ := hp
  exact ⟨rfl, jv_t (jv_e J e) k, b, rfl, hw_sv_same, fun q => absurd q hk⟩
theorem ix_sv {ns nt : Nat} {S : hw_St} (h : ix ns nt S) {k i j : Nat} {x : Int32} (hk : ¬ (k = 23 ∨ k = 30 ∨ k = 34 ∨ k = 35 ∨ k = 36 ∨ k = 37 ∨ k = 40 ∨ (k = 20 ∧ (j = 3 ∨ j = 12 ∨ j = 18 ∨ j = 26)))) : ix ns nt (hw_sv S k i j x) :=
  ix_eq h fun k' j' p => by unfold hw_sv; rw [if_neg (fun q => hk (by rw [← q.1, ← q.2.2]; exact p))]
theorem ix_ev {ns nt : Nat} {S S2 : hw_St} (h : ix ns nt S) (e : eqv S S2) : ix ns nt S2 := ix_eq h fun k j p => e.1 k 0 j (by omega) (by omega)
theorem ix_dr {ns nt m : Nat} {S : hw_St} (h : ix ns nt S) (hm : m ≤ 8) : ix ns nt (hw_sv S 20 0 3 (nI m)) := by
  obtain ⟨⟨h1, h2, -, h4⟩, nm, g1, g2⟩ := h
  refine ⟨⟨h1, h2, ⟨m, hm, rfl⟩, h4⟩, nm, g1, ?_⟩
  rw [md_po_eq (S := S) (S' := hw_sv S 20 0 3 (nI m)) nt (fun _ _ => rfl) (fun _ _ => rfl)]; exact g2
theorem ix_ln {ns nt m t : Nat} {S : hw_St} (h : ix ns nt S) (hm : m ≤ 8) : ix ns nt (hw_sv S 23 0 t (nI m)) := by
  obtain ⟨⟨h1, h2, h3, h4, h5⟩, nm, g1, g2⟩ := h
  refine ⟨⟨h1, h2, h3, fun i hi => ?_, h5⟩, nm, g1, ?_⟩
  · rw [hw_sv_row]
    split
    · exact ⟨m, hm, rfl⟩
    · exact h4 i hi
  · rw [md_po_eq (S := S) (S' := hw_sv S 23 0 t (nI m)) nt (fun _ _ => rfl) (fun _ _ => rfl)]; exact g2
theorem wr_sv {S : hw_St} (h : wr S) {k i j : Nat} {x : Int32} (hk : ¬ (k = 20 ∧ j = 29)) : wr (hw_sv S k i j x) := by
  have e : hw_sv S k i j x 20 0 29 = S 20 0 29 := by
    unfold hw_sv; rw [if_neg (fun q => hk ⟨q.1.symm, q.2.2.symm⟩)]
  unfold wr; rw [e]; exact h
theorem wr_ev {S S2 : hw_St} (h : wr S) (e : eqv S S2) : wr S2 := by
  unfold wr; rw [e.1 20 0 29 (by decide) (by decide)]; exact h
theorem ipp_4_1 {nb : Nat → Nat} {i : Nat} {x : Int32} (hx : ∃ n, n ≤ hw_ln 5 i ∧ x = nI n) : ipp nb 4 i 1 x := by
  refine ⟨?_, ?_, ?_, ?_, ?_, ?_, ?_, ?_, ?_, ?_, ?_, ?_, ?_⟩ <;> first | (intro v hi hv; cases hv; done) | (rintro ⟨q, -⟩; exact absurd q (by decide)) | (intro _; exact hx)
theorem ipp_7 {nb : Nat → Nat} {j : Nat} {x : Int32} (hx : ib_b x) (hj : ¬ j = 0) : ipp nb 7 0 j x := by
  refine ⟨?_, ?_, ?_, ?_, ?_, ?_, ?_, ?_, ?_, ?_, ?_, ?_, ?_⟩ <;> first | (intro v hi hv; cases hv; done) | (rintro ⟨q, -⟩; exact absurd q (by decide)) | (rintro ⟨-, -, q⟩; exact absurd q hj) | (intro _; exact hx)
theorem md_tk_0 (nt : Nat) (S : hw_St) (k : Nat) : md_tk nt S k 20 0 0 = S 20 0 0 := by
  induction k with
  | zero => rfl
  | succ k ih =>
    unfold md_tk md_t1
    repeat' split
    all_goals first | exact ih | exact ((md_endk_r nt) 20 0 0 (by decide) (by decide)).trans ih
/-- kind 22 (the reference's texts) is in nobody's invariant -/
theorem jv_22 {nb : Nat → Nat} {S S' : hw_St} (J : jv nb S) (h : ∀ a b c, ¬ a = 22 → S' a b c = S a b c) : jv nb S' := by
  obtain ⟨hI, hZ, ⟨ns, nt, hX⟩, hW, hR1, hR2, hR3, hR4⟩ := J
  have q : rq S S' := fun k i j p => h k i j (by unfold rQ at p; omega)
  refine ⟨ic_rq hI q, iz_rq hZ q, ⟨ns, nt, ix_eq hX fun k j p => h k 0 j (by omega)⟩, ?_, fun w hw => ?_, ?_, fun c h1 h2 => ?_, ?_⟩
  · unfold wr; rw [h 20 0 29 (by decide)]; exact hW
  · rw [h 28 0 w (by decide), h 6 0 w (by decide)]; exact hR1 w hw
  · rw [h 20 0 3 (by decide), h 4 16 1 (by decide)]; exact hR2
  · rw [h 29 0 c (by decide), h 7 0 c (by decide)]; exact hR3 c h1 h2
  · rw [h 20 0 1 (by decide), h 0 0 11 (by decide)]; exact hR4
theorem st_login (l : Launch) (hst : l.stackTraces = false) (B : hw_B) (nb : Nat → Nat) (S : hw_St) (z : Nat) (J : jv nb S) (x y r : Int32) (hr : ib_b r) (hz : hw_a B 9 (nb 9) = z) : ∃ (k : Int32) (nb1 : Nat → Nat) (S1 : hw_St), hw_MW l yL_login cL_login 6 (some .int) [(0, 12, 15, 13), (0, 12, 19, 15)] ({ frames := 7, cells := 1, slots := 6, locals := 115 }) B [.ref (hw_a B 0 0), .int x, .int y, .int r, .ref (hw_a B 50 0)] nb S z (hw_pq k nb1 S1) ∧ ∀ S2, eqv S1 S2 → hw_al nb1 ∧ ∀ z2, ∃ Post : hw_T, hw_M l yM_login cM_login 4 (some .int) ({ frames := 2, cells := 0, slots := 0, locals := 50 }) B [.ref (hw_a B 20 0), .int x, .int y, .int r] nb1 S2 z2 Post ∧ Sg nb1 (fun _ _ => True) Post := by
  obtain ⟨k, nb1, S1, hM, q⟩ := C_login l hst B nb S z J.1 J.2.1 x y r hr hz
  refine ⟨k, nb1, S1, hM, fun S2 e => ?_⟩
  have J2 := jv_c J q e
  refine ⟨J2.1.1, fun z2 => ?_⟩
  obtain ⟨-, -, ⟨ns, nt, hX⟩, hW, -⟩ := id J2
  obtain ⟨P, h1, h2⟩ := R_login l B nb1 S2 z2 J2.1.1 J2.1.2.1 hX hW x y r hr
  exact ⟨P, h1, Sg_r J2 h2⟩
theorem st_enter (l : Launch) (hst : l.stackTraces = false) (B : hw_B) (nb : Nat → Nat) (S : hw_St) (z : Nat) (J : jv nb S) (x y v : Int32) (hz : hw_a B 9 (nb 9) = z) (hz2 : hw_a B 11 (nb 11) = z + 1) : ∃ (k : Int32) (nb1 : Nat → Nat) (S1 : hw_St), hw_MW l yL_enter cL_enter 6 (some .int) [(0, 12, 15, 13), (0, 12, 19, 15)] ({ frames := 7, cells := 2, slots := 15, locals := 126 }) B [.ref (hw_a B 0 0), .int x, .int y, .int v, .ref (hw_a B 50 0)] nb S z (hw_pq k nb1 S1) ∧ ∀ S2, eqv S1 S2 → hw_al nb1 ∧ ∀ z2, ∃ Post : hw_T, hw_M l yM_enter cM_enter 5 (some .int) ({ frames := 2, cells := 0, slots := 0, locals := 50 }) B [.ref (hw_a B 20 0), .int x, .int y, .int v] nb1 S2 z2 Post ∧ Sg nb1 (fun _ _ => True) Post := by
  obtain ⟨k, nb1, S1, hM, q⟩ := C_enter l hst B nb S z J.1 J.2.1 x y v hz hz2
  refine ⟨k, nb1, S1, hM, fun S2 e => ?_⟩
  have J2 := jv_c J q e
  refine ⟨J2.1.1, fun z2 => ?_⟩
  obtain ⟨-, -, ⟨ns, nt, hX⟩, hW, -⟩ := id J2
  obtain ⟨P, h1, h2⟩ := R_enter l B nb1 S2 z2 J2.1.1 J2.1.2.1 hX hW x y v
  exact ⟨P, h1, Sg_r J2 h2⟩
theorem st_ticket (l : Launch) (hst : l.stackTraces = false) (B : hw_B) (nb : Nat → Nat) (S : hw_St) (z : Nat) (J : jv nb S) (x v : Int32) (hz : hw_a B 11 (nb 11) = z) : ∃ (k : Int32) (nb1 : Nat → Nat) (S1 : hw_St), hw_MW l yL_ticket cL_ticket 5 (some .int) [(0, 10, 13, 13), (0, 10, 17, 15)] ({ frames := 7, cells := 1, slots := 9, locals := 113 }) B [.ref (hw_a B 0 0), .int x, .int v, .ref (hw_a B 50 0)] nb S z (hw_pq k nb1 S1) ∧ ∀ S2, eqv S1 S2 → hw_al nb1 ∧ ∀ z2, ∃ Post : hw_T, hw_M l yM_ticket cM_ticket 3 (some .int) ({ frames := 2, cells := 0, slots := 0, locals := 50 }) B [.ref (hw_a B 20 0), .int x, .int v] nb1 S2 z2 Post ∧ Sg nb1 (fun _ _ => True) Post := by
  obtain ⟨k, nb1, S1, hM, q⟩ := C_ticket l hst B nb S z J.1 J.2.1 x v hz
  refine ⟨k, nb1, S1, hM, fun S2 e => ?_⟩
  have J2 := jv_c J q e
  refine ⟨J2.1.1, fun z2 => ?_⟩
  obtain ⟨-, -, ⟨ns, nt, hX⟩, hW, -⟩ := id J2
  obtain ⟨P, h1, h2⟩ := R_ticket l B nb1 S2 z2 J2.1.1 J2.1.2.1 hX hW x v
  exact ⟨P, h1, Sg_r J2 h2⟩
theorem st_proxy (l : Launch) (hst : l.stackTraces = false) (B : hw_B) (nb : Nat → Nat) (S : hw_St) (z : Nat) (J : jv nb S) (x v : Int32) (hz : hw_a B 11 (nb 11) = z) : ∃ (k : Int32) (nb1 : Nat → Nat) (S1 : hw_St), hw_MW l yL_proxy cL_proxy 5 (some .int) [(0, 10, 13, 13), (0, 10, 17, 15)] ({ frames := 7, cells := 1, slots := 9, locals := 113 }) B [.ref (hw_a B 0 0), .int x, .int v, .ref (hw_a B 50 0)] nb S z (hw_pq k nb1 S1) ∧ ∀ S2, eqv S1 S2 → hw_al nb1 ∧ ∀ z2, ∃ Post : hw_T, hw_M l yM_proxy cM_proxy 3 (some .int) ({ frames := 2, cells := 0, slots := 0, locals := 50 }) B [.ref (hw_a B 20 0), .int x, .int v] nb1 S2 z2 Post ∧ Sg nb1 (fun _ _ => True) Post := by
  obtain ⟨k, nb1, S1, hM, q⟩ := C_proxy l hst B nb S z J.1 J.2.1 x v hz
  refine ⟨k, nb1, S1, hM, fun S2 e => ?_⟩
  have J2 := jv_c J q e
  refine ⟨J2.1.1, fun z2 => ?_⟩
  obtain ⟨-, -, ⟨ns, nt, hX⟩, hW, -⟩ := id J2
  obtain ⟨P, h1, h2⟩ := R_proxy l B nb1 S2 z2 J2.1.1 J2.1.2.1 hX hW x v
  exact ⟨P, h1, Sg_r J2 h2⟩
theorem st_validate (l : Launch) (hst : l.stackTraces = false) (B : hw_B) (nb : Nat → Nat) (S : hw_St) (z : Nat) (J : jv nb S) (x v h c : Int32) (hz : hw_a B 11 (nb 11) = z) : ∃ (k : Int32) (nb1 : Nat → Nat) (S1 : hw_St), hw_MW l yL_validate cL_validate 7 (some .int) [(0, 14, 17, 13)] ({ frames := 10, cells := 1, slots := 9, locals := 226 }) B [.ref (hw_a B 0 0), .int x, .int v, .int h, .int c, .ref (hw_a B 50 0)] nb S z (hw_pq k nb1 S1) ∧ ∀ S2, eqv S1 S2 → hw_al nb1 ∧ ∀ z2, ∃ Post : hw_T, hw_M l yM_validate cM_validate 7 (some .int) ({ frames := 5, cells := 0, slots := 0, locals := 127 }) B [.ref (hw_a B 20 0), .int x, .int v, .int h, .int c] nb1 S2 z2 Post ∧ Sg nb1 (fun _ _ => True) Post := by
  obtain ⟨k, nb1, S1, hM, q⟩ := C_validate l hst B nb S z J.1 J.2.1 x v h c hz
  refine ⟨k, nb1, S1, hM, fun S2 e => ?_⟩
  have J2 := jv_c J q e
  refine ⟨J2.1.1, fun z2 => ?_⟩
  obtain ⟨-, -, ⟨ns, nt, hX⟩, hW, -⟩ := id J2
  obtain ⟨P, h1, h2⟩ := R_validate l B nb1 S2 z2 J2.1.1 J2.1.2.1 hX hW x v h c
  exact ⟨P, h1, Sg_r J2 h2⟩
theorem st_logout (l : Launch) (hst : l.stackTraces = false) (B : hw_B) (nb : Nat → Nat) (S : hw_St) (z : Nat) (J : jv nb S) (x : Int32) : ∃ (k : Int32) (nb1 : Nat → Nat) (S1 : hw_St), hw_MW l yL_logout cL_logout 4 (some .int) [(0, 9, 12, 13), (0, 9, 15, 15)] ({ frames := 7, cells := 1, slots := 6, locals := 122 }) B [.ref (hw_a B 0 0), .int x, .ref (hw_a B 50 0)] nb S z (hw_pq k nb1 S1) ∧ ∀ S2, eqv S1 S2 → hw_al nb1 ∧ ∀ z2, ∃ Post : hw_T, hw_M l yM_logout cM_logout 2 (some .int) ({ frames := 2, cells := 0, slots := 0, locals := 60 }) B [.ref (hw_a B 20 0), .int x] nb1 S2 z2 Post ∧ Sg nb1 (fun _ _ => True) Post := by
  obtain ⟨k, nb1, S1, hM, q⟩ := C_logout l hst B nb S z J.1 J.2.1 x 
  refine ⟨k, nb1, S1, hM, fun S2 e => ?_⟩
  have J2 := jv_c J q e
  refine ⟨J2.1.1, fun z2 => ?_⟩
  obtain ⟨-, -, ⟨ns, nt, hX⟩, hW, -⟩ := id J2
  obtain ⟨P, h1, h2⟩ := R_logout l B nb1 S2 z2 J2.1.1 J2.1.2.1 hX hW x
  exact ⟨P, h1, Sg_r J2 h2⟩
theorem st_service (l : Launch) (hst : l.stackTraces = false) (B : hw_B) (nb : Nat → Nat) (S : hw_St) (z : Nat) (J : jv nb S) (x y : Int32) : ∃ (k : Int32) (nb1 : Nat → Nat) (S1 : hw_St), hw_MW l yL_service cL_service 5 (some .int) [(0, 10, 13, 13)] ({ frames := 7, cells := 1, slots := 6, locals := 113 }) B [.ref (hw_a B 0 0), .int x, .int y, .ref (hw_a B 50 0)] nb S z (hw_pq k nb1 S1) ∧ ∀ S2, eqv S1 S2 → hw_al nb1 ∧ ∀ z2, ∃ Post : hw_T, hw_M l yM_service cM_service 4 (some .int) ({ frames := 1, cells := 0, slots := 0, locals := 22 }) B [.ref (hw_a B 20 0), .int x, .int y] nb1 S2 z2 Post ∧ Sg nb1 (fun b S3 => ag0 k b S3) Post := by
  rcases ib_rng x 6 (by decide) with ⟨w, hw, rfl⟩ | hx
  · by_cases h1 : y < 0
    · exact ⟨1, nb, S, m_L_service_IAE l B nb S z J.1.1 _ _ nb S J.1.1 (m_H_service_b l hst B nb S z w y hw (Or.inl h1) J.1), fun S2 e => ⟨J.1.1, fun z2 => ⟨_, m_M_service_b l B nb S2 z2 (jv_e J e).1.1 (jv_e J e).1.2.1 w hw y (Or.inl h1), sg_thr J e (by decide)⟩⟩⟩
    by_cases h2 : y ≤ 63
    · refine ⟨0, nb, _, m_L_service_ok l B nb S z J.1.1 _ _ nb _ J.1.1 _ (m_H_service_c l hst B nb S z w y hw h1 h2 J.1), fun S2 e => ⟨J.1.1, fun z2 => ?_⟩⟩
      obtain ⟨hI, hZ, ⟨ns, nt, hX⟩, hW, hR1, hR2, hR3, hR4⟩ := J
      have hI2 : ic nb S2 := ic_eqv (ic_sv (ic_sv hI ipp_6) ipp_50) e
      have f : ∀ k i j, ¬ k = 5 → ¬ (k = 4 ∧ i = 17 ∧ j = 1) → S2 k i j = _ := e.1
      refine ⟨_, m_M_service_c l B nb S2 z2 hI2.1 hI2.2.1 w hw y h1 h2, fun oc nb3 S3 z3 hp => ?_⟩
      obtain ⟨rfl, rfl, rfl, -⟩ := hp
      have q : rq S2 (hw_sv (hw_sv S2 20 0 0 0) 28 0 w y) := rq_sv (rq_sv rq_rf (by unfold rQ; omega)) (by unfold rQ; omega)
      refine ⟨rfl, ⟨ic_rq hI2 q, iz_rq (iz_eqv (iz_sv (iz_sv hZ (by decide) (by decide)) (by decide) (by decide)) e) q, ⟨ns, nt, ix_sv (ix_t (ix_ev (ix_sv (ix_sv hX (by omega)) (by omega)) e) 0) (by omega)⟩, wr_sv (wr_sv (wr_ev (wr_sv (wr_sv hW (by omega)) (by omega)) e) (by omega)) (by omega), fun v hv => ?_, ?_, fun c h1 h2 => ?_, ?_⟩, _, rfl, rfl, fun _ => ?_⟩
      · show hw_sv (hw_sv S2 20 0 0 0) 28 0 w y 28 0 v = S2 6 0 v
        rw [hw_sv_row, f 6 0 v (by decide) (by omega)]
        show (if v = w then y else S2 28 0 v) = hw_sv S 6 0 w y 6 0 v
        rw [hw_sv_row, f 28 0 v (by decide) (by omega)]
        split
        · rfl
        · exact hR1 v hv
      · show S2 20 0 3 = S2 4 16 1
        rw [f 20 0 3 (by decide) (by decide), f 4 16 1 (by decide) (by decide)]; exact hR2
      · show S2 29 0 c = md_nt (S2 7 0 c)
        rw [f 29 0 c (by decide) (by omega), f 7 0 c (by decide) (by omega)]; exact hR3 c h1 h2
      · show S2 20 0 1 = S2 0 0 11
        rw [f 20 0 1 (by decide) (by decide), f 0 0 11 (by decide) (by decide)]; exact hR4
      · show S2 50 0 0 = S2 28 0 w
        rw [f 50 0 0 (by decide) (by decide), f 28 0 w (by decide) (by omega)]
        exact (hR1 w hw).symm
    · exact ⟨1, nb, S, m_L_service_IAE l B nb S z J.1.1 _ _ nb S J.1.1 (m_H_service_b l hst B nb S z w y hw (Or.inr h2) J.1), fun S2 e => ⟨J.1.1, fun z2 => ⟨_, m_M_service_b l B nb S2 z2 (jv_e J e).1.1 (jv_e J e).1.2.1 w hw y (Or.inr h2), sg_thr J e (by decide)⟩⟩⟩
  · exact ⟨1, nb, S, m_L_service_IAE l B nb S z J.1.1 _ _ nb S J.1.1 (m_H_service_a l hst B nb S z x y hx J.1), fun S2 e => ⟨J.1.1, fun z2 => ⟨_, m_M_service_a l B nb S2 z2 (jv_e J e).1.1 (jv_e J e).1.2.1 x y (hx.imp id fun q => ib_gt q (by decide)), sg_thr J e (by decide)⟩⟩⟩
theorem st_letter (l : Launch) (hst : l.stackTraces = false) (B : hw_B) (nb : Nat → Nat) (S : hw_St) (z : Nat) (J : jv nb S) (x : Int32) : ∃ (k : Int32) (nb1 : Nat → Nat) (S1 : hw_St), hw_MW l yL_letter cL_letter 4 (some .int) [(0, 9, 12, 13), (0, 9, 15, 15)] ({ frames := 7, cells := 1, slots := 6, locals := 111 }) B [.ref (hw_a B 0 0), .int x, .ref (hw_a B 50 0)] nb S z (hw_pq k nb1 S1) ∧ ∀ S2, eqv S1 S2 → hw_al nb1 ∧ ∀ z2, ∃ Post : hw_T, hw_M l yM_letter cM_letter 2 (some .int) ({ frames := 1, cells := 0, slots := 0, locals := 22 }) B [.ref (hw_a B 20 0), .int x] nb1 S2 z2 Post ∧ Sg nb1 (fun b S3 => ag0 k b S3) Post := by
  by_cases h1 : x < 32
  · exact ⟨1, nb, S, m_L_letter_IAE l B nb S z J.1.1 _ nb S J.1.1 (m_H_letter_a l hst B nb S z x (Or.inl h1) J.1), fun S2 e => ⟨J.1.1, fun z2 => ⟨_, m_M_letter_a l B nb S2 z2 (jv_e J e).1.1 (jv_e J e).1.2.1 x (Or.inl h1), sg_thr J e (by decide)⟩⟩⟩
  by_cases h2 : x ≤ 126
  · obtain ⟨n, hn, en⟩ := (J.1.2.2.2.2.2.1 16 (by decide)).1
    have hn : n ≤ 8 := hn
    by_cases h8 : n = 8
    · refine ⟨2, nb, S, m_L_letter_ISE l B nb S z J.1.1 _ nb S J.1.1 (m_H_letter_b l hst B nb S z x h1 h2 (by rw [en, h8]; decide) J.1), fun S2 e => ⟨J.1.1, fun z2 => ⟨_, m_M_letter_b l B nb S2 z2 (jv_e J e).1.1 (jv_e J e).1.2.1 x h1 h2 ?_, sg_thr J e (by decide)⟩⟩⟩
      rw [(jv_e J e).2.2.2.2.2.1, e.1 4 16 1 (by decide) (by decide), en, h8]; rfl
    · refine ⟨0, nb, _, m_L_letter_ok l B nb S z J.1.1 _ nb _ J.1.1 _ (m_H_letter_c l hst B nb S z x h1 h2 n en (by omega) J.1), fun S2 e => ⟨J.1.1, fun z2 => ?_⟩⟩
      obtain ⟨hI, hZ, ⟨ns, nt, hX⟩, hW, hR1, hR2, hR3, hR4⟩ := J
      have hI2 : ic nb S2 := ic_eqv (ic_sv (ic_sv hI (ipp_4_1 ⟨n + 1, (by show n + 1 ≤ 8; omega), rfl⟩)) ipp_50) e
      have f : ∀ k i j, ¬ k = 5 → ¬ (k = 4 ∧ i = 17 ∧ j = 1) → S2 k i j = _ := e.1
      have hd : S2 20 0 3 = nI n := by rw [f 20 0 3 (by decide) (by decide)]; exact hR2.trans en
      refine ⟨_, m_M_letter_c l B nb S2 z2 hI2.1 hI2.2.1 x h1 h2 n (by omega) hd, fun oc nb3 S3 z3 hp => ?_⟩
      obtain ⟨rfl, rfl, rfl, -⟩ := hp
      have q : rq S2 (hw_sv (hw_sv (hw_sv S2 20 0 0 0) 21 0 n x) 20 0 3 (S2 20 0 3 + 1)) := rq_sv (rq_sv (rq_sv rq_rf (by unfold rQ; omega)) (by unfold rQ; omega)) (by unfold rQ; omega)
      have e3 : S2 20 0 3 + 1 = nI (n + 1) := by rw [hd, nI_succ]
      refine ⟨rfl, ⟨ic_rq hI2 q, iz_rq (iz_eqv (iz_sv (iz_sv hZ (by decide) (by decide)) (by decide) (by decide)) e) q, ⟨ns, nt, by rw [e3]; exact ix_dr (ix_sv (ix_t (ix_ev (ix_sv (ix_sv hX (by omega)) (by omega)) e) 0) (by omega)) (by omega)⟩, wr_sv (wr_sv (wr_sv (wr_ev (wr_sv (wr_sv hW (by omega)) (by omega)) e) (by omega)) (by omega)) (by omega), fun v hv => ?_, ?_, fun c h1 h2 => ?_, ?_⟩, _, rfl, rfl, fun _ => ?_⟩
      · show S2 28 0 v = S2 6 0 v
        rw [f 28 0 v (by decide) (by omega), f 6 0 v (by decide) (by omega)]; exact hR1 v hv
      · show S2 20 0 3 + 1 = S2 4 16 1
        rw [f 4 16 1 (by decide) (by decide), e3]; rfl
      · show S2 29 0 c = md_nt (S2 7 0 c)
        rw [f 29 0 c (by decide) (by omega), f 7 0 c (by decide) (by omega)]; exact hR3 c h1 h2
      · show S2 20 0 1 = S2 0 0 11
        rw [f 20 0 1 (by decide) (by decide), f 0 0 11 (by decide) (by decide)]; exact hR4
      · show S2 50 0 0 = S2 20 0 3 + 1
        rw [f 50 0 0 (by decide) (by decide), e3]; rfl
  · exact ⟨1, nb, S, m_L_letter_IAE l B nb S z J.1.1 _ nb S J.1.1 (m_H_letter_a l hst B nb S z x (Or.inr h2) J.1), fun S2 e => ⟨J.1.1, fun z2 => ⟨_, m_M_letter_a l B nb S2 z2 (jv_e J e).1.1 (jv_e J e).1.2.1 x (Or.inr h2), sg_thr J e (by decide)⟩⟩⟩
theorem st_text (l : Launch) (hst : l.stackTraces = false) (B : hw_B) (nb : Nat → Nat) (S : hw_St) (z : Nat) (J : jv nb S) (x y : Int32) : ∃ (k : Int32) (nb1 : Nat → Nat) (S1 : hw_St), hw_MW l yL_text cL_text 5 (some .int) [(0, 10, 13, 13)] ({ frames := 7, cells := 1, slots := 6, locals := 114 }) B [.ref (hw_a B 0 0), .int x, .int y, .ref (hw_a B 50 0)] nb S z (hw_pq k nb1 S1) ∧ ∀ S2, eqv S1 S2 → hw_al nb1 ∧ ∀ z2, ∃ Post : hw_T, hw_M l yM_text cM_text 5 (some .int) ({ frames := 2, cells := 0, slots := 0, locals := 60 }) B [.ref (hw_a B 20 0), .int x, .int y] nb1 S2 z2 Post ∧ Sg nb1 (fun b S3 => ag0 k b S3) Post := by
  rcases ib_rng x 4 (by decide) with ⟨u, hu, rfl⟩ | hx
  · rcases ib_rng y 4 (by decide) with ⟨j, hj, rfl⟩ | hy
    · obtain ⟨n, hn, en⟩ := (J.1.2.2.2.2.2.1 16 (by decide)).1
      have hn : n ≤ 8 := hn
      refine ⟨0, nb, _, m_L_text_ok l B nb S z J.1.1 _ _ nb _ J.1.1 _ (m_H_text_c l hst B nb S z u j n hu hj en hn J.1), fun S2 e => ⟨J.1.1, fun z2 => ?_⟩⟩
      obtain ⟨hI, hZ, ⟨ns, nt, hX⟩, hW, hR1, hR2, hR3, hR4⟩ := J
      have hI2 : ic nb S2 := ic_eqv (ic_sv (ic_sv (ic_sv hI (ipp_4_1 ⟨n, (by rw [hw_ln8 (by omega)]; exact hn), rfl⟩)) (ipp_4_1 ⟨0, Nat.zero_le _, rfl⟩)) ipp_50) e
      have f : ∀ k i j, ¬ k = 5 → ¬ (k = 4 ∧ i = 17 ∧ j = 1) → S2 k i j = _ := e.1
      have hd : S2 20 0 3 = nI n := by rw [f 20 0 3 (by decide) (by decide)]; exact hR2.trans en
      refine ⟨_, m_M_text_c l B nb S2 z2 hI2.1 hI2.2.1 u j n hu hj hn hd, fun oc nb3 S3 z3 hp => ?_⟩
      obtain ⟨rfl, rfl, h3, -⟩ := hp
      have q : rq S2 (hw_sv (hw_sv (hw_sv S2 20 0 0 0) 23 0 (4 * u + j) (nI n)) 20 0 3 0) := rq_sv (rq_sv (rq_sv rq_rf (by unfold rQ; omega)) (by unfold rQ; omega)) (by unfold rQ; omega)
      refine ⟨rfl, jv_22 (S := hw_sv (hw_sv (hw_sv S2 20 0 0 0) 23 0 (4 * u + j) (nI n)) 20 0 3 0) ⟨ic_rq hI2 q, iz_rq (iz_eqv (iz_sv (iz_sv (iz_sv hZ (by decide) (by decide)) (by decide) (by decide)) (by decide) (by decide)) e) q, ⟨ns, nt, ix_dr (m := 0) (ix_ln (ix_t (ix_ev (ix_sv (ix_sv (ix_sv hX (by omega)) (by omega)) (by omega)) e) 0) hn) (by omega)⟩, wr_sv (wr_sv (wr_sv (wr_ev (wr_sv (wr_sv (wr_sv hW (by omega)) (by omega)) (by omega)) e) (by omega)) (by omega)) (by omega), fun v hv => ?_, ?_, fun c h1 h2 => ?_, ?_⟩ h3, _, rfl, (h3 20 0 0 (by decide)).trans rfl, fun _ => (h3 50 0 0 (by decide)).trans ?_⟩
      · show S2 28 0 v = S2 6 0 v
        rw [f 28 0 v (by decide) (by omega), f 6 0 v (by decide) (by omega)]; exact hR1 v hv
      · show (0 : Int32) = S2 4 16 1
        rw [f 4 16 1 (by decide) (by decide)]; rfl
      · show S2 29 0 c = md_nt (S2 7 0 c)
        rw [f 29 0 c (by decide) (by omega), f 7 0 c (by decide) (by omega)]; exact hR3 c h1 h2
      · show S2 20 0 1 = S2 0 0 11
        rw [f 20 0 1 (by decide) (by decide), f 0 0 11 (by decide) (by decide)]; exact hR4
      · show S2 50 0 0 = nI n
        rw [f 50 0 0 (by decide) (by decide)]; rfl
    · exact ⟨1, nb, S, m_L_text_IAE l B nb S z J.1.1 _ _ nb S J.1.1 (m_H_text_b l hst B nb S z u y hu (hy.imp id fun q => ib_gt q (by decide)) J.1), fun S2 e => ⟨J.1.1, fun z2 => ⟨_, m_M_text_b l B nb S2 z2 (jv_e J e).1.1 (jv_e J e).1.2.1 u hu y (hy.imp id fun q => ib_gt q (by decide)), sg_thr J e (by decide)⟩⟩⟩
  · exact ⟨1, nb, S, m_L_text_IAE l B nb S z J.1.1 _ _ nb S J.1.1 (m_H_text_a l hst B nb S z x y hx J.1), fun S2 e => ⟨J.1.1, fun z2 => ⟨_, m_M_text_a l B nb S2 z2 (jv_e J e).1.1 (jv_e J e).1.2.1 x y (hx.imp id fun q => ib_gt q (by decide)), sg_thr J e (by decide)⟩⟩⟩
theorem st_password (l : Launch) (hst : l.stackTraces = false) (B : hw_B) (nb : Nat → Nat) (S : hw_St) (z : Nat) (J : jv nb S) (x y : Int32) : ∃ (k : Int32) (nb1 : Nat → Nat) (S1 : hw_St), hw_MW l yL_password cL_password 5 (some .int) [(0, 17, 20, 13)] ({ frames := 7, cells := 1, slots := 6, locals := 113 }) B [.ref (hw_a B 0 0), .int x, .int y, .ref (hw_a B 50 0)] nb S z (hw_pq k nb1 S1) ∧ ∀ S2, eqv S1 S2 → hw_al nb1 ∧ ∀ z2, ∃ Post : hw_T, hw_M l yM_password cM_password 3 (some .boolean) ({ frames := 1, cells := 0, slots := 0, locals := 22 }) B [.ref (hw_a B 20 0), .int x, .int y] nb1 S2 z2 Post ∧ Sg nb1 (fun b S3 => agb k b S3) Post := by
  rcases ib_rng x 4 (by decide) with ⟨u, hu, rfl⟩ | hx
  · have q := ck_out (ck_sv (k := 2) (i := u) (j := 4) (x := 0) (ck_sv (k := 2) (i := u) (j := 2) (x := 1) (ck_sv (k := 2) (i := u) (j := 3) (x := y) (ck_rf J.1 J.2.1) ipp_2_3 (by unfold cP; omega) (by decide) (by decide)) (ipp_2_2 (Or.inr rfl)) (by unfold cP; omega) (by decide) (by decide)) (ipp_2_4 ⟨0, by omega, rfl⟩) (by unfold cP; omega) (by decide) (by decide)) (if (1 : Int32) = 0 then 0 else 1)
    refine ⟨0, nb, _, m_L_password_ok l B nb S z J.1.1 _ _ nb _ J.1.1 _ (m_H_password_c l hst B nb S z u y hu J.1), fun S2 e => ⟨J.1.1, fun z2 => ?_⟩⟩
    have J2 := jv_c J q e
    obtain ⟨-, -, ⟨ns, nt, hX⟩, hW, -⟩ := id J2
    refine ⟨_, m_M_password_c l B nb S2 z2 J2.1.1 J2.1.2.1 u hu y, fun oc nb3 S3 z3 hp => ?_⟩
    obtain ⟨rfl, rfl, rfl, -⟩ := hp
    refine ⟨rfl, jv_r J2 (rk_sv (rk_sv (rk_sv (rk_t (rk_rf hX hW) _) (by omega)) (by omega)) (by omega)), _, rfl, rfl, fun _ => ?_⟩
    show S2 50 0 0 = _
    rw [e.1 50 0 0 (by decide) (by decide)]; rfl
  · exact ⟨1, nb, S, m_L_password_IAE l B nb S z J.1.1 _ _ nb S J.1.1 (m_H_password_a l hst B nb S z x y hx J.1), fun S2 e => ⟨J.1.1, fun z2 => ⟨_, m_M_password_a l B nb S2 z2 (jv_e J e).1.1 (jv_e J e).1.2.1 x y (hx.imp id fun q => ib_gt q (by decide)), sg_thb J e (by decide)⟩⟩⟩
theorem st_callback (l : Launch) (hst : l.stackTraces = false) (B : hw_B) (nb : Nat → Nat) (S : hw_St) (z : Nat) (J : jv nb S) (x y : Int32) (hy : ib_b y) : ∃ (k : Int32) (nb1 : Nat → Nat) (S1 : hw_St), hw_MW l yL_callback cL_callback 5 (some .int) [(0, 17, 20, 13)] ({ frames := 7, cells := 1, slots := 6, locals := 113 }) B [.ref (hw_a B 0 0), .int x, .int y, .ref (hw_a B 50 0)] nb S z (hw_pq k nb1 S1) ∧ ∀ S2, eqv S1 S2 → hw_al nb1 ∧ ∀ z2, ∃ Post : hw_T, hw_M l yM_callback cM_callback 4 (some .boolean) ({ frames := 1, cells := 0, slots := 0, locals := 22 }) B [.ref (hw_a B 20 0), .int x, .int y] nb1 S2 z2 Post ∧ Sg nb1 (fun b S3 => agb k b S3) Post := by
  by_cases h1 : x < 1
  · exact ⟨1, nb, S, m_L_callback_IAE l B nb S z J.1.1 _ _ nb S J.1.1 (m_H_callback_a l hst B nb S z x y (Or.inl h1) J.1), fun S2 e => ⟨J.1.1, fun z2 => ⟨_, m_M_callback_a l B nb S2 z2 (jv_e J e).1.1 (jv_e J e).1.2.1 x y (Or.inl h1), sg_thb J e (by decide)⟩⟩⟩
  by_cases h2 : x ≤ 5
  · rcases ib_rng x 6 (by decide) with ⟨c, hc, rfl⟩ | hx
    · have hc1 : 1 ≤ c := by
        rcases Nat.eq_zero_or_pos c with rfl | q
        · exact absurd (by decide) h1
        · exact q
      refine ⟨0, nb, _, m_L_callback_ok l B nb S z J.1.1 _ _ nb _ J.1.1 _ (m_H_callback_c l hst B nb S z c y hc hc1 hy J.1), fun S2 e => ⟨J.1.1, fun z2 => ?_⟩⟩
      obtain ⟨hI, hZ, ⟨ns, nt, hX⟩, hW, hR1, hR2, hR3, hR4⟩ := J
      have hI2 : ic nb S2 := ic_eqv (ic_sv (ic_sv hI (ipp_7 hy (by omega))) ipp_50) e
      have f : ∀ k i j, ¬ k = 5 → ¬ (k = 4 ∧ i = 17 ∧ j = 1) → S2 k i j = _ := e.1
      refine ⟨_, m_M_callback_c l B nb S2 z2 hI2.1 hI2.2.1 c hc hc1 y, fun oc nb3 S3 z3 hp => ?_⟩
      obtain ⟨rfl, rfl, rfl, -⟩ := hp
      have q : rq S2 (hw_sv (hw_sv S2 20 0 0 0) 29 0 c (md_nt y)) := rq_sv (rq_sv rq_rf (by unfold rQ; omega)) (by unfold rQ; omega)
      refine ⟨rfl, ⟨ic_rq hI2 q, iz_rq (iz_eqv (iz_sv (iz_sv hZ (by decide) (by decide)) (by decide) (by decide)) e) q, ⟨ns, nt, ix_sv (ix_t (ix_ev (ix_sv (ix_sv hX (by omega)) (by omega)) e) 0) (by omega)⟩, wr_sv (wr_sv (wr_ev (wr_sv (wr_sv hW (by omega)) (by omega)) e) (by omega)) (by omega), fun v hv => ?_, ?_, fun d h1 h2 => ?_, ?_⟩, _, rfl, rfl, fun _ => ?_⟩
      · show S2 28 0 v = S2 6 0 v
        rw [f 28 0 v (by decide) (by omega), f 6 0 v (by decide) (by omega)]; exact hR1 v hv
      · show S2 20 0 3 = S2 4 16 1
        rw [f 20 0 3 (by decide) (by decide), f 4 16 1 (by decide) (by decide)]; exact hR2
      · show hw_sv (hw_sv S2 20 0 0 0) 29 0 c (md_nt y) 29 0 d = md_nt (S2 7 0 d)
        rw [hw_sv_row, f 7 0 d (by decide) (by omega)]
        show (if d = c then md_nt y else S2 29 0 d) = md_nt (hw_sv S 7 0 c y 7 0 d)
        rw [hw_sv_row, f 29 0 d (by decide) (by omega)]
        split
        · rfl
        · exact hR3 d h1 h2
      · show S2 20 0 1 = S2 0 0 11
        rw [f 20 0 1 (by decide) (by decide), f 0 0 11 (by decide) (by decide)]; exact hR4
      · show S2 50 0 0 = if md_nt (S2 29 0 c) = 0 then 0 else 1
        rw [f 50 0 0 (by decide) (by decide), f 29 0 c (by decide) (by omega)]
        show (if S 7 0 c = 0 then 0 else 1) = if md_nt (S 29 0 c) = 0 then (0 : Int32) else 1
        rw [hR3 c hc1 hc]
        unfold md_nt
        by_cases e0 : S 7 0 c = 0
        · rw [if_pos e0, if_pos e0]; rfl
        · rw [if_neg e0, if_neg e0]; rfl
    · rcases hx with hx | hx
      · exact absurd (Int32.lt_trans hx (by decide)) h1
      · exact absurd h2 (ib_gt hx (by decide))
  · exact ⟨1, nb, S, m_L_callback_IAE l B nb S z J.1.1 _ _ nb S J.1.1 (m_H_callback_a l hst B nb S z x y (Or.inr h2) J.1), fun S2 e => ⟨J.1.1, fun z2 => ⟨_, m_M_callback_a l B nb S2 z2 (jv_e J e).1.1 (jv_e J e).1.2.1 x y (Or.inr h2), sg_thb J e (by decide)⟩⟩⟩
theorem st_tick (l : Launch) (hst : l.stackTraces = false) (B : hw_B) (nb : Nat → Nat) (S : hw_St) (z : Nat) (J : jv nb S) (x : Int32) : ∃ (k : Int32) (nb1 : Nat → Nat) (S1 : hw_St), hw_MW l yL_tick cL_tick 4 (some .int) [(0, 9, 12, 13)] ({ frames := 7, cells := 1, slots := 6, locals := 122 }) B [.ref (hw_a B 0 0), .int x, .ref (hw_a B 50 0)] nb S z (hw_pq k nb1 S1) ∧ ∀ S2, eqv S1 S2 → hw_al nb1 ∧ ∀ z2, ∃ Post : hw_T, hw_M l yM_tick cM_tick 5 (some .int) ({ frames := 2, cells := 0, slots := 0, locals := 60 }) B [.ref (hw_a B 20 0), .int x] nb1 S2 z2 Post ∧ Sg nb1 (fun b S3 => ag0 k b S3) Post := by
  by_cases h1 : x < 1
  · exact ⟨1, nb, S, m_L_tick_IAE l B nb S z J.1.1 _ nb S J.1.1 (m_H_tick_a l hst B nb S z x (Or.inl h1) J.1), fun S2 e => ⟨J.1.1, fun z2 => ⟨_, m_M_tick_a l B nb S2 z2 (jv_e J e).1.1 (jv_e J e).1.2.1 x (Or.inl h1), sg_thr J e (by decide)⟩⟩⟩
  by_cases h2 : x ≤ 200
  · have q0 : ck (hw_sv S 0 0 11 (S 0 0 11 + x)) nb (hw_sv S 0 0 11 (S 0 0 11 + x)) := ck_rf (ic_sv J.1 ipp_0_11) (iz_sv J.2.1 (by decide) (by decide))
    have q := ck_out (ck_tk (ck_unl (ck_unl (ck_unl (ck_unl q0 0 (S 0 0 11 + x)) 1 (S 0 0 11 + x)) 2 (S 0 0 11 + x)) 3 (S 0 0 11 + x)) (S 0 0 11 + x) (nb 9)) (S 0 0 11 + x)
    refine ⟨0, nb, _, m_L_tick_ok l B nb S z J.1.1 _ nb _ J.1.1 _ (m_H_tick_c l hst B nb S z x h1 h2 J.1), fun S2 e => ⟨J.1.1, fun z2 => ?_⟩⟩
    obtain ⟨hI, hZ, ⟨ns, nt, hX⟩, hW, hR1, hR2, hR3, hR4⟩ := J
    have hI2 : ic nb S2 := ic_eqv q.1 e
    have f : ∀ k i j, cP k i j → S2 k i j = hw_sv S 0 0 11 (S 0 0 11 + x) k i j := fun k i j p => by
      rw [e.1 k i j (by unfold cP at p; omega) (by unfold cP at p; omega)]
      exact q.2.2 k i j p
    have hX2 : ix ns nt S2 := ix_eq hX fun k j p => (f k 0 j (by unfold cP; omega)).trans (by unfold hw_sv; rw [if_neg (fun w => by have := w.1; omega)])
    have hW2 : wr S2 := by unfold wr; rw [f 20 0 29 (by unfold cP; omega)]; exact hW
    refine ⟨_, m_M_tick_c l B nb S2 z2 hI2.1 hI2.2.1 ns nt hX2 x h1 h2, fun oc nb3 S3 z3 hp => ?_⟩
    obtain ⟨rfl, rfl, ⟨rfl, hX3, hcl⟩, -⟩ := hp
    have g : rf (hw_sv (hw_sv S2 20 0 0 0) 20 0 1 (S2 20 0 1 + x)) (md_tk nt (hw_sv (hw_sv S2 20 0 0 0) 20 0 1 (S2 20 0 1 + x)) ns) := rf_tk rf_rf nt ns
    have g2 : rq S2 (md_tk nt (hw_sv (hw_sv S2 20 0 0 0) 20 0 1 (S2 20 0 1 + x)) ns) := fun k i j p => (g.q k i j p).trans (rq_sv (rq_sv rq_rf (by unfold rQ; omega)) (by unfold rQ; omega) k i j p)
    have ecl : S2 20 0 1 + x = S 0 0 11 + x := by rw [f 20 0 1 (by unfold cP; omega)]; exact congrArg (· + x) hR4
    refine ⟨rfl, ⟨ic_rq hI2 g2, iz_rq (iz_eqv q.2.1 e) g2, ⟨ns, nt, hX3⟩, wr_tk (wr_sv (wr_sv hW2 (by omega)) (by omega)) nt ns, fun v hv => ?_, ?_, fun c h1 h2 => ?_, ?_⟩, _, rfl, ?_, fun _ => ?_⟩
    · rw [g 28 0 v (by unfold rP; omega), g2 6 0 v (by unfold rQ; omega)]
      show S2 28 0 v = S2 6 0 v
      rw [f 28 0 v (by unfold cP; omega), f 6 0 v (by unfold cP; omega)]; exact hR1 v hv
    · rw [g 20 0 3 (by unfold rP; omega), g2 4 16 1 (by unfold rQ; omega)]
      show S2 20 0 3 = S2 4 16 1
      rw [f 20 0 3 (by unfold cP; omega), f 4 16 1 (by unfold cP; omega)]; exact hR2
    · rw [g 29 0 c (by unfold rP; omega), g2 7 0 c (by unfold rQ; omega)]
      show S2 29 0 c = md_nt (S2 7 0 c)
      rw [f 29 0 c (by unfold cP; omega), f 7 0 c (by unfold cP; omega)]; exact hR3 c h1 h2
    · rw [hcl, g2 0 0 11 (by unfold rQ; omega), ecl, f 0 0 11 (by unfold cP; omega)]; rfl
    · rw [md_tk_0]; rfl
    · rw [g2 50 0 0 (by unfold rQ; omega), e.1 50 0 0 (by decide) (by decide), ecl]; rfl
  · exact ⟨1, nb, S, m_L_tick_IAE l B nb S z J.1.1 _ nb S J.1.1 (m_H_tick_a l hst B nb S z x (Or.inr h2) J.1), fun S2 e => ⟨J.1.1, fun z2 => ⟨_, m_M_tick_a l B nb S2 z2 (jv_e J e).1.1 (jv_e J e).1.2.1 x (Or.inr h2), sg_thr J e (by decide)⟩⟩⟩
theorem st_document (l : Launch) (B : hw_B) (nb : Nat → Nat) (S : hw_St) (z : Nat) (J : jv nb S) (x : Int32) : ∃ Post : hw_T, hw_M l yH_document cH_document 2 (some .int) ({ frames := 1, cells := 0, slots := 0, locals := 21 }) B [.ref (hw_a B 0 0), .int x] nb S z Post ∧ (∀ oc nb1 S1 z1, Post oc nb1 S1 z1 → nb1 = nb ∧ S1 = S ∧ ∃ a, oc = .inl (some (.int a))) ∧ ∀ z2, ∃ Post : hw_T, hw_M l yM_document cM_document 2 (some .int) ({ frames := 0, cells := 0, slots := 0, locals := 0 }) B [.ref (hw_a B 20 0), .int x] nb S z2 Post ∧ Sg nb (fun _ _ => True) Post := by
  obtain ⟨Q, hQ, hq⟩ : ∃ Post : hw_T, hw_M l yH_document cH_document 2 (some .int) ({ frames := 1, cells := 0, slots := 0, locals := 21 }) B [.ref (hw_a B 0 0), .int x] nb S z Post ∧ ∀ oc nb1 S1 z1, Post oc nb1 S1 z1 → nb1 = nb ∧ S1 = S ∧ ∃ a, oc = .inl (some (.int a)) := by
    exact ⟨_, m_H_document l B nb S z x J.1, fun oc nb1 S1 z1 hp => by obtain ⟨⟨r, rfl⟩, rfl, rfl, -⟩ := hp; exact ⟨rfl, rfl, _, rfl⟩⟩
  exact ⟨Q, hQ, hq, fun z2 => by
    obtain ⟨-, -, ⟨ns, nt, hX⟩, hW, -⟩ := id J
    obtain ⟨P, h1, h2⟩ := R_document l B nb S z2 J.1.1 J.1.2.1 hX hW x
    exact ⟨P, h1, Sg_r J h2⟩⟩
theorem st_message (l : Launch) (B : hw_B) (nb : Nat → Nat) (S : hw_St) (z : Nat) (J : jv nb S) (x : Int32) : ∃ Post : hw_T, hw_M l yH_message cH_message 2 (some .int) ({ frames := 0, cells := 0, slots := 0, locals := 0 }) B [.ref (hw_a B 0 0), .int x] nb S z Post ∧ (∀ oc nb1 S1 z1, Post oc nb1 S1 z1 → nb1 = nb ∧ S1 = S ∧ ∃ a, oc = .inl (some (.int a))) ∧ ∀ z2, ∃ Post : hw_T, hw_M l yM_message cM_message 2 (some .int) ({ frames := 0, cells := 0, slots := 0, locals := 0 }) B [.ref (hw_a B 20 0), .int x] nb S z2 Post ∧ Sg nb (fun _ _ => True) Post := by
  obtain ⟨Q, hQ, hq⟩ : ∃ Post : hw_T, hw_M l yH_message cH_message 2 (some .int) ({ frames := 0, cells := 0, slots := 0, locals := 0 }) B [.ref (hw_a B 0 0), .int x] nb S z Post ∧ ∀ oc nb1 S1 z1, Post oc nb1 S1 z1 → nb1 = nb ∧ S1 = S ∧ ∃ a, oc = .inl (some (.int a)) := by
    exact ⟨_, m_H_message l B nb S z x J.1, fun oc nb1 S1 z1 hp => by obtain ⟨rfl, rfl, rfl, -⟩ := hp; exact ⟨rfl, rfl, _, rfl⟩⟩
  exact ⟨Q, hQ, hq, fun z2 => by
    obtain ⟨-, -, ⟨ns, nt, hX⟩, hW, -⟩ := id J
    obtain ⟨P, h1, h2⟩ := R_message l B nb S z2 J.1.1 J.1.2.1 hX hW x
    exact ⟨P, h1, Sg_r J h2⟩⟩
theorem st_session (l : Launch) (B : hw_B) (nb : Nat → Nat) (S : hw_St) (z : Nat) (J : jv nb S) (x y : Int32) : ∃ Post : hw_T, hw_M l yH_session cH_session 4 (some .int) ({ frames := 1, cells := 0, slots := 0, locals := 21 }) B [.ref (hw_a B 0 0), .int x, .int y] nb S z Post ∧ (∀ oc nb1 S1 z1, Post oc nb1 S1 z1 → nb1 = nb ∧ S1 = S ∧ ∃ a, oc = .inl (some (.int a))) ∧ ∀ z2, ∃ Post : hw_T, hw_M l yM_session cM_session 3 (some .int) ({ frames := 2, cells := 0, slots := 0, locals := 60 }) B [.ref (hw_a B 20 0), .int x, .int y] nb S z2 Post ∧ Sg nb (fun _ _ => True) Post := by
  obtain ⟨Q, hQ, hq⟩ : ∃ Post : hw_T, hw_M l yH_session cH_session 4 (some .int) ({ frames := 1, cells := 0, slots := 0, locals := 21 }) B [.ref (hw_a B 0 0), .int x, .int y] nb S z Post ∧ ∀ oc nb1 S1 z1, Post oc nb1 S1 z1 → nb1 = nb ∧ S1 = S ∧ ∃ a, oc = .inl (some (.int a)) := by
    rcases gt9 J.1 x with ⟨s, hs, rfl⟩ | hx
    · exact ⟨_, m_H_session_y l B nb S z s y J.1 hs, fun oc nb1 S1 z1 hp => by obtain ⟨rfl, rfl, rfl, -⟩ := hp; exact ⟨rfl, rfl, _, rfl⟩⟩
    · exact ⟨_, m_H_session_n l B nb S z J.1.1 J.1.2.1 x y hx, fun oc nb1 S1 z1 hp => by obtain ⟨rfl, rfl, rfl, -⟩ := hp; exact ⟨rfl, rfl, _, rfl⟩⟩
  exact ⟨Q, hQ, hq, fun z2 => by
    obtain ⟨-, -, ⟨ns, nt, hX⟩, hW, -⟩ := id J
    obtain ⟨P, h1, h2⟩ := R_session l B nb S z2 J.1.1 J.1.2.1 hX hW x y
    exact ⟨P, h1, Sg_r J h2⟩⟩
theorem st_about (l : Launch) (B : hw_B) (nb : Nat → Nat) (S : hw_St) (z : Nat) (J : jv nb S) (x y : Int32) : ∃ Post : hw_T, hw_M l yH_about cH_about 4 (some .int) ({ frames := 1, cells := 0, slots := 0, locals := 22 }) B [.ref (hw_a B 0 0), .int x, .int y] nb S z Post ∧ (∀ oc nb1 S1 z1, Post oc nb1 S1 z1 → nb1 = nb ∧ S1 = S ∧ ∃ a, oc = .inl (some (.int a))) ∧ ∀ z2, ∃ Post : hw_T, hw_M l yM_about cM_about 5 (some .int) ({ frames := 2, cells := 0, slots := 0, locals := 60 }) B [.ref (hw_a B 20 0), .int x, .int y] nb S z2 Post ∧ Sg nb (fun _ _ => True) Post := by
  obtain ⟨Q, hQ, hq⟩ : ∃ Post : hw_T, hw_M l yH_about cH_about 4 (some .int) ({ frames := 1, cells := 0, slots := 0, locals := 22 }) B [.ref (hw_a B 0 0), .int x, .int y] nb S z Post ∧ ∀ oc nb1 S1 z1, Post oc nb1 S1 z1 → nb1 = nb ∧ S1 = S ∧ ∃ a, oc = .inl (some (.int a)) := by
    rcases gt11 J.1 x with ⟨i, hi, rfl⟩ | hx
    · obtain ⟨s, hs, hts⟩ := (J.1.2.2.2.2.2.2.2.1 i hi).2.2.1
      exact ⟨_, m_H_about_y l B nb S z i y s J.1 hi hs hts, fun oc nb1 S1 z1 hp => by obtain ⟨rfl, rfl, rfl, -⟩ := hp; exact ⟨rfl, rfl, _, rfl⟩⟩
    · exact ⟨_, m_H_about_n l B nb S z J.1.1 J.1.2.1 x y hx, fun oc nb1 S1 z1 hp => by obtain ⟨rfl, rfl, rfl, -⟩ := hp; exact ⟨rfl, rfl, _, rfl⟩⟩
  exact ⟨Q, hQ, hq, fun z2 => by
    obtain ⟨-, -, ⟨ns, nt, hX⟩, hW, -⟩ := id J
    obtain ⟨P, h1, h2⟩ := R_about l B nb S z2 J.1.1 J.1.2.1 hX hW x y
    exact ⟨P, h1, Sg_r J h2⟩⟩
theorem st_house (l : Launch) (B : hw_B) (nb : Nat → Nat) (S : hw_St) (z : Nat) (J : jv nb S) (x : Int32) : ∃ Post : hw_T, hw_M l yH_house cH_house 2 (some .int) ({ frames := 2, cells := 0, slots := 0, locals := 43 }) B [.ref (hw_a B 0 0), .int x] nb S z Post ∧ (∀ oc nb1 S1 z1, Post oc nb1 S1 z1 → nb1 = nb ∧ S1 = S ∧ ∃ a, oc = .inl (some (.int a))) ∧ ∀ z2, ∃ Post : hw_T, hw_M l yM_house cM_house 2 (some .int) ({ frames := 2, cells := 0, slots := 0, locals := 60 }) B [.ref (hw_a B 20 0), .int x] nb S z2 Post ∧ Sg nb (fun _ _ => True) Post := by
  obtain ⟨Q, hQ, hq⟩ : ∃ Post : hw_T, hw_M l yH_house cH_house 2 (some .int) ({ frames := 2, cells := 0, slots := 0, locals := 43 }) B [.ref (hw_a B 0 0), .int x] nb S z Post ∧ ∀ oc nb1 S1 z1, Post oc nb1 S1 z1 → nb1 = nb ∧ S1 = S ∧ ∃ a, oc = .inl (some (.int a)) := by
    by_cases e0 : x = 0
    · exact ⟨_, m_H_house_y l B nb S z x J.1 (by simp [*]), fun oc nb1 S1 z1 hp => by obtain ⟨rfl, rfl, rfl, -⟩ := hp; exact ⟨rfl, rfl, _, rfl⟩⟩
    by_cases e1 : x = 1
    · exact ⟨_, m_H_house_y l B nb S z x J.1 (by simp [*]), fun oc nb1 S1 z1 hp => by obtain ⟨rfl, rfl, rfl, -⟩ := hp; exact ⟨rfl, rfl, _, rfl⟩⟩
    by_cases e2 : x = 2
    · exact ⟨_, m_H_house_y l B nb S z x J.1 (by simp [*]), fun oc nb1 S1 z1 hp => by obtain ⟨rfl, rfl, rfl, -⟩ := hp; exact ⟨rfl, rfl, _, rfl⟩⟩
    by_cases e3 : x = 3
    · exact ⟨_, m_H_house_y l B nb S z x J.1 (by simp [*]), fun oc nb1 S1 z1 hp => by obtain ⟨rfl, rfl, rfl, -⟩ := hp; exact ⟨rfl, rfl, _, rfl⟩⟩
    by_cases e4 : x = 4
    · exact ⟨_, m_H_house_y l B nb S z x J.1 (by simp [*]), fun oc nb1 S1 z1 hp => by obtain ⟨rfl, rfl, rfl, -⟩ := hp; exact ⟨rfl, rfl, _, rfl⟩⟩
    rcases ib_rng (x - 5) 4 (by decide) with ⟨u, hu, e⟩ | hx
    · exact ⟨_, m_H_house_u l B nb S z J.1.1 J.1.2.1 x u hu e e0 e1 e2 e3 e4, fun oc nb1 S1 z1 hp => by obtain ⟨rfl, rfl, rfl, -⟩ := hp; exact ⟨rfl, rfl, _, rfl⟩⟩
    · exact ⟨_, m_H_house_n l B nb S z J.1.1 x hx e0 e1 e2 e3 e4, fun oc nb1 S1 z1 hp => by obtain ⟨rfl, rfl, rfl, -⟩ := hp; exact ⟨rfl, rfl, _, rfl⟩⟩
  exact ⟨Q, hQ, hq, fun z2 => by
    obtain ⟨-, -, ⟨ns, nt, hX⟩, hW, -⟩ := id J
    obtain ⟨P, h1, h2⟩ := R_house l B nb S z2 J.1.1 J.1.2.1 hX hW x
    exact ⟨P, h1, Sg_r J h2⟩⟩
