/-! The reference's calls, for any arguments. -/
theorem hou_in {x : Int32} (h5 : ¬ x < 5) (h8 : x ≤ 8) : ∃ u, u < 4 ∧ x - 5 = nI u := by
  obtain ⟨j, hj, rfl⟩ := nI_of2 (M := 8) (n := 8) rfl (fun q => h5 (by
    have h1 := Int32.lt_iff_toInt_lt.mp q
    refine Int32.lt_iff_toInt_lt.mpr ?_
    rw [show (5 : Int32).toInt = 5 from rfl]
    rw [show (0 : Int32).toInt = 0 from rfl] at h1
    omega)) h8
  have h6 : 5 ≤ j := Nat.not_lt.mp fun q => h5 (nI_lt (b := 5) q (by decide))
  rcases (show j = 5 ∨ j = 6 ∨ j = 7 ∨ j = 8 by omega) with rfl | rfl | rfl | rfl
  · exact ⟨0, by decide, by decide⟩
  · exact ⟨1, by decide, by decide⟩
  · exact ⟨2, by decide, by decide⟩
  · exact ⟨3, by decide, by decide⟩
/-- what a reference call's post must say -/
def Rp (nb : Nat → Nat) (S : hw_St) (Post : hw_T) : Prop := ∀ oc nb3 S3 z3, Post oc nb3 S3 z3 → nb3 = nb ∧ (∃ b, oc = .inl (some (.int b))) ∧ ∃ ns nt, rk ns nt S S3
theorem Rp_p {nb : Nat → Nat} {S S1 : hw_St} {z ns nt : Nat} {b : Int32} (h : rk ns nt S S1) : Rp nb S (hw_p (.inl (some (.int b))) nb S1 z) := fun oc nb3 S3 z3 hp => by
  obtain ⟨rfl, rfl, rfl, -⟩ := hp
  exact ⟨rfl, ⟨b, rfl⟩, ns, nt, h⟩
theorem Rp_g {nb : Nat → Nat} {S S1 : hw_St} {z ns nt : Nat} {b : Int32} (h : rk ns nt S S1) : Rp nb S (fun oc nb' S' z' => oc = .inl (some (.int b)) ∧ nb' = nb ∧ pg_r 1400 S1 S' ∧ z' = z) := fun oc nb3 S3 z3 hp => by
  obtain ⟨rfl, rfl, hq, -⟩ := hp
  exact ⟨rfl, ⟨b, rfl⟩, ns, nt, rk_pg h hq (Nat.le_refl _)⟩
theorem gx9 {ns nt : Nat} {S : hw_St} (hX : ix ns nt S) (x : Int32) : (∃ s, s < ns ∧ x = nI s) ∨ (x < 0 ∨ ¬ x ≤ S 20 0 12 - 1) := by
  have h := hX.1.1
  rw [h.2]
  exact (ib_rng x ns (by omega)).imp id fun q => q.imp id fun q => nI_ge_p (by omega) q
theorem gx11 {ns nt : Nat} {S : hw_St} (hX : ix ns nt S) (x : Int32) : (∃ s, s < nt ∧ x = nI s) ∨ (x < 0 ∨ ¬ x ≤ S 20 0 18 - 1) := by
  have h := hX.1.2.1
  rw [h.2]
  exact (ib_rng x nt (by omega)).imp id fun q => q.imp id fun q => nI_ge_p (by omega) q
theorem R_login (l : Launch) (B : hw_B) (nb : Nat → Nat) (S : hw_St) (z : Nat) (hA : hw_al nb) (hF : hw_Fx S) {ns nt : Nat} (hX : ix ns nt S) (hW : wr S) (x y r : Int32) (hr : ib_b r) : ∃ Post : hw_T, hw_M l yM_login cM_login 4 (some .int) ({ frames := 2, cells := 0, slots := 0, locals := 50 }) B [.ref (hw_a B 20 0), .int x, .int y, .int r] nb S z Post ∧ Rp nb S Post := by
  have hs := hX.1.1
  have ht := hX.1.2.1
  rcases ib_rng x 4 (by decide) with ⟨u, hu, rfl⟩ | hx
  · by_cases h40 : ns = 40
    · exact ⟨_, m_M_login_b l B nb S z hA hF u hu y r (by rw [hs.2, h40]; rfl), Rp_p (rk_t (rk_rf hX hW) _)⟩
    · rcases hat : md_try (hw_sv S 20 0 0 0) u y r ns with ⟨a, S1⟩
      obtain ⟨ns', q⟩ := rk_try hat (rk_t (rk_rf hX hW) _) (by omega) hu
      exact ⟨_, m_M_login_c l B nb S z hA hF u hu y r hr ns (by omega) hs.2 a S1 hat, Rp_p q⟩
  · exact ⟨_, m_M_login_a l B nb S z hA hF x y r (hx.imp id fun q => ib_gt q (by decide)), Rp_p (rk_t (rk_rf hX hW) _)⟩
theorem R_enter (l : Launch) (B : hw_B) (nb : Nat → Nat) (S : hw_St) (z : Nat) (hA : hw_al nb) (hF : hw_Fx S) {ns nt : Nat} (hX : ix ns nt S) (hW : wr S) (x y v : Int32) : ∃ Post : hw_T, hw_M l yM_enter cM_enter 5 (some .int) ({ frames := 2, cells := 0, slots := 0, locals := 50 }) B [.ref (hw_a B 20 0), .int x, .int y, .int v] nb S z Post ∧ Rp nb S Post := by
  have hs := hX.1.1
  have ht := hX.1.2.1
  rcases ib_rng x 4 (by decide) with ⟨u, hu, rfl⟩ | hx
  · by_cases hv : md_en S v = 0
    · exact ⟨_, m_M_enter_b l B nb S z hA hF u hu y v hv, Rp_p (rk_t (rk_rf hX hW) _)⟩
    · by_cases h40 : ns = 40
      · exact ⟨_, m_M_enter_c l B nb S z hA hF u hu y v hv (by rw [hs.2, h40]; rfl), Rp_p (rk_t (rk_rf hX hW) _)⟩
      · by_cases h150 : nt = 150
        · exact ⟨_, m_M_enter_d l B nb S z hA hF u hu y v hv (by rw [hs.2]; exact fun q => h40 (nI_inj (b := 40) (by omega) (by decide) q)) (by rw [ht.2, h150]; rfl), Rp_p (rk_t (rk_rf hX hW) _)⟩
        · rcases hat : md_try (hw_sv S 20 0 0 0) u y 0 ns with ⟨a, S1⟩
          by_cases ha : 0 ≤ a
          · obtain ⟨rfl, rfl⟩ := md_try_y hat ha
            obtain ⟨w, hw, rfl⟩ := md_en_in hv
            exact ⟨_, m_M_enter_f l B nb S z hA hF u hu y _ hv ns nt (by omega) hs.2 (by omega) ht.2 hat, Rp_p (rk_giv (rk_opn (rk_t (rk_rf hX hW) _) (by omega) hu 0) (by omega) ⟨ns, by omega, rfl⟩ ⟨w, hw, rfl⟩ (Or.inl rfl) (fun q => absurd q (by decide)))⟩
          · obtain ⟨ns', q⟩ := rk_try hat (rk_t (rk_rf hX hW) _) (by omega) hu
            exact ⟨_, m_M_enter_e l B nb S z hA hF u hu y v hv ns nt (by omega) hs.2 (by omega) ht.2 a S1 hat ha, Rp_p q⟩
  · exact ⟨_, m_M_enter_a l B nb S z hA hF x y v (hx.imp id fun q => ib_gt q (by decide)), Rp_p (rk_t (rk_rf hX hW) _)⟩
theorem R_ticket (l : Launch) (B : hw_B) (nb : Nat → Nat) (S : hw_St) (z : Nat) (hA : hw_al nb) (hF : hw_Fx S) {ns nt : Nat} (hX : ix ns nt S) (hW : wr S) (x v : Int32) : ∃ Post : hw_T, hw_M l yM_ticket cM_ticket 3 (some .int) ({ frames := 2, cells := 0, slots := 0, locals := 50 }) B [.ref (hw_a B 20 0), .int x, .int v] nb S z Post ∧ Rp nb S Post := by
  have hs := hX.1.1
  have ht := hX.1.2.1
  rcases gx9 hX x with ⟨s, hsn, rfl⟩ | hx
  · by_cases hv : md_en S v = 0
    · exact ⟨_, m_M_ticket_b l B nb S z hA hF s ns hsn hs.1 hs.2 v hv, Rp_p (rk_t (rk_rf hX hW) _)⟩
    · by_cases he : S 34 0 s = 0
      · by_cases h150 : nt = 150
        · exact ⟨_, m_M_ticket_d l B nb S z hA hF s ns hsn hs.1 hs.2 v hv he (by rw [ht.2, h150]; rfl), Rp_p (rk_t (rk_rf hX hW) _)⟩
        · obtain ⟨w, hw, rfl⟩ := md_en_in hv
          exact ⟨_, m_M_ticket_e l B nb S z hA hF s ns hsn hs.1 hs.2 _ hv he nt (by omega) ht.2, Rp_p (rk_giv (rk_sv (rk_t (rk_rf hX hW) _) (by omega)) (by omega) ⟨s, hsn, rfl⟩ ⟨w, hw, rfl⟩ (Or.inl rfl) (fun q => absurd q (by decide)))⟩
      · exact ⟨_, m_M_ticket_c l B nb S z hA hF s ns hsn hs.1 hs.2 v hv he, Rp_p (rk_t (rk_rf hX hW) _)⟩
  · exact ⟨_, m_M_ticket_a l B nb S z hA hF x v hx, Rp_p (rk_t (rk_rf hX hW) _)⟩
theorem R_proxy (l : Launch) (B : hw_B) (nb : Nat → Nat) (S : hw_St) (z : Nat) (hA : hw_al nb) (hF : hw_Fx S) {ns nt : Nat} (hX : ix ns nt S) (hW : wr S) (x v : Int32) : ∃ Post : hw_T, hw_M l yM_proxy cM_proxy 3 (some .int) ({ frames := 2, cells := 0, slots := 0, locals := 50 }) B [.ref (hw_a B 20 0), .int x, .int v] nb S z Post ∧ Rp nb S Post := by
  have hs := hX.1.1
  have ht := hX.1.2.1
  rcases gx11 hX x with ⟨t, htn, rfl⟩ | hx
  · by_cases hk : S 35 0 t = 2
    · by_cases hv : md_en S v = 0
      · exact ⟨_, m_M_proxy_c l B nb S z hA hF t nt htn ht.1 ht.2 v hk hv, Rp_p (rk_t (rk_rf hX hW) _)⟩
      · obtain ⟨s, hsn, hts⟩ := hX.1.2.2.2.2.2.1 t htn
        by_cases hg : md_good S t s = 0
        · exact ⟨_, m_M_proxy_d l B nb S z hA hF t nt htn ht.1 ht.2 v hk hv s (by omega) hts hg, Rp_p (rk_t (rk_rf hX hW) _)⟩
        · by_cases h150 : nt = 150
          · exact ⟨_, m_M_proxy_e l B nb S z hA hF t nt htn ht.1 ht.2 v hk hv s (by omega) hts hg (by rw [ht.2, h150]; rfl), Rp_p (rk_t (rk_rf hX hW) _)⟩
          · obtain ⟨w, hw, rfl⟩ := md_en_in hv
            exact ⟨_, m_M_proxy_f l B nb S z hA hF t nt htn (by omega) ht.2 _ hk hv s (by omega) hts hg, Rp_p (rk_giv (rk_sv (rk_t (rk_rf hX hW) _) (by omega)) (by omega) ⟨s, hsn, hts⟩ ⟨w, hw, rfl⟩ (Or.inr ⟨t, htn, rfl⟩) (fun q => absurd q (by decide)))⟩
    · exact ⟨_, m_M_proxy_b l B nb S z hA hF t nt htn ht.1 ht.2 v hk, Rp_p (rk_t (rk_rf hX hW) _)⟩
  · exact ⟨_, m_M_proxy_a l B nb S z hA hF x v hx, Rp_p (rk_t (rk_rf hX hW) _)⟩
theorem R_validate (l : Launch) (B : hw_B) (nb : Nat → Nat) (S : hw_St) (z : Nat) (hA : hw_al nb) (hF : hw_Fx S) {ns nt : Nat} (hX : ix ns nt S) (hW : wr S) (x v h c : Int32) : ∃ Post : hw_T, hw_M l yM_validate cM_validate 7 (some .int) ({ frames := 5, cells := 0, slots := 0, locals := 127 }) B [.ref (hw_a B 20 0), .int x, .int v, .int h, .int c] nb S z Post ∧ Rp nb S Post := by
  have hs := hX.1.1
  have ht := hX.1.2.1
  by_cases hh1 : h < 0
  · exact ⟨_, m_M_validate_a l B nb S z hA hF x v h c (Or.inl hh1), Rp_p (rk_t (rk_rf hX hW) _)⟩
  by_cases hh2 : h ≤ 7
  · rcases ib_rng c 6 (by decide) with ⟨c, hc, rfl⟩ | hc
    · have hX0 : ix ns nt (hw_sv S 20 0 0 0) := ix_t hX 0
      rcases gx11 hX0 x with ⟨t, htn, rfl⟩ | hx
      · by_cases hv : md_en (hw_sv S 20 0 0 0) v = 0
        · exact ⟨_, m_M_validate_b l B nb S z hA hF (nI t) v h c hc hh1 hh2 1 (m_M_judged_b l B nb _ z hA (hF.sv rfl) ns nt hX0.1 t htn v h hv) (by decide) (by decide), Rp_g (rk_t (rk_rf hX hW) _)⟩
        · obtain ⟨s, hsn, hts⟩ := hX0.1.2.2.2.2.2.1 t htn
          have hj := m_M_judged_c l B nb _ z hA (hF.sv rfl) ns nt hX0.1 t htn s (by omega) hts v h hv
          rcases md_j_c (hw_sv S 20 0 0 0) t s v h with ⟨e, hk⟩ | e | e
          · rw [e] at hj
            obtain ⟨w, hw, rfl⟩ := md_en_in hv
            by_cases hd : 1 ≤ c ∧ S 29 0 c = 0 ∧ (S 28 0 w / 2 - S 28 0 w / 2 / 2 * 2 = 1) ∧ nt < 150
            · exact ⟨_, m_M_validate_f l B nb S z hA hF ns nt hX.1 t htn w hw h c hc hh1 hh2 hj s hsn hts hk hd.2.2.2 hd.1 hd.2.1 hd.2.2.1, Rp_g (rk_giv (rk_sv (rk_sv (rk_t (rk_rf hX hW) _) (by omega)) (by omega)) hd.2.2.2 ⟨s, hsn, hts⟩ ⟨c, hc, rfl⟩ (Or.inr ⟨t, htn, rfl⟩) (fun _ q hq e2 => by have e3 := nI_inj (by omega) (by omega) e2; subst e3; exact hk))⟩
            · exact ⟨_, m_M_validate_g l B nb S z hA hF ns nt hX.1 t htn w hw h c hc hh1 hh2 hj s hsn hts hd, Rp_g (rk_sv (rk_sv (rk_t (rk_rf hX hW) _) (by omega)) (by omega))⟩
          · rw [e] at hj
            exact ⟨_, m_M_validate_b l B nb S z hA hF (nI t) v h c hc hh1 hh2 2 hj (by decide) (by decide), Rp_g (rk_t (rk_rf hX hW) _)⟩
          · exact ⟨_, m_M_validate_d l B nb S z hA hF t (by omega) v h c hc hh1 hh2 _ hj e, Rp_g (rk_sv (rk_t (rk_rf hX hW) _) (by omega))⟩
      · exact ⟨_, m_M_validate_b l B nb S z hA hF x v h c hc hh1 hh2 1 (m_M_judged_a l B nb _ z hA (hF.sv rfl) x v h hx) (by decide) (by decide), Rp_g (rk_t (rk_rf hX hW) _)⟩
    · exact ⟨_, m_M_validate_a2 l B nb S z hA hF x v h c hh1 hh2 (hc.imp id fun q => ib_gt q (by decide)), Rp_p (rk_t (rk_rf hX hW) _)⟩
  · exact ⟨_, m_M_validate_a l B nb S z hA hF x v h c (Or.inr hh2), Rp_p (rk_t (rk_rf hX hW) _)⟩
theorem R_logout (l : Launch) (B : hw_B) (nb : Nat → Nat) (S : hw_St) (z : Nat) (hA : hw_al nb) (hF : hw_Fx S) {ns nt : Nat} (hX : ix ns nt S) (hW : wr S) (x : Int32) : ∃ Post : hw_T, hw_M l yM_logout cM_logout 2 (some .int) ({ frames := 2, cells := 0, slots := 0, locals := 60 }) B [.ref (hw_a B 20 0), .int x] nb S z Post ∧ Rp nb S Post := by
  have hs := hX.1.1
  have ht := hX.1.2.1
  rcases gx9 hX x with ⟨s, hsn, rfl⟩ | hx
  · by_cases he : S 34 0 s = 0
    · have hX0 : ix ns nt (hw_sv S 20 0 0 0) := ix_t hX 0
      obtain ⟨hM0, nm0, hm0, hp0⟩ := hX0
      obtain ⟨hM, nm, hm, hp⟩ := hX
      have hco := md_po_end hM hsn he nt (Nat.le_refl _)
      refine ⟨_, m_M_logout_c l B nb S z hA hF s ns hsn hs.1 hs.2 nt nm hM he hm (by omega), fun oc nb3 S3 z3 hq => ?_⟩
      obtain ⟨⟨j, hj, rfl, hj2⟩, rfl, rfl, -⟩ := hq
      have e0 : nm0 + md_po (hw_sv S 20 0 0 0) nt ≤ nt := hp0
      have e1 : md_co s (hw_sv S 20 0 0 0) nt = md_co s S nt := md_co_eq (S := S) (S' := hw_sv S 20 0 0 0) (fun _ => rfl) nt
      have e2 : md_po (hw_sv S 20 0 0 0) nt = md_po S nt := md_po_eq (S := S) (S' := hw_sv S 20 0 0 0) nt (fun _ _ => rfl) (fun _ _ => rfl)
      refine ⟨rfl, ⟨_, rfl⟩, ns, nt, ix_end (S := hw_sv S 20 0 0 0) (nm := nm) hM0 hsn he (by rw [e2]; exact hp) (by rw [e1]; exact hj) hj2, wr_mm (S := hw_sv (hw_sv S 20 0 0 0) 34 0 s 1) hW (md_endk_r nt), rf_mm (rf_sv (rf_sv rf_rf (by unfold rP; omega)) (by unfold rP; omega)) (md_endk_r nt)⟩
    · exact ⟨_, m_M_logout_b l B nb S z hA hF s ns hsn hs.1 hs.2 he, Rp_p (rk_t (rk_rf hX hW) _)⟩
  · exact ⟨_, m_M_logout_a l B nb S z hA hF x hx, Rp_p (rk_t (rk_rf hX hW) _)⟩
theorem R_document (l : Launch) (B : hw_B) (nb : Nat → Nat) (S : hw_St) (z : Nat) (hA : hw_al nb) (hF : hw_Fx S) {ns nt : Nat} (hX : ix ns nt S) (hW : wr S) (x : Int32) : ∃ Post : hw_T, hw_M l yM_document cM_document 2 (some .int) ({ frames := 0, cells := 0, slots := 0, locals := 0 }) B [.ref (hw_a B 20 0), .int x] nb S z Post ∧ Rp nb S Post := by
  refine ⟨_, m_M_document l B nb S z hA hF x hW, fun oc nb3 S3 z3 hp => ?_⟩
  obtain ⟨⟨r, rfl⟩, rfl, rfl, -⟩ := hp
  exact ⟨rfl, ⟨r, rfl⟩, ns, nt, (rk_t (rk_rf hX hW) _)⟩
theorem R_message (l : Launch) (B : hw_B) (nb : Nat → Nat) (S : hw_St) (z : Nat) (hA : hw_al nb) (hF : hw_Fx S) {ns nt : Nat} (hX : ix ns nt S) (hW : wr S) (x : Int32) : ∃ Post : hw_T, hw_M l yM_message cM_message 2 (some .int) ({ frames := 0, cells := 0, slots := 0, locals := 0 }) B [.ref (hw_a B 20 0), .int x] nb S z Post ∧ Rp nb S Post := by
  obtain ⟨nm, hm, hp⟩ := hX.2
  have ht := hX.1.2.1
  exact ⟨_, m_M_message l B nb S z hA hF x nm (by omega) hm, Rp_p (rk_t (rk_rf hX hW) _)⟩
theorem R_session (l : Launch) (B : hw_B) (nb : Nat → Nat) (S : hw_St) (z : Nat) (hA : hw_al nb) (hF : hw_Fx S) {ns nt : Nat} (hX : ix ns nt S) (hW : wr S) (x y : Int32) : ∃ Post : hw_T, hw_M l yM_session cM_session 3 (some .int) ({ frames := 2, cells := 0, slots := 0, locals := 60 }) B [.ref (hw_a B 20 0), .int x, .int y] nb S z Post ∧ Rp nb S Post := by
  have hs := hX.1.1
  rcases gx9 hX x with ⟨s, hsn, rfl⟩ | hx
  · exact ⟨_, m_M_session_y l B nb S z hA hF s ns hsn hs.1 hs.2 y, Rp_p (rk_t (rk_rf hX hW) _)⟩
  · exact ⟨_, m_M_session_n l B nb S z hA hF x y hx, Rp_p (rk_t (rk_rf hX hW) _)⟩
theorem R_about (l : Launch) (B : hw_B) (nb : Nat → Nat) (S : hw_St) (z : Nat) (hA : hw_al nb) (hF : hw_Fx S) {ns nt : Nat} (hX : ix ns nt S) (hW : wr S) (x y : Int32) : ∃ Post : hw_T, hw_M l yM_about cM_about 5 (some .int) ({ frames := 2, cells := 0, slots := 0, locals := 60 }) B [.ref (hw_a B 20 0), .int x, .int y] nb S z Post ∧ Rp nb S Post := by
  have hs := hX.1.1
  rcases gx11 hX x with ⟨t, htn, rfl⟩ | hx
  · obtain ⟨s, hsn, hts⟩ := hX.1.2.2.2.2.2.1 t htn
    exact ⟨_, m_M_about_y l B nb S z hA hF ns nt hX.1 t htn s (by omega) hts y, Rp_p (rk_t (rk_rf hX hW) _)⟩
  · exact ⟨_, m_M_about_n l B nb S z hA hF x y hx, Rp_p (rk_t (rk_rf hX hW) _)⟩
theorem R_house (l : Launch) (B : hw_B) (nb : Nat → Nat) (S : hw_St) (z : Nat) (hA : hw_al nb) (hF : hw_Fx S) {ns nt : Nat} (hX : ix ns nt S) (hW : wr S) (x : Int32) : ∃ Post : hw_T, hw_M l yM_house cM_house 2 (some .int) ({ frames := 2, cells := 0, slots := 0, locals := 60 }) B [.ref (hw_a B 20 0), .int x] nb S z Post ∧ Rp nb S Post := by
  by_cases h5 : x < 5
  · exact ⟨_, m_M_house_n l B nb S z hA hF x (Or.inl h5), Rp_p (rk_t (rk_rf hX hW) _)⟩
  · by_cases h8 : x ≤ 8
    · obtain ⟨u, hu, e⟩ := hou_in h5 h8
      exact ⟨_, m_M_house_y l B nb S z hA hF x h5 h8 u hu e, Rp_p (rk_t (rk_rf hX hW) _)⟩
    · exact ⟨_, m_M_house_n l B nb S z hA hF x (Or.inr h8), Rp_p (rk_t (rk_rf hX hW) _)⟩
