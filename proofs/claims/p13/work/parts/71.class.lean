/-! Class calls through the wrappers, for any arguments. -/
theorem gt9 {nb : Nat → Nat} {S : hw_St} (hI : ic nb S) (x : Int32) : (∃ s, s < nb 9 ∧ x = nI s) ∨ (x < 0 ∨ S 0 0 8 ≤ x) := by
  rw [hI.2.2.1.2]; exact ib_rng x (nb 9) (by have := hI.2.2.1.1; omega)
theorem gt11 {nb : Nat → Nat} {S : hw_St} (hI : ic nb S) (x : Int32) : (∃ s, s < nb 11 ∧ x = nI s) ∨ (x < 0 ∨ S 0 0 9 ≤ x) := by
  rw [hI.2.2.2.1.2]; exact ib_rng x (nb 11) (by have := hI.2.2.2.1.1; omega)
theorem C_login (l : Launch) (hst : l.stackTraces = false) (B : hw_B) (nb : Nat → Nat) (S : hw_St) (z : Nat) (hI : ic nb S) (hZ : iz nb S) (x y r : Int32) (hr : ib_b r) (hz : hw_a B 9 (nb 9) = z) : ∃ (k : Int32) (nb1 : Nat → Nat) (S1 : hw_St), hw_MW l yL_login cL_login 6 (some .int) [(0, 12, 15, 13), (0, 12, 19, 15)] ({ frames := 7, cells := 1, slots := 6, locals := 115 }) B [.ref (hw_a B 0 0), .int x, .int y, .int r, .ref (hw_a B 50 0)] nb S z (hw_pq k nb1 S1) ∧ ck S nb1 S1 := by
  rcases ib_rng x 4 (by decide) with ⟨u, hu, rfl⟩ | hx
  · by_cases h40 : nb 9 = 40
    · exact ⟨2, nb, S, m_L_login_ISE l B nb S z hI.1 _ _ _ nb S hI.1 (m_H_login_b l hst B nb S z u y r hu h40 hI), ck_rf hI hZ⟩
    · have h40' : nb 9 < 40 := by have := hI.2.2.1.1; omega
      rcases hat : us_att S u y (S 0 0 11) with ⟨a, S1⟩
      by_cases ha : a = 0
      · subst ha
        obtain rfl := us_att_0 hat
        have q := ck_opn (ck_att hat hu hI hZ) h40' hu hr
        exact ⟨0, _, _, m_L_login_ok l B nb S z hI.1 _ _ _ _ _ q.1.1 _ (m_H_login_d l hst B nb S z u y r hu hr h40' hat hI hz), ck_out q _⟩
      · have q := ck_att hat hu hI hZ
        exact ⟨0, nb, _, m_L_login_ok l B nb S z hI.1 _ _ _ nb S1 hI.1 a (m_H_login_c l hst B nb S z u y r hu h40' a S1 hat ha hI), ck_out q _⟩
  · exact ⟨1, nb, S, m_L_login_IAE l B nb S z hI.1 _ _ _ nb S hI.1 (m_H_login_a l hst B nb S z x y r hx hI), ck_rf hI hZ⟩
theorem C_enter (l : Launch) (hst : l.stackTraces = false) (B : hw_B) (nb : Nat → Nat) (S : hw_St) (z : Nat) (hI : ic nb S) (hZ : iz nb S) (x y v : Int32) (hz : hw_a B 9 (nb 9) = z) (hz2 : hw_a B 11 (nb 11) = z + 1) : ∃ (k : Int32) (nb1 : Nat → Nat) (S1 : hw_St), hw_MW l yL_enter cL_enter 6 (some .int) [(0, 12, 15, 13), (0, 12, 19, 15)] ({ frames := 7, cells := 2, slots := 15, locals := 126 }) B [.ref (hw_a B 0 0), .int x, .int y, .int v, .ref (hw_a B 50 0)] nb S z (hw_pq k nb1 S1) ∧ ck S nb1 S1 := by
  rcases ib_rng x 4 (by decide) with ⟨u, hu, rfl⟩ | hx
  · by_cases hv : hs_en S v = 0
    · exact ⟨1, nb, S, m_L_enter_IAE l B nb S z hI.1 _ _ _ nb S hI.1 (m_H_enter_b l hst B nb S z u y v hu hv hI), ck_rf hI hZ⟩
    · by_cases h40 : nb 9 = 40
      · exact ⟨2, nb, S, m_L_enter_ISE l B nb S z hI.1 _ _ _ nb S hI.1 (m_H_enter_c l hst B nb S z u y v hu hv h40 hI), ck_rf hI hZ⟩
      · have h40' : nb 9 < 40 := by have := hI.2.2.1.1; omega
        by_cases h150 : nb 11 = 150
        · exact ⟨2, nb, S, m_L_enter_ISE l B nb S z hI.1 _ _ _ nb S hI.1 (m_H_enter_d l hst B nb S z u y v hu hv h40' h150 hI), ck_rf hI hZ⟩
        · have h150' : nb 11 < 150 := by have := hI.2.2.2.1.1; omega
          rcases hat : us_att S u y (S 0 0 11) with ⟨a, S1⟩
          by_cases ha : a = 0
          · subst ha
            obtain rfl := us_att_0 hat
            obtain ⟨w, hw, rfl⟩ := hs_en_in hv
            have q := ck_opn (ck_att hat hu hI hZ) h40' hu (r := 0) (Or.inl rfl)
            have q2 := ck_giv (k := 0) (s := nb 9) (w := nI w) (f := -1) (c := if (0 : Int32) = 2 then 0 + 1 else 0) q (show nb 11 < 150 from h150') (Or.inl rfl) (show nb 9 < nb 9 + 1 from Nat.lt_succ_self _) ⟨w, hw, rfl⟩ (Or.inl rfl)
            have q3 := ck_sv (k := 11) (i := nb 11) (j := 7) (x := 1) q2 (ipp_11_7 (Or.inr rfl)) (by unfold cP; omega) (by decide) (by decide)
            exact ⟨0, _, _, m_L_enter_ok l B nb S z hI.1 _ _ _ _ _ q3.1.1 _ (m_H_enter_f l hst B nb S z u w y hu hw hv h40' h150' hat hI hz hz2), ck_out q3 _⟩
          · have q := ck_att hat hu hI hZ
            exact ⟨0, nb, _, m_L_enter_ok l B nb S z hI.1 _ _ _ nb S1 hI.1 a (m_H_enter_e l hst B nb S z u y v hu hv h40' h150' a S1 hat ha hI), ck_out q _⟩
  · exact ⟨1, nb, S, m_L_enter_IAE l B nb S z hI.1 _ _ _ nb S hI.1 (m_H_enter_a l hst B nb S z x y v hx hI), ck_rf hI hZ⟩
theorem C_ticket (l : Launch) (hst : l.stackTraces = false) (B : hw_B) (nb : Nat → Nat) (S : hw_St) (z : Nat) (hI : ic nb S) (hZ : iz nb S) (x v : Int32) (hz : hw_a B 11 (nb 11) = z) : ∃ (k : Int32) (nb1 : Nat → Nat) (S1 : hw_St), hw_MW l yL_ticket cL_ticket 5 (some .int) [(0, 10, 13, 13), (0, 10, 17, 15)] ({ frames := 7, cells := 1, slots := 9, locals := 113 }) B [.ref (hw_a B 0 0), .int x, .int v, .ref (hw_a B 50 0)] nb S z (hw_pq k nb1 S1) ∧ ck S nb1 S1 := by
  rcases gt9 hI x with ⟨s, hs, rfl⟩ | hx
  · by_cases hv : hs_en S v = 0
    · exact ⟨1, nb, S, m_L_ticket_IAE l B nb S z hI.1 _ _ nb S hI.1 (m_H_ticket_b l hst B nb S z s v hs hv hI), ck_rf hI hZ⟩
    · by_cases ho : S 9 s 5 = 0
      · exact ⟨2, nb, S, m_L_ticket_ISE l B nb S z hI.1 _ _ nb S hI.1 (m_H_ticket_c l hst B nb S z s v hs hv ho hI), ck_rf hI hZ⟩
      · by_cases h150 : nb 11 = 150
        · exact ⟨2, nb, S, m_L_ticket_ISE l B nb S z hI.1 _ _ nb S hI.1 (m_H_ticket_d l hst B nb S z s v hs hv ho h150 hI), ck_rf hI hZ⟩
        · have h150' : nb 11 < 150 := by have := hI.2.2.2.1.1; omega
          obtain ⟨w, hw, rfl⟩ := hs_en_in hv
          have q := ck_sv (k := 9) (i := s) (j := 4) (x := S 0 0 11) (ck_rf hI hZ) ipp_9_4 (by unfold cP; omega) (by decide) (by decide)
          have q2 := ck_giv (k := 0) (s := s) (w := nI w) (f := -1) (c := if (0 : Int32) = 2 then 0 + 1 else 0) q h150' (Or.inl rfl) hs ⟨w, hw, rfl⟩ (Or.inl rfl)
          exact ⟨0, _, _, m_L_ticket_ok l B nb S z hI.1 _ _ _ _ q2.1.1 _ (m_H_ticket_e l hst B nb S z s w hs hw hv ho h150' hI hz), ck_out q2 _⟩
  · exact ⟨1, nb, S, m_L_ticket_IAE l B nb S z hI.1 _ _ nb S hI.1 (m_H_ticket_a l hst B nb S z x v hx hI), ck_rf hI hZ⟩
theorem C_proxy (l : Launch) (hst : l.stackTraces = false) (B : hw_B) (nb : Nat → Nat) (S : hw_St) (z : Nat) (hI : ic nb S) (hZ : iz nb S) (x v : Int32) (hz : hw_a B 11 (nb 11) = z) : ∃ (k : Int32) (nb1 : Nat → Nat) (S1 : hw_St), hw_MW l yL_proxy cL_proxy 5 (some .int) [(0, 10, 13, 13), (0, 10, 17, 15)] ({ frames := 7, cells := 1, slots := 9, locals := 113 }) B [.ref (hw_a B 0 0), .int x, .int v, .ref (hw_a B 50 0)] nb S z (hw_pq k nb1 S1) ∧ ck S nb1 S1 := by
  rcases gt11 hI x with ⟨i, hi, rfl⟩ | hx
  · by_cases hk : S 11 i 1 = 2
    · by_cases hv : hs_en S v = 0
      · exact ⟨1, nb, S, m_L_proxy_IAE l B nb S z hI.1 _ _ nb S hI.1 (m_H_proxy_c l hst B nb S z i v hi hk hv hI), ck_rf hI hZ⟩
      · obtain ⟨s, hs, hts⟩ := (hI.2.2.2.2.2.2.2.1 i hi).2.2.1
        by_cases hg : tk_good S i s (S 0 0 11) = 0
        · exact ⟨2, nb, S, m_L_proxy_ISE l B nb S z hI.1 _ _ nb S hI.1 (m_H_proxy_d l hst B nb S z i v hi s hs hts hk hv hg hI), ck_rf hI hZ⟩
        · by_cases h150 : nb 11 = 150
          · exact ⟨2, nb, S, m_L_proxy_ISE l B nb S z hI.1 _ _ nb S hI.1 (m_H_proxy_e l hst B nb S z i v hi s hs hts hk hv hg h150 hI), ck_rf hI hZ⟩
          · have h150' : nb 11 < 150 := by have := hI.2.2.2.1.1; omega
            obtain ⟨w, hw, rfl⟩ := hs_en_in hv
            have q := ck_sv (k := 9) (i := s) (j := 4) (x := S 0 0 11) (ck_rf hI hZ) ipp_9_4 (by unfold cP; omega) (by decide) (by decide)
            have q2 := ck_giv (k := 1) (s := s) (w := nI w) (f := nI i) (c := if (1 : Int32) = 2 then S 11 i 6 + 1 else S 11 i 6) q h150' (Or.inr (Or.inl rfl)) hs ⟨w, hw, rfl⟩ (Or.inr ⟨i, hi, rfl⟩)
            exact ⟨0, _, _, m_L_proxy_ok l B nb S z hI.1 _ _ _ _ q2.1.1 _ (m_H_proxy_f l hst B nb S z i s w hi hs hw hts hk hv hg h150' hI hz), ck_out q2 _⟩
    · exact ⟨1, nb, S, m_L_proxy_IAE l B nb S z hI.1 _ _ nb S hI.1 (m_H_proxy_b l hst B nb S z i v hi hk hI), ck_rf hI hZ⟩
  · exact ⟨1, nb, S, m_L_proxy_IAE l B nb S z hI.1 _ _ nb S hI.1 (m_H_proxy_a l hst B nb S z x v hx hI), ck_rf hI hZ⟩
theorem C_validate (l : Launch) (hst : l.stackTraces = false) (B : hw_B) (nb : Nat → Nat) (S : hw_St) (z : Nat) (hI : ic nb S) (hZ : iz nb S) (x v h c : Int32) (hz : hw_a B 11 (nb 11) = z) : ∃ (k : Int32) (nb1 : Nat → Nat) (S1 : hw_St), hw_MW l yL_validate cL_validate 7 (some .int) [(0, 14, 17, 13)] ({ frames := 10, cells := 1, slots := 9, locals := 226 }) B [.ref (hw_a B 0 0), .int x, .int v, .int h, .int c, .ref (hw_a B 50 0)] nb S z (hw_pq k nb1 S1) ∧ ck S nb1 S1 := by
  by_cases hh1 : h < 0
  · exact ⟨1, nb, S, m_L_validate_IAE l B nb S z hI.1 _ _ _ _ nb S hI.1 (m_H_validate_a l hst B nb S z x v h c (Or.inl hh1) hI), ck_rf hI hZ⟩
  by_cases hh2 : 7 < h
  · exact ⟨1, nb, S, m_L_validate_IAE l B nb S z hI.1 _ _ _ _ nb S hI.1 (m_H_validate_a l hst B nb S z x v h c (Or.inr (Or.inl hh2)) hI), ck_rf hI hZ⟩
  rcases ib_rng c 6 (by decide) with ⟨c, hc, rfl⟩ | hc
  · rcases gt11 hI x with ⟨i, hi, rfl⟩ | hx
    · by_cases hv : hs_en S v = 0
      · exact ⟨0, nb, _, m_L_validate_ok l B nb S z hI.1 _ _ _ _ nb S hI.1 _ (m_H_validate_c l hst B nb S z i v h c hc hh1 hh2 hi hv hI), ck_out (ck_rf hI hZ) _⟩
      · obtain ⟨-, -, ⟨s, hs, hts⟩, -, -, -, ⟨w, hw, htw⟩, -⟩ := hI.2.2.2.2.2.2.2.1 i hi
        by_cases hJ2 : tk_judge S i s v h (S 0 0 11) = 2
        · exact ⟨0, nb, _, m_L_validate_ok l B nb S z hI.1 _ _ _ _ nb S hI.1 _ (m_H_validate_d l hst B nb S z i s v h c hc hh1 hh2 hi hs hts hv hJ2 hI), ck_out (ck_rf hI hZ) _⟩
        · have q := ck_sv (k := 11) (i := i) (j := 8) (x := 1) (ck_rf hI hZ) (ipp_11_8 (Or.inr rfl)) (by unfold cP; omega) (by decide) (by decide)
          by_cases hJ0 : tk_judge S i s v h (S 0 0 11) = 0
          · have q2 := ck_sv (k := 9) (i := s) (j := 4) (x := S 0 0 11) q ipp_9_4 (by unfold cP; omega) (by decide) (by decide)
            by_cases hd : ¬ S 7 0 c = 0 ∧ ¬ hs_fl S w 2 = 0 ∧ nb 11 < 150
            · have q3 := ck_giv (k := 2) (s := s) (w := nI c) (f := nI i) (c := (hw_sv (hw_sv S 11 i 8 1) 9 s 4 (S 0 0 11)) 11 i 6 + 1) q2 hd.2.2 (Or.inr (Or.inr rfl)) hs ⟨c, hc, rfl⟩ (Or.inr ⟨i, hi, rfl⟩)
              exact ⟨0, _, _, m_L_validate_ok l B nb S z hI.1 _ _ _ _ _ _ q3.1.1 _ (m_H_validate_f l hst B nb S z i s w v h c hc hh1 hh2 hi hs hts hw htw hv hJ0 hd.2.2 hd.1 hd.2.1 hI hz), ck_out q3 _⟩
            · exact ⟨0, nb, _, m_L_validate_ok l B nb S z hI.1 _ _ _ _ nb _ hI.1 _ (m_H_validate_g l hst B nb S z i s w v h c hc hh1 hh2 hi hs hts hw htw hv hJ0 hd hI), ck_out q2 _⟩
          · exact ⟨0, nb, _, m_L_validate_ok l B nb S z hI.1 _ _ _ _ nb _ hI.1 _ (m_H_validate_e l hst B nb S z i s v h c hc hh1 hh2 hi hs hts hv _ rfl hJ2 hJ0 hI), ck_out q _⟩
    · exact ⟨0, nb, _, m_L_validate_ok l B nb S z hI.1 _ _ _ _ nb S hI.1 _ (m_H_validate_b l hst B nb S z x v h c hc hh1 hh2 hx hI), ck_out (ck_rf hI hZ) _⟩
  · exact ⟨1, nb, S, m_L_validate_IAE l B nb S z hI.1 _ _ _ _ nb S hI.1 (m_H_validate_a l hst B nb S z x v h c (Or.inr (Or.inr (hc.imp id fun q => ib_gt q (by decide)))) hI), ck_rf hI hZ⟩
theorem C_logout (l : Launch) (hst : l.stackTraces = false) (B : hw_B) (nb : Nat → Nat) (S : hw_St) (z : Nat) (hI : ic nb S) (hZ : iz nb S) (x : Int32) : ∃ (k : Int32) (nb1 : Nat → Nat) (S1 : hw_St), hw_MW l yL_logout cL_logout 4 (some .int) [(0, 9, 12, 13), (0, 9, 15, 15)] ({ frames := 7, cells := 1, slots := 6, locals := 122 }) B [.ref (hw_a B 0 0), .int x, .ref (hw_a B 50 0)] nb S z (hw_pq k nb1 S1) ∧ ck S nb1 S1 := by
  rcases gt9 hI x with ⟨s, hs, rfl⟩ | hx
  · by_cases ho : S 9 s 5 = 0
    · exact ⟨2, nb, S, m_L_logout_ISE l B nb S z hI.1 _ nb S hI.1 (m_H_logout_b l hst B nb S z s hs ho hI), ck_rf hI hZ⟩
    · have q := ck_end (ck_rf hI hZ) s (nb 11)
      exact ⟨0, nb, _, m_L_logout_ok l B nb S z hI.1 _ nb _ hI.1 _ (m_H_logout_c l hst B nb S z s hs ho hI), ck_out q _⟩
  · exact ⟨1, nb, S, m_L_logout_IAE l B nb S z hI.1 _ nb S hI.1 (m_H_logout_a l hst B nb S z x hx hI), ck_rf hI hZ⟩
