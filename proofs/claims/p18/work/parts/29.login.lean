/-! login, enter. -/
theorem ipp_9_4 {nb : Nat → Nat} {i : Nat} {x : Int32} : ipp nb 9 i 4 x := by
  refine ⟨?_, ?_, ?_, ?_, ?_, ?_, ?_, ?_, ?_, ?_, ?_, ?_, ?_⟩ <;> first | (intro v hi hv; cases hv; done) | (intro v hi; exact absurd hi (Nat.not_lt_zero _)) | (rintro ⟨q, -⟩; exact absurd q (by decide)) | (rintro ⟨-, -, q⟩; exact absurd q (by decide)) | (intro _; trivial) | (intro _; refine ⟨?_, ?_⟩ <;> intro e <;> first | exact absurd e (by decide) | trivial) | (intro _; refine ⟨?_, ?_, ?_, ?_⟩ <;> intro e <;> first | exact absurd e (by decide) | trivial) | (intro _; refine ⟨?_, ?_, ?_, ?_, ?_, ?_, ?_⟩ <;> intro e <;> first | exact absurd e (by decide) | trivial)
theorem ipp_9_5 {nb : Nat → Nat} {i : Nat} {x : Int32} (hx : ib_b x) : ipp nb 9 i 5 x := by
  refine ⟨?_, ?_, ?_, ?_, ?_, ?_, ?_, ?_, ?_, ?_, ?_, ?_, ?_⟩ <;> first | (intro v hi hv; cases hv; done) | (intro v hi; exact absurd hi (Nat.not_lt_zero _)) | (rintro ⟨q, -⟩; exact absurd q (by decide)) | (rintro ⟨-, -, q⟩; exact absurd q (by decide)) | (intro _; exact hx) | (intro _; refine ⟨?_, ?_⟩ <;> intro e <;> first | exact absurd e (by decide) | exact hx) | (intro _; refine ⟨?_, ?_, ?_, ?_⟩ <;> intro e <;> first | exact absurd e (by decide) | exact hx) | (intro _; refine ⟨?_, ?_, ?_, ?_, ?_, ?_, ?_⟩ <;> intro e <;> first | exact absurd e (by decide) | exact hx)
theorem ipp_11_8 {nb : Nat → Nat} {i : Nat} {x : Int32} (hx : ib_b x) : ipp nb 11 i 8 x := by
  refine ⟨?_, ?_, ?_, ?_, ?_, ?_, ?_, ?_, ?_, ?_, ?_, ?_, ?_⟩ <;> first | (intro v hi hv; cases hv; done) | (intro v hi; exact absurd hi (Nat.not_lt_zero _)) | (rintro ⟨q, -⟩; exact absurd q (by decide)) | (rintro ⟨-, -, q⟩; exact absurd q (by decide)) | (intro _; exact hx) | (intro _; refine ⟨?_, ?_⟩ <;> intro e <;> first | exact absurd e (by decide) | exact hx) | (intro _; refine ⟨?_, ?_, ?_, ?_⟩ <;> intro e <;> first | exact absurd e (by decide) | exact hx) | (intro _; refine ⟨?_, ?_, ?_, ?_, ?_, ?_, ?_⟩ <;> intro e <;> first | exact absurd e (by decide) | exact hx)
theorem ipp_11_7 {nb : Nat → Nat} {i : Nat} {x : Int32} (hx : ib_b x) : ipp nb 11 i 7 x := by
  refine ⟨?_, ?_, ?_, ?_, ?_, ?_, ?_, ?_, ?_, ?_, ?_, ?_, ?_⟩ <;> first | (intro v hi hv; cases hv; done) | (intro v hi; exact absurd hi (Nat.not_lt_zero _)) | (rintro ⟨q, -⟩; exact absurd q (by decide)) | (rintro ⟨-, -, q⟩; exact absurd q (by decide)) | (intro _; exact hx) | (intro _; refine ⟨?_, ?_⟩ <;> intro e <;> first | exact absurd e (by decide) | exact hx) | (intro _; refine ⟨?_, ?_, ?_, ?_⟩ <;> intro e <;> first | exact absurd e (by decide) | exact hx) | (intro _; refine ⟨?_, ?_, ?_, ?_, ?_, ?_, ?_⟩ <;> intro e <;> first | exact absurd e (by decide) | exact hx)
theorem ipp_2_2 {nb : Nat → Nat} {i : Nat} {x : Int32} (hx : ib_b x) : ipp nb 2 i 2 x := by
  refine ⟨?_, ?_, ?_, ?_, ?_, ?_, ?_, ?_, ?_, ?_, ?_, ?_, ?_⟩ <;> first | (intro v hi hv; cases hv; done) | (intro v hi; exact absurd hi (Nat.not_lt_zero _)) | (rintro ⟨q, -⟩; exact absurd q (by decide)) | (rintro ⟨-, -, q⟩; exact absurd q (by decide)) | (intro _; exact hx) | (intro _; refine ⟨?_, ?_⟩ <;> intro e <;> first | exact absurd e (by decide) | exact hx) | (intro _; refine ⟨?_, ?_, ?_, ?_⟩ <;> intro e <;> first | exact absurd e (by decide) | exact hx) | (intro _; refine ⟨?_, ?_, ?_, ?_, ?_, ?_, ?_⟩ <;> intro e <;> first | exact absurd e (by decide) | exact hx)
theorem ipp_2_3 {nb : Nat → Nat} {i : Nat} {x : Int32} : ipp nb 2 i 3 x := by
  refine ⟨?_, ?_, ?_, ?_, ?_, ?_, ?_, ?_, ?_, ?_, ?_, ?_, ?_⟩ <;> first | (intro v hi hv; cases hv; done) | (intro v hi; exact absurd hi (Nat.not_lt_zero _)) | (rintro ⟨q, -⟩; exact absurd q (by decide)) | (rintro ⟨-, -, q⟩; exact absurd q (by decide)) | (intro _; trivial) | (intro _; refine ⟨?_, ?_⟩ <;> intro e <;> first | exact absurd e (by decide) | trivial) | (intro _; refine ⟨?_, ?_, ?_, ?_⟩ <;> intro e <;> first | exact absurd e (by decide) | trivial) | (intro _; refine ⟨?_, ?_, ?_, ?_, ?_, ?_, ?_⟩ <;> intro e <;> first | exact absurd e (by decide) | trivial)
theorem ipp_2_5 {nb : Nat → Nat} {i : Nat} {x : Int32} : ipp nb 2 i 5 x := by
  refine ⟨?_, ?_, ?_, ?_, ?_, ?_, ?_, ?_, ?_, ?_, ?_, ?_, ?_⟩ <;> first | (intro v hi hv; cases hv; done) | (intro v hi; exact absurd hi (Nat.not_lt_zero _)) | (rintro ⟨q, -⟩; exact absurd q (by decide)) | (rintro ⟨-, -, q⟩; exact absurd q (by decide)) | (intro _; trivial) | (intro _; refine ⟨?_, ?_⟩ <;> intro e <;> first | exact absurd e (by decide) | trivial) | (intro _; refine ⟨?_, ?_, ?_, ?_⟩ <;> intro e <;> first | exact absurd e (by decide) | trivial) | (intro _; refine ⟨?_, ?_, ?_, ?_, ?_, ?_, ?_⟩ <;> intro e <;> first | exact absurd e (by decide) | trivial)
theorem ipp_2_4 {nb : Nat → Nat} {i : Nat} {x : Int32} (hx : ∃ n, n ≤ 3 ∧ x = nI n) : ipp nb 2 i 4 x := by
  refine ⟨?_, ?_, ?_, ?_, ?_, ?_, ?_, ?_, ?_, ?_, ?_, ?_, ?_⟩ <;> first | (intro v hi hv; cases hv; done) | (intro v hi; exact absurd hi (Nat.not_lt_zero _)) | (rintro ⟨q, -⟩; exact absurd q (by decide)) | (rintro ⟨-, -, q⟩; exact absurd q (by decide)) | (intro _; exact hx) | (intro _; refine ⟨?_, ?_⟩ <;> intro e <;> first | exact absurd e (by decide) | exact hx) | (intro _; refine ⟨?_, ?_, ?_, ?_⟩ <;> intro e <;> first | exact absurd e (by decide) | exact hx) | (intro _; refine ⟨?_, ?_, ?_, ?_, ?_, ?_, ?_⟩ <;> intro e <;> first | exact absurd e (by decide) | exact hx)
theorem ipp_6 {nb : Nat → Nat} {i : Nat} {j : Nat} {x : Int32} : ipp nb 6 i j x := by
  refine ⟨?_, ?_, ?_, ?_, ?_, ?_, ?_, ?_, ?_, ?_, ?_, ?_, ?_⟩ <;> first | (intro v hi hv; cases hv; done) | (intro v hi; exact absurd hi (Nat.not_lt_zero _)) | (rintro ⟨q, -⟩; exact absurd q (by decide)) | (rintro ⟨-, -, q⟩; exact absurd q (by decide)) | (intro _; trivial) | (intro _; refine ⟨?_, ?_⟩ <;> intro e <;> first | exact absurd e (by decide) | trivial) | (intro _; refine ⟨?_, ?_, ?_, ?_⟩ <;> intro e <;> first | exact absurd e (by decide) | trivial) | (intro _; refine ⟨?_, ?_, ?_, ?_, ?_, ?_, ?_⟩ <;> intro e <;> first | exact absurd e (by decide) | trivial)
theorem ipp_12 {nb : Nat → Nat} {i : Nat} {j : Nat} {x : Int32} : ipp nb 12 i j x := by
  refine ⟨?_, ?_, ?_, ?_, ?_, ?_, ?_, ?_, ?_, ?_, ?_, ?_, ?_⟩ <;> first | (intro v hi hv; cases hv; done) | (intro v hi; exact absurd hi (Nat.not_lt_zero _)) | (rintro ⟨q, -⟩; exact absurd q (by decide)) | (rintro ⟨-, -, q⟩; exact absurd q (by decide)) | (intro _; trivial) | (intro _; refine ⟨?_, ?_⟩ <;> intro e <;> first | exact absurd e (by decide) | trivial) | (intro _; refine ⟨?_, ?_, ?_, ?_⟩ <;> intro e <;> first | exact absurd e (by decide) | trivial) | (intro _; refine ⟨?_, ?_, ?_, ?_, ?_, ?_, ?_⟩ <;> intro e <;> first | exact absurd e (by decide) | trivial)
theorem ipp_0_11 {nb : Nat → Nat} {x : Int32} : ipp nb 0 0 11 x := by
  refine ⟨?_, ?_, ?_, ?_, ?_, ?_, ?_, ?_, ?_, ?_, ?_, ?_, ?_⟩ <;> first | (intro v hi hv; cases hv; done) | (intro v hi; exact absurd hi (Nat.not_lt_zero _)) | (rintro ⟨q, -⟩; exact absurd q (by decide)) | (rintro ⟨-, -, q⟩; exact absurd q (by decide)) | (intro _; trivial) | (intro _; refine ⟨?_, ?_⟩ <;> intro e <;> first | exact absurd e (by decide) | trivial) | (intro _; refine ⟨?_, ?_, ?_, ?_⟩ <;> intro e <;> first | exact absurd e (by decide) | trivial) | (intro _; refine ⟨?_, ?_, ?_, ?_, ?_, ?_, ?_⟩ <;> intro e <;> first | exact absurd e (by decide) | trivial)
theorem ipp_0_10 {nb : Nat → Nat} {x : Int32} (hx : ∃ m, m ≤ 150 ∧ x = nI m) : ipp nb 0 0 10 x := by
  refine ⟨?_, ?_, ?_, ?_, ?_, ?_, ?_, ?_, ?_, ?_, ?_, ?_, ?_⟩ <;> first | (intro v hi hv; cases hv; done) | (intro v hi; exact absurd hi (Nat.not_lt_zero _)) | (rintro ⟨q, -⟩; exact absurd q (by decide)) | (rintro ⟨-, -, q⟩; exact absurd q (by decide)) | (intro _; exact hx) | (intro _; refine ⟨?_, ?_⟩ <;> intro e <;> first | exact absurd e (by decide) | exact hx) | (intro _; refine ⟨?_, ?_, ?_, ?_⟩ <;> intro e <;> first | exact absurd e (by decide) | exact hx) | (intro _; refine ⟨?_, ?_, ?_, ?_, ?_, ?_, ?_⟩ <;> intro e <;> first | exact absurd e (by decide) | exact hx)
theorem us_att_k {S S1 : hw_St} {u : Nat} {x t a : Int32} (h : us_att S u x t = (a, S1)) : ∀ k i j, ¬ k = 2 → S1 k i j = S k i j := fun k i j hk => by
  have h2 : S1 = (us_att S u x t).2 := by rw [h]
  rw [h2]; unfold us_att hw_sv
  repeat' split
  all_goals first | rfl | (simp only []; split <;> first | (rename_i e; exact absurd e.1 hk) | rfl | (split <;> first | (rename_i e; exact absurd e.1 hk) | rfl))
theorem m_U_att (l : Launch) (B : hw_B) (nb : Nat → Nat) (S : hw_St) (z : Nat) (u : Nat) (hA : hw_al nb) (hu : u < 4) (x t a : Int32) (S1 : hw_St) (h : us_att S u x t = (a, S1)) : hw_M l yU_attempt cU_attempt 3 (some .int) ({ frames := 0, cells := 0, slots := 0, locals := 0 }) B [.ref (hw_a B 2 u), .int x, .int t] nb S z (hw_p (.inl (some (.int a))) nb S1 z) := by
  have := m_U_attempt l B nb S z u hA hu x t
  rw [h] at this
  exact this
theorem us_att_tx {S S1 : hw_St} {u : Nat} {x t a : Int32} (h : us_att S u x t = (a, S1)) (hT : ∀ t, t < 18 → tx_ok S t) : ∀ t, t < 18 → tx_ok S1 t := fun v hv => by
  obtain ⟨⟨n, h1, h2⟩, h3⟩ := hT v hv
  exact ⟨⟨n, h1, by rw [us_att_k h _ _ _ (by decide)]; exact h2⟩, fun j => by rw [us_att_k h _ _ _ (by decide)]; exact h3 j⟩
set_option maxRecDepth 100000 in
set_option maxHeartbeats 1000000 in
theorem m_H_login_a (l : Launch) (hst : l.stackTraces = false) (B : hw_B) (nb : Nat → Nat) (S : hw_St) (z : Nat) (x y r : Int32) (hx : x < 0 ∨ 4 ≤ x) (hI : ic nb S) : hw_MX l yH_login cH_login 6 (some .int) ({ frames := 6, cells := 1, slots := 6, locals := 90 }) B [.ref (hw_a B 0 0), .int x, .int y, .int r] nb S z (hw_qp (.inr "java/lang/IllegalArgumentException") nb S) := by
  refine hw_MX.of (by decide) (Nat.le_of_ble_eq_true rfl) ?_
  intro X fr hl hR G hr htab
  obtain ⟨hA, hF, ⟨hn9, hc9⟩, ⟨hn11, hc11⟩, ⟨nm, hnm1, hnm2⟩, hT, hSe, hTi, hU, hW0, hW⟩ := hI
  refine hr_aload_n G dH_login_0 rfl rfl ?_
  refine hr_iload_n G dH_login_1 rfl rfl ?_
  refine hr_callVs (k := 0) (i := 0) G rfl rfl (hA.lt (show 0 < hw_n0 0 by decide)) kH_71 iH_findUser vH_findUser (m_H_findUser_n _ _ _ _ _ x hx) rfl rfl (Nat.le_of_ble_eq_true rfl) ⟨by rw [hR]; decide, by rw [hR]; decide⟩ ⟨by rw [hR]; decide, by rw [hR]; decide⟩ dH_login_2 ?_
  refine hr_astoreN (i := 4) G dH_login_5 (by decide) ?_
  refine hr_aloadN G dH_login_7 rfl ?_
  refine hr_ifnonnullN G dH_login_9 ?_
  exact hr_throw (E := "java/lang/IllegalArgumentException") (names := ["java/lang/RuntimeException", "java/lang/Exception"]) (si := 3) G (by rw [hl]; exact hst) htab (by decide) (by decide) qH_51 in_IAE rfl at_IAE go_IAE dH_login_12 dH_login_15 dH_login_16 dH_login_18 dH_login_21 (by rw [hR]; decide) (by rw [hR]; decide) (by rw [hR]; decide) (by rw [hR]; decide) (by decide) (by decide) (fun _ _ => ⟨rfl, rfl, eqv.rf hT⟩)
set_option maxRecDepth 100000 in
set_option maxHeartbeats 1000000 in
theorem m_H_login_b (l : Launch) (hst : l.stackTraces = false) (B : hw_B) (nb : Nat → Nat) (S : hw_St) (z : Nat) (u : Nat) (y r : Int32) (hu : u < 4) (h40 : nb 9 = 40) (hI : ic nb S) : hw_MX l yH_login cH_login 6 (some .int) ({ frames := 6, cells := 1, slots := 6, locals := 90 }) B [.ref (hw_a B 0 0), .int (nI u), .int y, .int r] nb S z (hw_qp (.inr "java/lang/IllegalStateException") nb S) := by
  refine hw_MX.of (by decide) (Nat.le_of_ble_eq_true rfl) ?_
  intro X fr hl hR G hr htab
  obtain ⟨hA, hF, ⟨hn9, hc9⟩, ⟨hn11, hc11⟩, ⟨nm, hnm1, hnm2⟩, hT, hSe, hTi, hU, hW0, hW⟩ := hI
  refine hr_aload_n G dH_login_0 rfl rfl ?_
  refine hr_iload_n G dH_login_1 rfl rfl ?_
  refine hr_callVs (k := 0) (i := 0) G rfl rfl (hA.lt (show 0 < hw_n0 0 by decide)) kH_71 iH_findUser vH_findUser (m_H_findUser_y _ _ _ _ _ hA hF u hu) rfl rfl (Nat.le_of_ble_eq_true rfl) ⟨by rw [hR]; decide, by rw [hR]; decide⟩ ⟨by rw [hR]; decide, by rw [hR]; decide⟩ dH_login_2 ?_
  refine hr_astore (i := 4) G dH_login_5 (by decide) ?_
  refine hr_aload G dH_login_7 rfl ?_
  refine hr_ifnonnull (tgt := 22) G dH_login_9 (by decide) ?_
  refine hr_aload_n G dH_login_22 rfl rfl ?_
  refine hr_get (v := .int (S 0 0 8)) G fH_101 (hA.lt (show 0 < hw_n0 0 by decide)) rfl dH_login_23 ?_
  refine hr_bipush (v := 40) G dH_login_26 (by decide) ?_
  refine hr_icmp_lt (tgt := 41) G dH_login_28 (by decide) (fun h => absurd h (show ¬ S 0 0 8 < 40 by rw [hc9, h40]; decide)) (fun _ => ?_)
  exact hr_throw (E := "java/lang/IllegalStateException") (names := ["java/lang/RuntimeException", "java/lang/Exception"]) (si := 6) G (by rw [hl]; exact hst) htab (by decide) (by decide) qH_62 in_ISE rfl at_ISE go_ISE dH_login_31 dH_login_34 dH_login_35 dH_login_37 dH_login_40 (by rw [hR]; decide) (by rw [hR]; decide) (by rw [hR]; decide) (by rw [hR]; decide) (by decide) (by decide) (fun _ _ => ⟨rfl, rfl, eqv.rf hT⟩)
set_option maxRecDepth 100000 in
set_option maxHeartbeats 1000000 in
theorem m_H_login_c (l : Launch) (hst : l.stackTraces = false) (B : hw_B) (nb : Nat → Nat) (S : hw_St) (z : Nat) (u : Nat) (y r : Int32) (hu : u < 4) (h40 : nb 9 < 40) (a : Int32) (S1 : hw_St) (hat : us_att S u y (S 0 0 11) = (a, S1)) (ha : ¬ a = 0) (hI : ic nb S) : hw_MX l yH_login cH_login 6 (some .int) ({ frames := 6, cells := 1, slots := 6, locals := 90 }) B [.ref (hw_a B 0 0), .int (nI u), .int y, .int r] nb S z (hw_qp (.inl (some (.int a))) nb S1) := by
  refine hw_MX.of (by decide) (Nat.le_of_ble_eq_true rfl) ?_
  intro X fr hl hR G hr htab
  obtain ⟨hA, hF, ⟨hn9, hc9⟩, ⟨hn11, hc11⟩, ⟨nm, hnm1, hnm2⟩, hT, hSe, hTi, hU, hW0, hW⟩ := hI
  refine hr_aload_n G dH_login_0 rfl rfl ?_
  refine hr_iload_n G dH_login_1 rfl rfl ?_
  refine hr_callVs (k := 0) (i := 0) G rfl rfl (hA.lt (show 0 < hw_n0 0 by decide)) kH_71 iH_findUser vH_findUser (m_H_findUser_y _ _ _ _ _ hA hF u hu) rfl rfl (Nat.le_of_ble_eq_true rfl) ⟨by rw [hR]; decide, by rw [hR]; decide⟩ ⟨by rw [hR]; decide, by rw [hR]; decide⟩ dH_login_2 ?_
  refine hr_astore (i := 4) G dH_login_5 (by decide) ?_
  refine hr_aload G dH_login_7 rfl ?_
  refine hr_ifnonnull (tgt := 22) G dH_login_9 (by decide) ?_
  refine hr_aload_n G dH_login_22 rfl rfl ?_
  refine hr_get (v := .int (S 0 0 8)) G fH_101 (hA.lt (show 0 < hw_n0 0 by decide)) rfl dH_login_23 ?_
  refine hr_bipush (v := 40) G dH_login_26 (by decide) ?_
  refine hr_icmp_lt (tgt := 41) G dH_login_28 (by decide) (fun _ => ?_) (fun h => absurd (show S 0 0 8 < 40 by rw [hc9]; exact (nI_ltI (b := 40) (by omega) (by decide)).mpr h40) h)
  refine hr_aload G dH_login_41 rfl ?_
  refine hr_iload_n G dH_login_43 rfl rfl ?_
  refine hr_aload_n G dH_login_44 rfl rfl ?_
  refine hr_get (v := .int (S 0 0 11)) G fH_106 (hA.lt (show 0 < hw_n0 0 by decide)) rfl dH_login_45 ?_
  refine hr_callVs (k := 2) (i := u) G rfl rfl (hA.lt hu) kH_109 iU_attempt vU_attempt (m_U_att _ _ _ _ _ u hA hu y (S 0 0 11) a S1 hat) rfl rfl (Nat.le_of_ble_eq_true rfl) ⟨by rw [hR]; decide, by rw [hR]; decide⟩ ⟨by rw [hR]; decide, by rw [hR]; decide⟩ dH_login_48 ?_
  refine hr_istore (i := 5) G dH_login_51 (by decide) ?_
  refine hr_iload G dH_login_53 rfl ?_
  refine hr_if_ne (tgt := 71) G dH_login_55 (by decide) (fun _ => ?_) (fun h => absurd h ha)
  refine hr_iload G dH_login_71 rfl ?_
  refine hr_wide (c' := 1) (sl' := 6) (Nat.le_of_ble_eq_true rfl) (Nat.le_of_ble_eq_true rfl) ?_
  exact hr_iret G hr hw_QX.of dH_login_73 ⟨rfl, rfl, eqv.rf (us_att_tx hat hT)⟩
set_option maxRecDepth 100000 in
set_option maxHeartbeats 1000000 in
theorem m_H_login_d (l : Launch) (hst : l.stackTraces = false) (B : hw_B) (nb : Nat → Nat) (S : hw_St) (z : Nat) (u : Nat) (y r : Int32) (hu : u < 4) (hr1 : ib_b r) (h40 : nb 9 < 40) (hat : us_att S u y (S 0 0 11) = (0, (hw_sv S 2 u 4 0))) (hI : ic nb S) (hz : hw_a B 9 (nb 9) = z) : hw_MX l yH_login cH_login 6 (some .int) ({ frames := 6, cells := 1, slots := 6, locals := 90 }) B [.ref (hw_a B 0 0), .int (nI u), .int y, .int r] nb S z (hw_qp (.inl (some (.int (nI (nb 9))))) (hw_nb nb 9) (hs_opn (hw_sv S 2 u 4 0) (nb 9) u r)) := by
  refine hw_MX.of (by decide) (Nat.le_of_ble_eq_true rfl) ?_
  intro X fr hl hR G hr htab
  obtain ⟨hA, hF, ⟨hn9, hc9⟩, ⟨hn11, hc11⟩, ⟨nm, hnm1, hnm2⟩, hT, hSe, hTi, hU, hW0, hW⟩ := hI
  refine hr_aload_n G dH_login_0 rfl rfl ?_
  refine hr_iload_n G dH_login_1 rfl rfl ?_
  refine hr_callVs (k := 0) (i := 0) G rfl rfl (hA.lt (show 0 < hw_n0 0 by decide)) kH_71 iH_findUser vH_findUser (m_H_findUser_y _ _ _ _ _ hA hF u hu) rfl rfl (Nat.le_of_ble_eq_true rfl) ⟨by rw [hR]; decide, by rw [hR]; decide⟩ ⟨by rw [hR]; decide, by rw [hR]; decide⟩ dH_login_2 ?_
  refine hr_astore (i := 4) G dH_login_5 (by decide) ?_
  refine hr_aload G dH_login_7 rfl ?_
  refine hr_ifnonnull (tgt := 22) G dH_login_9 (by decide) ?_
  refine hr_aload_n G dH_login_22 rfl rfl ?_
  refine hr_get (v := .int (S 0 0 8)) G fH_101 (hA.lt (show 0 < hw_n0 0 by decide)) rfl dH_login_23 ?_
  refine hr_bipush (v := 40) G dH_login_26 (by decide) ?_
  refine hr_icmp_lt (tgt := 41) G dH_login_28 (by decide) (fun _ => ?_) (fun h => absurd (show S 0 0 8 < 40 by rw [hc9]; exact (nI_ltI (b := 40) (by omega) (by decide)).mpr h40) h)
  refine hr_aload G dH_login_41 rfl ?_
  refine hr_iload_n G dH_login_43 rfl rfl ?_
  refine hr_aload_n G dH_login_44 rfl rfl ?_
  refine hr_get (v := .int (S 0 0 11)) G fH_106 (hA.lt (show 0 < hw_n0 0 by decide)) rfl dH_login_45 ?_
  refine hr_callVs (k := 2) (i := u) G rfl rfl (hA.lt hu) kH_109 iU_attempt vU_attempt (m_U_att _ _ _ _ _ u hA hu y (S 0 0 11) 0 (hw_sv S 2 u 4 0) hat) rfl rfl (Nat.le_of_ble_eq_true rfl) ⟨by rw [hR]; decide, by rw [hR]; decide⟩ ⟨by rw [hR]; decide, by rw [hR]; decide⟩ dH_login_48 ?_
  refine hr_istore (i := 5) G dH_login_51 (by decide) ?_
  refine hr_iload G dH_login_53 rfl ?_
  refine hr_if_ne (tgt := 71) G dH_login_55 (by decide) (fun h => absurd (by decide) h) (fun _ => ?_)
  refine hr_aload_n G dH_login_58 rfl rfl ?_
  refine hr_aload G dH_login_59 rfl ?_
  refine hr_iload_n G dH_login_61 rfl rfl ?_
  refine hr_callVs (k := 0) (i := 0) G rfl rfl (hA.lt (show 0 < hw_n0 0 by decide)) kH_113 iH_openSession vH_openSession (m_H_openSession _ _ _ _ _ hA (hF.sv rfl) u hu r hr1 hc9 h40 hz) rfl rfl (Nat.le_of_ble_eq_true rfl) ⟨by rw [hR]; decide, by rw [hR]; decide⟩ ⟨by rw [hR]; decide, by rw [hR]; decide⟩ dH_login_62 ?_
  refine hr_get (v := .int (nI (nb 9))) G fH_117 hw_nbs (by show Value.int _ = Value.int _; rw [← hc9]; simp [hs_opn, se_new, hw_sv, hw_nw]) dH_login_65 ?_
  refine hr_goto (tgt := 73) G dH_login_68 (by decide) ?_
  exact hr_iret G hr hw_QX.of dH_login_73 ⟨rfl, rfl, fun _ _ _ _ _ => rfl, hT⟩
set_option maxRecDepth 100000 in
set_option maxHeartbeats 1000000 in
theorem m_H_enter_a (l : Launch) (hst : l.stackTraces = false) (B : hw_B) (nb : Nat → Nat) (S : hw_St) (z : Nat) (x y v : Int32) (hx : x < 0 ∨ 4 ≤ x) (hI : ic nb S) : hw_MX l yH_enter cH_enter 7 (some .int) ({ frames := 6, cells := 2, slots := 15, locals := 100 }) B [.ref (hw_a B 0 0), .int x, .int y, .int v] nb S z (hw_qp (.inr "java/lang/IllegalArgumentException") nb S) := by
  refine hw_MX.of (by decide) (Nat.le_of_ble_eq_true rfl) ?_
  intro X fr hl hR G hr htab
  obtain ⟨hA, hF, ⟨hn9, hc9⟩, ⟨hn11, hc11⟩, ⟨nm, hnm1, hnm2⟩, hT, hSe, hTi, hU, hW0, hW⟩ := hI
  refine hr_aload_n G dH_enter_0 rfl rfl ?_
  refine hr_iload_n G dH_enter_1 rfl rfl ?_
  refine hr_callVs (k := 0) (i := 0) G rfl rfl (hA.lt (show 0 < hw_n0 0 by decide)) kH_71 iH_findUser vH_findUser (m_H_findUser_n _ _ _ _ _ x hx) rfl rfl (Nat.le_of_ble_eq_true rfl) ⟨by rw [hR]; decide, by rw [hR]; decide⟩ ⟨by rw [hR]; decide, by rw [hR]; decide⟩ dH_enter_2 ?_
  refine hr_astoreN (i := 4) G dH_enter_5 (by decide) ?_
  refine hr_aloadN G dH_enter_7 rfl ?_
  refine hr_ifnullN (tgt := 20) G dH_enter_9 (by decide) ?_
  exact hr_throw (E := "java/lang/IllegalArgumentException") (names := ["java/lang/RuntimeException", "java/lang/Exception"]) (si := 7) G (by rw [hl]; exact hst) htab (by decide) (by decide) qH_51 in_IAE rfl at_IAE go_IAE dH_enter_20 dH_enter_23 dH_enter_24 dH_enter_26 dH_enter_29 (by rw [hR]; decide) (by rw [hR]; decide) (by rw [hR]; decide) (by rw [hR]; decide) (by decide) (by decide) (fun _ _ => ⟨rfl, rfl, eqv.rf hT⟩)
set_option maxRecDepth 100000 in
set_option maxHeartbeats 1000000 in
theorem m_H_enter_b (l : Launch) (hst : l.stackTraces = false) (B : hw_B) (nb : Nat → Nat) (S : hw_St) (z : Nat) (u : Nat) (y v : Int32) (hu : u < 4) (hv : hs_en S v = 0) (hI : ic nb S) : hw_MX l yH_enter cH_enter 7 (some .int) ({ frames := 6, cells := 2, slots := 15, locals := 100 }) B [.ref (hw_a B 0 0), .int (nI u), .int y, .int v] nb S z (hw_qp (.inr "java/lang/IllegalArgumentException") nb S) := by
  refine hw_MX.of (by decide) (Nat.le_of_ble_eq_true rfl) ?_
  intro X fr hl hR G hr htab
  obtain ⟨hA, hF, ⟨hn9, hc9⟩, ⟨hn11, hc11⟩, ⟨nm, hnm1, hnm2⟩, hT, hSe, hTi, hU, hW0, hW⟩ := hI
  refine hr_aload_n G dH_enter_0 rfl rfl ?_
  refine hr_iload_n G dH_enter_1 rfl rfl ?_
  refine hr_callVs (k := 0) (i := 0) G rfl rfl (hA.lt (show 0 < hw_n0 0 by decide)) kH_71 iH_findUser vH_findUser (m_H_findUser_y _ _ _ _ _ hA hF u hu) rfl rfl (Nat.le_of_ble_eq_true rfl) ⟨by rw [hR]; decide, by rw [hR]; decide⟩ ⟨by rw [hR]; decide, by rw [hR]; decide⟩ dH_enter_2 ?_
  refine hr_astore (i := 4) G dH_enter_5 (by decide) ?_
  refine hr_aload G dH_enter_7 rfl ?_
  refine hr_ifnull G dH_enter_9 ?_
  refine hr_aload_n G dH_enter_12 rfl rfl ?_
  refine hr_iload_n G dH_enter_13 rfl rfl ?_
  refine hr_callVs (k := 0) (i := 0) G rfl rfl (hA.lt (show 0 < hw_n0 0 by decide)) kH_120 iH_isEnabled vH_isEnabled (m_H_isEnabled _ _ _ _ _ hA hF v) rfl rfl (Nat.le_of_ble_eq_true rfl) ⟨by rw [hR]; decide, by rw [hR]; decide⟩ ⟨by rw [hR]; decide, by rw [hR]; decide⟩ dH_enter_14 ?_
  refine hr_if_ne (tgt := 30) G dH_enter_17 (by decide) (fun h => absurd hv h) (fun _ => ?_)
  exact hr_throw (E := "java/lang/IllegalArgumentException") (names := ["java/lang/RuntimeException", "java/lang/Exception"]) (si := 7) G (by rw [hl]; exact hst) htab (by decide) (by decide) qH_51 in_IAE rfl at_IAE go_IAE dH_enter_20 dH_enter_23 dH_enter_24 dH_enter_26 dH_enter_29 (by rw [hR]; decide) (by rw [hR]; decide) (by rw [hR]; decide) (by rw [hR]; decide) (by decide) (by decide) (fun _ _ => ⟨rfl, rfl, eqv.rf hT⟩)
set_option maxRecDepth 100000 in
set_option maxHeartbeats 1000000 in
theorem m_H_enter_c (l : Launch) (hst : l.stackTraces = false) (B : hw_B) (nb : Nat → Nat) (S : hw_St) (z : Nat) (u : Nat) (y v : Int32) (hu : u < 4) (hv : ¬ hs_en S v = 0) (h40 : nb 9 = 40) (hI : ic nb S) : hw_MX l yH_enter cH_enter 7 (some .int) ({ frames := 6, cells := 2, slots := 15, locals := 100 }) B [.ref (hw_a B 0 0), .int (nI u), .int y, .int v] nb S z (hw_qp (.inr "java/lang/IllegalStateException") nb S) := by
  refine hw_MX.of (by decide) (Nat.le_of_ble_eq_true rfl) ?_
  intro X fr hl hR G hr htab
  obtain ⟨hA, hF, ⟨hn9, hc9⟩, ⟨hn11, hc11⟩, ⟨nm, hnm1, hnm2⟩, hT, hSe, hTi, hU, hW0, hW⟩ := hI
  refine hr_aload_n G dH_enter_0 rfl rfl ?_
  refine hr_iload_n G dH_enter_1 rfl rfl ?_
  refine hr_callVs (k := 0) (i := 0) G rfl rfl (hA.lt (show 0 < hw_n0 0 by decide)) kH_71 iH_findUser vH_findUser (m_H_findUser_y _ _ _ _ _ hA hF u hu) rfl rfl (Nat.le_of_ble_eq_true rfl) ⟨by rw [hR]; decide, by rw [hR]; decide⟩ ⟨by rw [hR]; decide, by rw [hR]; decide⟩ dH_enter_2 ?_
  refine hr_astore (i := 4) G dH_enter_5 (by decide) ?_
  refine hr_aload G dH_enter_7 rfl ?_
  refine hr_ifnull G dH_enter_9 ?_
  refine hr_aload_n G dH_enter_12 rfl rfl ?_
  refine hr_iload_n G dH_enter_13 rfl rfl ?_
  refine hr_callVs (k := 0) (i := 0) G rfl rfl (hA.lt (show 0 < hw_n0 0 by decide)) kH_120 iH_isEnabled vH_isEnabled (m_H_isEnabled _ _ _ _ _ hA hF v) rfl rfl (Nat.le_of_ble_eq_true rfl) ⟨by rw [hR]; decide, by rw [hR]; decide⟩ ⟨by rw [hR]; decide, by rw [hR]; decide⟩ dH_enter_14 ?_
  refine hr_if_ne (tgt := 30) G dH_enter_17 (by decide) (fun _ => ?_) (fun h => absurd h hv)
  refine hr_aload_n G dH_enter_30 rfl rfl ?_
  refine hr_get (v := .int (S 0 0 8)) G fH_101 (hA.lt (show 0 < hw_n0 0 by decide)) rfl dH_enter_31 ?_
  refine hr_bipush (v := 40) G dH_enter_34 (by decide) ?_
  refine hr_icmp_ge (tgt := 49) G dH_enter_36 (by decide) (fun _ => ?_) (fun h => absurd (show (40 : Int32) ≤ S 0 0 8 by rw [hc9, h40]; decide) h)
  exact hr_throw (E := "java/lang/IllegalStateException") (names := ["java/lang/RuntimeException", "java/lang/Exception"]) (si := 8) G (by rw [hl]; exact hst) htab (by decide) (by decide) qH_62 in_ISE rfl at_ISE go_ISE dH_enter_49 dH_enter_52 dH_enter_53 dH_enter_55 dH_enter_58 (by rw [hR]; decide) (by rw [hR]; decide) (by rw [hR]; decide) (by rw [hR]; decide) (by decide) (by decide) (fun _ _ => ⟨rfl, rfl, eqv.rf hT⟩)
set_option maxRecDepth 100000 in
set_option maxHeartbeats 1000000 in
theorem m_H_enter_d (l : Launch) (hst : l.stackTraces = false) (B : hw_B) (nb : Nat → Nat) (S : hw_St) (z : Nat) (u : Nat) (y v : Int32) (hu : u < 4) (hv : ¬ hs_en S v = 0) (h40 : nb 9 < 40) (h150 : nb 11 = 150) (hI : ic nb S) : hw_MX l yH_enter cH_enter 7 (some .int) ({ frames := 6, cells := 2, slots := 15, locals := 100 }) B [.ref (hw_a B 0 0), .int (nI u), .int y, .int v] nb S z (hw_qp (.inr "java/lang/IllegalStateException") nb S) := by
  refine hw_MX.of (by decide) (Nat.le_of_ble_eq_true rfl) ?_
  intro X fr hl hR G hr htab
  obtain ⟨hA, hF, ⟨hn9, hc9⟩, ⟨hn11, hc11⟩, ⟨nm, hnm1, hnm2⟩, hT, hSe, hTi, hU, hW0, hW⟩ := hI
  refine hr_aload_n G dH_enter_0 rfl rfl ?_
  refine hr_iload_n G dH_enter_1 rfl rfl ?_
  refine hr_callVs (k := 0) (i := 0) G rfl rfl (hA.lt (show 0 < hw_n0 0 by decide)) kH_71 iH_findUser vH_findUser (m_H_findUser_y _ _ _ _ _ hA hF u hu) rfl rfl (Nat.le_of_ble_eq_true rfl) ⟨by rw [hR]; decide, by rw [hR]; decide⟩ ⟨by rw [hR]; decide, by rw [hR]; decide⟩ dH_enter_2 ?_
  refine hr_astore (i := 4) G dH_enter_5 (by decide) ?_
  refine hr_aload G dH_enter_7 rfl ?_
  refine hr_ifnull G dH_enter_9 ?_
  refine hr_aload_n G dH_enter_12 rfl rfl ?_
  refine hr_iload_n G dH_enter_13 rfl rfl ?_
  refine hr_callVs (k := 0) (i := 0) G rfl rfl (hA.lt (show 0 < hw_n0 0 by decide)) kH_120 iH_isEnabled vH_isEnabled (m_H_isEnabled _ _ _ _ _ hA hF v) rfl rfl (Nat.le_of_ble_eq_true rfl) ⟨by rw [hR]; decide, by rw [hR]; decide⟩ ⟨by rw [hR]; decide, by rw [hR]; decide⟩ dH_enter_14 ?_
  refine hr_if_ne (tgt := 30) G dH_enter_17 (by decide) (fun _ => ?_) (fun h => absurd h hv)
  refine hr_aload_n G dH_enter_30 rfl rfl ?_
  refine hr_get (v := .int (S 0 0 8)) G fH_101 (hA.lt (show 0 < hw_n0 0 by decide)) rfl dH_enter_31 ?_
  refine hr_bipush (v := 40) G dH_enter_34 (by decide) ?_
  refine hr_icmp_ge (tgt := 49) G dH_enter_36 (by decide) (fun h => absurd h (show ¬ (40 : Int32) ≤ S 0 0 8 by rw [hc9]; exact nI_ge (b := 40) h40 (by decide))) (fun _ => ?_)
  refine hr_aload_n G dH_enter_39 rfl rfl ?_
  refine hr_get (v := .int (S 0 0 9)) G fH_125 (hA.lt (show 0 < hw_n0 0 by decide)) rfl dH_enter_40 ?_
  refine hr_sipush (v := 150) G dH_enter_43 (by decide) ?_
  refine hr_icmp_lt (tgt := 59) G dH_enter_46 (by decide) (fun h => absurd h (show ¬ S 0 0 9 < 150 by rw [hc11, h150]; decide)) (fun _ => ?_)
  exact hr_throw (E := "java/lang/IllegalStateException") (names := ["java/lang/RuntimeException", "java/lang/Exception"]) (si := 8) G (by rw [hl]; exact hst) htab (by decide) (by decide) qH_62 in_ISE rfl at_ISE go_ISE dH_enter_49 dH_enter_52 dH_enter_53 dH_enter_55 dH_enter_58 (by rw [hR]; decide) (by rw [hR]; decide) (by rw [hR]; decide) (by rw [hR]; decide) (by decide) (by decide) (fun _ _ => ⟨rfl, rfl, eqv.rf hT⟩)
set_option maxRecDepth 100000 in
set_option maxHeartbeats 1000000 in
theorem m_H_enter_e (l : Launch) (hst : l.stackTraces = false) (B : hw_B) (nb : Nat → Nat) (S : hw_St) (z : Nat) (u : Nat) (y v : Int32) (hu : u < 4) (hv : ¬ hs_en S v = 0) (h40 : nb 9 < 40) (h150 : nb 11 < 150) (a : Int32) (S1 : hw_St) (hat : us_att S u y (S 0 0 11) = (a, S1)) (ha : ¬ a = 0) (hI : ic nb S) : hw_MX l yH_enter cH_enter 7 (some .int) ({ frames := 6, cells := 2, slots := 15, locals := 100 }) B [.ref (hw_a B 0 0), .int (nI u), .int y, .int v] nb S z (hw_qp (.inl (some (.int a))) nb S1) := by
  refine hw_MX.of (by decide) (Nat.le_of_ble_eq_true rfl) ?_
  intro X fr hl hR G hr htab
  obtain ⟨hA, hF, ⟨hn9, hc9⟩, ⟨hn11, hc11⟩, ⟨nm, hnm1, hnm2⟩, hT, hSe, hTi, hU, hW0, hW⟩ := hI
  refine hr_aload_n G dH_enter_0 rfl rfl ?_
  refine hr_iload_n G dH_enter_1 rfl rfl ?_
  refine hr_callVs (k := 0) (i := 0) G rfl rfl (hA.lt (show 0 < hw_n0 0 by decide)) kH_71 iH_findUser vH_findUser (m_H_findUser_y _ _ _ _ _ hA hF u hu) rfl rfl (Nat.le_of_ble_eq_true rfl) ⟨by rw [hR]; decide, by rw [hR]; decide⟩ ⟨by rw [hR]; decide, by rw [hR]; decide⟩ dH_enter_2 ?_
  refine hr_astore (i := 4) G dH_enter_5 (by decide) ?_
  refine hr_aload G dH_enter_7 rfl ?_
  refine hr_ifnull G dH_enter_9 ?_
  refine hr_aload_n G dH_enter_12 rfl rfl ?_
  refine hr_iload_n G dH_enter_13 rfl rfl ?_
  refine hr_callVs (k := 0) (i := 0) G rfl rfl (hA.lt (show 0 < hw_n0 0 by decide)) kH_120 iH_isEnabled vH_isEnabled (m_H_isEnabled _ _ _ _ _ hA hF v) rfl rfl (Nat.le_of_ble_eq_true rfl) ⟨by rw [hR]; decide, by rw [hR]; decide⟩ ⟨by rw [hR]; decide, by rw [hR]; decide⟩ dH_enter_14 ?_
  refine hr_if_ne (tgt := 30) G dH_enter_17 (by decide) (fun _ => ?_) (fun h => absurd h hv)
  refine hr_aload_n G dH_enter_30 rfl rfl ?_
  refine hr_get (v := .int (S 0 0 8)) G fH_101 (hA.lt (show 0 < hw_n0 0 by decide)) rfl dH_enter_31 ?_
  refine hr_bipush (v := 40) G dH_enter_34 (by decide) ?_
  refine hr_icmp_ge (tgt := 49) G dH_enter_36 (by decide) (fun h => absurd h (show ¬ (40 : Int32) ≤ S 0 0 8 by rw [hc9]; exact nI_ge (b := 40) h40 (by decide))) (fun _ => ?_)
  refine hr_aload_n G dH_enter_39 rfl rfl ?_
  refine hr_get (v := .int (S 0 0 9)) G fH_125 (hA.lt (show 0 < hw_n0 0 by decide)) rfl dH_enter_40 ?_
  refine hr_sipush (v := 150) G dH_enter_43 (by decide) ?_
  refine hr_icmp_lt (tgt := 59) G dH_enter_46 (by decide) (fun _ => ?_) (fun h => absurd (show S 0 0 9 < 150 by rw [hc11]; exact (nI_ltI (b := 150) (by omega) (by decide)).mpr h150) h)
  refine hr_aload G dH_enter_59 rfl ?_
  refine hr_iload_n G dH_enter_61 rfl rfl ?_
  refine hr_aload_n G dH_enter_62 rfl rfl ?_
  refine hr_get (v := .int (S 0 0 11)) G fH_106 (hA.lt (show 0 < hw_n0 0 by decide)) rfl dH_enter_63 ?_
  refine hr_callVs (k := 2) (i := u) G rfl rfl (hA.lt hu) kH_109 iU_attempt vU_attempt (m_U_att _ _ _ _ _ u hA hu y (S 0 0 11) a S1 hat) rfl rfl (Nat.le_of_ble_eq_true rfl) ⟨by rw [hR]; decide, by rw [hR]; decide⟩ ⟨by rw [hR]; decide, by rw [hR]; decide⟩ dH_enter_66 ?_
  refine hr_istore (i := 5) G dH_enter_69 (by decide) ?_
  refine hr_iload G dH_enter_71 rfl ?_
  refine hr_if_eq (tgt := 79) G dH_enter_73 (by decide) (fun h => absurd h ha) (fun _ => ?_)
  refine hr_iload G dH_enter_76 rfl ?_
  refine hr_wide (c' := 2) (sl' := 15) (Nat.le_of_ble_eq_true rfl) (Nat.le_of_ble_eq_true rfl) ?_
  exact hr_iret G hr hw_QX.of dH_enter_78 ⟨rfl, rfl, eqv.rf (us_att_tx hat hT)⟩
set_option maxRecDepth 100000 in
set_option maxHeartbeats 1000000 in
theorem m_H_enter_f (l : Launch) (hst : l.stackTraces = false) (B : hw_B) (nb : Nat → Nat) (S : hw_St) (z : Nat) (u w : Nat) (y : Int32) (hu : u < 4) (hw : w < 6) (hv : ¬ hs_en S (nI w) = 0) (h40 : nb 9 < 40) (h150 : nb 11 < 150) (hat : us_att S u y (S 0 0 11) = (0, (hw_sv S 2 u 4 0))) (hI : ic nb S) (hz : hw_a B 9 (nb 9) = z) (hz2 : hw_a B 11 (nb 11) = z + 1) : hw_MX l yH_enter cH_enter 7 (some .int) ({ frames := 6, cells := 2, slots := 15, locals := 100 }) B [.ref (hw_a B 0 0), .int (nI u), .int y, .int (nI w)] nb S z (hw_qp (.inl (some (.int (nI (nb 11))))) (hw_nb (hw_nb nb 9) 11) (hw_sv (hs_giv (hs_opn (hw_sv S 2 u 4 0) (nb 9) u 0) (nb 11) 0 (nb 9) (nI w) (-1) (if (0 : Int32) = 2 then 0 + 1 else 0)) 11 (nb 11) 7 1)) := by
  refine hw_MX.of (by decide) (Nat.le_of_ble_eq_true rfl) ?_
  intro X fr hl hR G hr htab
  obtain ⟨hA, hF, ⟨hn9, hc9⟩, ⟨hn11, hc11⟩, ⟨nm, hnm1, hnm2⟩, hT, hSe, hTi, hU, hW0, hW⟩ := hI
  have hfo : hw_Fx (hs_opn (hw_sv S 2 u 4 0) (nb 9) u 0) := ((se_new_fx ((hF.sv (k := 2) (j := 4) rfl).nw (k := 9) rfl)).sv rfl).sv rfl
  refine hr_aload_n G dH_enter_0 rfl rfl ?_
  refine hr_iload_n G dH_enter_1 rfl rfl ?_
  refine hr_callVs (k := 0) (i := 0) G rfl rfl (hA.lt (show 0 < hw_n0 0 by decide)) kH_71 iH_findUser vH_findUser (m_H_findUser_y _ _ _ _ _ hA hF u hu) rfl rfl (Nat.le_of_ble_eq_true rfl) ⟨by rw [hR]; decide, by rw [hR]; decide⟩ ⟨by rw [hR]; decide, by rw [hR]; decide⟩ dH_enter_2 ?_
  refine hr_astore (i := 4) G dH_enter_5 (by decide) ?_
  refine hr_aload G dH_enter_7 rfl ?_
  refine hr_ifnull G dH_enter_9 ?_
  refine hr_aload_n G dH_enter_12 rfl rfl ?_
  refine hr_iload_n G dH_enter_13 rfl rfl ?_
  refine hr_callVs (k := 0) (i := 0) G rfl rfl (hA.lt (show 0 < hw_n0 0 by decide)) kH_120 iH_isEnabled vH_isEnabled (m_H_isEnabled _ _ _ _ _ hA hF (nI w)) rfl rfl (Nat.le_of_ble_eq_true rfl) ⟨by rw [hR]; decide, by rw [hR]; decide⟩ ⟨by rw [hR]; decide, by rw [hR]; decide⟩ dH_enter_14 ?_
  refine hr_if_ne (tgt := 30) G dH_enter_17 (by decide) (fun _ => ?_) (fun h => absurd h hv)
  refine hr_aload_n G dH_enter_30 rfl rfl ?_
  refine hr_get (v := .int (S 0 0 8)) G fH_101 (hA.lt (show 0 < hw_n0 0 by decide)) rfl dH_enter_31 ?_
  refine hr_bipush (v := 40) G dH_enter_34 (by decide) ?_
  refine hr_icmp_ge (tgt := 49) G dH_enter_36 (by decide) (fun h => absurd h (show ¬ (40 : Int32) ≤ S 0 0 8 by rw [hc9]; exact nI_ge (b := 40) h40 (by decide))) (fun _ => ?_)
  refine hr_aload_n G dH_enter_39 rfl rfl ?_
  refine hr_get (v := .int (S 0 0 9)) G fH_125 (hA.lt (show 0 < hw_n0 0 by decide)) rfl dH_enter_40 ?_
  refine hr_sipush (v := 150) G dH_enter_43 (by decide) ?_
  refine hr_icmp_lt (tgt := 59) G dH_enter_46 (by decide) (fun _ => ?_) (fun h => absurd (show S 0 0 9 < 150 by rw [hc11]; exact (nI_ltI (b := 150) (by omega) (by decide)).mpr h150) h)
  refine hr_aload G dH_enter_59 rfl ?_
  refine hr_iload_n G dH_enter_61 rfl rfl ?_
  refine hr_aload_n G dH_enter_62 rfl rfl ?_
  refine hr_get (v := .int (S 0 0 11)) G fH_106 (hA.lt (show 0 < hw_n0 0 by decide)) rfl dH_enter_63 ?_
  refine hr_callVs (k := 2) (i := u) G rfl rfl (hA.lt hu) kH_109 iU_attempt vU_attempt (m_U_att _ _ _ _ _ u hA hu y (S 0 0 11) 0 (hw_sv S 2 u 4 0) hat) rfl rfl (Nat.le_of_ble_eq_true rfl) ⟨by rw [hR]; decide, by rw [hR]; decide⟩ ⟨by rw [hR]; decide, by rw [hR]; decide⟩ dH_enter_66 ?_
  refine hr_istore (i := 5) G dH_enter_69 (by decide) ?_
  refine hr_iload G dH_enter_71 rfl ?_
  refine hr_if_eq (tgt := 79) G dH_enter_73 (by decide) (fun _ => ?_) (fun h => absurd (by decide) h)
  refine hr_aload_n G dH_enter_79 rfl rfl ?_
  refine hr_iconst (v := 0) G dH_enter_80 (by decide) ?_
  refine hr_aload_n G dH_enter_81 rfl rfl ?_
  refine hr_aload G dH_enter_82 rfl ?_
  refine hr_iconst (v := 0) G dH_enter_84 (by decide) ?_
  refine hr_callVs (k := 0) (i := 0) G rfl rfl (hA.lt (show 0 < hw_n0 0 by decide)) kH_113 iH_openSession vH_openSession (m_H_openSession _ _ _ _ _ hA (hF.sv rfl) u hu 0 (Or.inl rfl) hc9 h40 hz) rfl rfl (Nat.le_of_ble_eq_true rfl) ⟨by rw [hR]; decide, by rw [hR]; decide⟩ ⟨by rw [hR]; decide, by rw [hR]; decide⟩ dH_enter_85 ?_
  refine hr_iload_n G dH_enter_88 rfl rfl ?_
  refine hr_null G dH_enter_89 ?_
  refine hr_callVs (k := 0) (i := 0) G rfl rfl ((hA.nb (k := 9) rfl).lt (show 0 < hw_n0 0 by decide)) kH_130 iH_giveTicket vH_giveTicket (m_H_giveTicket_n _ _ _ (hs_opn (hw_sv S 2 u 4 0) (nb 9) u 0) _ (hA.nb (k := 9) rfl) hfo 0 (nb 9) hw_nbs (by omega) (nI w) hc11 h150 hz2) rfl rfl (Nat.le_of_ble_eq_true rfl) ⟨by rw [hR]; decide, by rw [hR]; decide⟩ ⟨by rw [hR]; decide, by rw [hR]; decide⟩ dH_enter_90 ?_
  refine hr_astore (i := 6) G dH_enter_93 (by decide) ?_
  refine hr_aload G dH_enter_95 rfl ?_
  refine hr_iconst (v := 1) G dH_enter_97 (by decide) ?_
  refine hr_put (x := 1) G fH_134 hw_nbs rfl (rfl) rfl dH_enter_98 ?_
  refine hr_aload G dH_enter_101 rfl ?_
  refine hr_get (v := .int (nI (nb 11))) G fH_138 hw_nbs (by show Value.int _ = Value.int _; rw [← hc11]; simp [hs_giv, tk_new, hs_opn, se_new, hw_sv, hw_nw, hw_nb]) dH_enter_103 ?_
  exact hr_iret G hr hw_QX.of dH_enter_106 ⟨rfl, rfl, fun _ _ _ _ _ => rfl, hT⟩
