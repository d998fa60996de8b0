/-! The reference: calls. -/
set_option maxRecDepth 100000 in
set_option maxHeartbeats 1000000 in
theorem m_M_letter_a (l : Launch) (B : hw_B) (nb : Nat → Nat) (S : hw_St) (z : Nat) (hA : hw_al nb) (hF : hw_Fx S) (x : Int32) (hx : (x < 32 ∨ ¬ x ≤ 126)) : hw_M l yM_letter cM_letter 2 (some .int) ({ frames := 1, cells := 0, slots := 0, locals := 22 }) B [.ref (hw_a B 20 0), .int x] nb S z (hw_p (.inl (some (.int (S 20 0 3)))) nb (hw_sv S 20 0 0 1) z) := by
  refine hw_M.of (by decide) (Nat.le_of_ble_eq_true rfl) ?_
  intro X fr hl hR G hr hnm
  refine hr_aload_n G dM_letter_0 rfl rfl ?_
  refine hr_iload_n G dM_letter_1 rfl rfl ?_
  refine hr_bipush (v := 32) G dM_letter_2 (by decide) ?_
  refine hr_bipush (v := 126) G dM_letter_4 (by decide) ?_
  refine hr_callSs G kM_90 sM_within (m_within_n _ _ _ _ _ x 32 126 hx) rfl rfl (Nat.le_of_ble_eq_true rfl) ⟨by rw [hR]; decide, by rw [hR]; decide⟩ ⟨by rw [hR]; decide, by rw [hR]; decide⟩ dM_letter_6 ?_
  refine hr_if_ne (tgt := 16) G dM_letter_9 (by decide) (fun h => absurd (by decide) h) (fun _ => ?_)
  refine hr_iconst (v := 1) G dM_letter_12 (by decide) ?_
  refine hr_goto (tgt := 30) G dM_letter_13 (by decide) ?_
  refine hr_put (x := 1) G fM_87 (hA.lt (show 0 < hw_n0 20 by decide)) rfl (rfl) rfl dM_letter_30 ?_
  refine hr_aload_n G dM_letter_33 rfl rfl ?_
  refine hr_get (v := .int 1) G fM_87 (hA.lt (show 0 < hw_n0 20 by decide)) rfl dM_letter_34 ?_
  refine hr_if_ne (tgt := 60) G dM_letter_37 (by decide) (fun _ => ?_) (fun h => absurd h (by decide))
  refine hr_aload_n G dM_letter_60 rfl rfl ?_
  refine hr_get (v := .int (S 20 0 3)) G fM_94 (hA.lt (show 0 < hw_n0 20 by decide)) rfl dM_letter_61 ?_
  exact hr_iret G hr (fun _ h => h) dM_letter_64 hw_pi
set_option maxRecDepth 100000 in
set_option maxHeartbeats 1000000 in
theorem m_M_letter_b (l : Launch) (B : hw_B) (nb : Nat → Nat) (S : hw_St) (z : Nat) (hA : hw_al nb) (hF : hw_Fx S) (x : Int32) (hx1 : ¬ x < 32) (hx2 : x ≤ 126) (h8 : S 20 0 3 = 8) : hw_M l yM_letter cM_letter 2 (some .int) ({ frames := 1, cells := 0, slots := 0, locals := 22 }) B [.ref (hw_a B 20 0), .int x] nb S z (hw_p (.inl (some (.int (S 20 0 3)))) nb (hw_sv S 20 0 0 2) z) := by
  refine hw_M.of (by decide) (Nat.le_of_ble_eq_true rfl) ?_
  intro X fr hl hR G hr hnm
  refine hr_aload_n G dM_letter_0 rfl rfl ?_
  refine hr_iload_n G dM_letter_1 rfl rfl ?_
  refine hr_bipush (v := 32) G dM_letter_2 (by decide) ?_
  refine hr_bipush (v := 126) G dM_letter_4 (by decide) ?_
  refine hr_callSs G kM_90 sM_within (m_within_y _ _ _ _ _ x 32 126 hx1 hx2) rfl rfl (Nat.le_of_ble_eq_true rfl) ⟨by rw [hR]; decide, by rw [hR]; decide⟩ ⟨by rw [hR]; decide, by rw [hR]; decide⟩ dM_letter_6 ?_
  refine hr_if_ne (tgt := 16) G dM_letter_9 (by decide) (fun _ => ?_) (fun h => absurd h (by decide))
  refine hr_aload_n G dM_letter_16 rfl rfl ?_
  refine hr_get (v := .int (S 20 0 3)) G fM_94 (hA.lt (show 0 < hw_n0 20 by decide)) rfl dM_letter_17 ?_
  refine hr_bipush (v := 8) G dM_letter_20 (by decide) ?_
  refine hr_icmp_ne (tgt := 29) G dM_letter_22 (by decide) (fun h => absurd h8 h) (fun _ => ?_)
  refine hr_iconst (v := 2) G dM_letter_25 (by decide) ?_
  refine hr_goto (tgt := 30) G dM_letter_26 (by decide) ?_
  refine hr_put (x := 2) G fM_87 (hA.lt (show 0 < hw_n0 20 by decide)) rfl (rfl) rfl dM_letter_30 ?_
  refine hr_aload_n G dM_letter_33 rfl rfl ?_
  refine hr_get (v := .int 2) G fM_87 (hA.lt (show 0 < hw_n0 20 by decide)) rfl dM_letter_34 ?_
  refine hr_if_ne (tgt := 60) G dM_letter_37 (by decide) (fun _ => ?_) (fun h => absurd h (by decide))
  refine hr_aload_n G dM_letter_60 rfl rfl ?_
  refine hr_get (v := .int (S 20 0 3)) G fM_94 (hA.lt (show 0 < hw_n0 20 by decide)) rfl dM_letter_61 ?_
  exact hr_iret G hr (fun _ h => h) dM_letter_64 hw_pi
set_option maxRecDepth 100000 in
set_option maxHeartbeats 1000000 in
theorem m_M_letter_c (l : Launch) (B : hw_B) (nb : Nat → Nat) (S : hw_St) (z : Nat) (hA : hw_al nb) (hF : hw_Fx S) (x : Int32) (hx1 : ¬ x < 32) (hx2 : x ≤ 126) (n : Nat) (hn : n < 8) (hd : S 20 0 3 = nI n) : hw_M l yM_letter cM_letter 2 (some .int) ({ frames := 1, cells := 0, slots := 0, locals := 22 }) B [.ref (hw_a B 20 0), .int x] nb S z (hw_p (.inl (some (.int (S 20 0 3 + 1)))) nb (hw_sv (hw_sv (hw_sv S 20 0 0 0) 21 0 n x) 20 0 3 (S 20 0 3 + 1)) z) := by
  refine hw_M.of (by decide) (Nat.le_of_ble_eq_true rfl) ?_
  intro X fr hl hR G hr hnm
  refine hr_aload_n G dM_letter_0 rfl rfl ?_
  refine hr_iload_n G dM_letter_1 rfl rfl ?_
  refine hr_bipush (v := 32) G dM_letter_2 (by decide) ?_
  refine hr_bipush (v := 126) G dM_letter_4 (by decide) ?_
  refine hr_callSs G kM_90 sM_within (m_within_y _ _ _ _ _ x 32 126 hx1 hx2) rfl rfl (Nat.le_of_ble_eq_true rfl) ⟨by rw [hR]; decide, by rw [hR]; decide⟩ ⟨by rw [hR]; decide, by rw [hR]; decide⟩ dM_letter_6 ?_
  refine hr_if_ne (tgt := 16) G dM_letter_9 (by decide) (fun _ => ?_) (fun h => absurd h (by decide))
  refine hr_aload_n G dM_letter_16 rfl rfl ?_
  refine hr_get (v := .int (S 20 0 3)) G fM_94 (hA.lt (show 0 < hw_n0 20 by decide)) rfl dM_letter_17 ?_
  refine hr_bipush (v := 8) G dM_letter_20 (by decide) ?_
  refine hr_icmp_ne (tgt := 29) G dM_letter_22 (by decide) (fun _ => ?_) (fun h => absurd h (show ¬ S 20 0 3 = 8 by rw [hd]; exact fun q => absurd ((nI_eq (b := 8) (by omega) (by decide)).mp q) (by omega)))
  refine hr_iconst (v := 0) G dM_letter_29 (by decide) ?_
  refine hr_put (x := 0) G fM_87 (hA.lt (show 0 < hw_n0 20 by decide)) rfl (rfl) rfl dM_letter_30 ?_
  refine hr_aload_n G dM_letter_33 rfl rfl ?_
  refine hr_get (v := .int 0) G fM_87 (hA.lt (show 0 < hw_n0 20 by decide)) rfl dM_letter_34 ?_
  refine hr_if_ne (tgt := 60) G dM_letter_37 (by decide) (fun h => absurd (by decide) h) (fun _ => ?_)
  refine hr_aload_n G dM_letter_40 rfl rfl ?_
  refine hr_get (v := .ref (hw_a B 21 0)) G fM_7 (hA.lt (show 0 < hw_n0 20 by decide)) (hw_rfx (hF.sv rfl) (by decide) rfl (by decide)) dM_letter_41 ?_
  refine hr_aload_n G dM_letter_44 rfl rfl ?_
  refine hr_get (v := .int (S 20 0 3)) G fM_94 (hA.lt (show 0 < hw_n0 20 by decide)) rfl dM_letter_45 ?_
  refine hr_iload_n G dM_letter_48 rfl rfl ?_
  refine hr_iast (n := n) (y := x) G rfl (by decide) rfl (hA.lt (show 0 < hw_n0 21 by decide)) hd (show n < 8 from hn) rfl dM_letter_49 ?_
  refine hr_aload_n G dM_letter_50 rfl rfl ?_
  refine hr_dup G dM_letter_51 rfl ?_
  refine hr_get (v := .int (S 20 0 3)) G fM_94 (hA.lt (show 0 < hw_n0 20 by decide)) rfl dM_letter_52 ?_
  refine hr_iconst (v := 1) G dM_letter_55 (by decide) ?_
  refine hr_iadd G dM_letter_56 ?_
  refine hr_put (x := ((S 20 0 3) + 1)) G fM_94 (hA.lt (show 0 < hw_n0 20 by decide)) rfl (rfl) rfl dM_letter_57 ?_
  refine hr_aload_n G dM_letter_60 rfl rfl ?_
  refine hr_get (v := .int ((S 20 0 3) + 1)) G fM_94 (hA.lt (show 0 < hw_n0 20 by decide)) rfl dM_letter_61 ?_
  exact hr_iret G hr (fun _ h => h) dM_letter_64 hw_pi
set_option maxRecDepth 100000 in
set_option maxHeartbeats 1000000 in
theorem m_M_password_a (l : Launch) (B : hw_B) (nb : Nat → Nat) (S : hw_St) (z : Nat) (hA : hw_al nb) (hF : hw_Fx S) (x y : Int32) (hx : (x < 0 ∨ ¬ x ≤ 3)) : hw_M l yM_password cM_password 3 (some .boolean) ({ frames := 1, cells := 0, slots := 0, locals := 22 }) B [.ref (hw_a B 20 0), .int x, .int y] nb S z (hw_p (.inl (some (.int 0))) nb (hw_sv S 20 0 0 1) z) := by
  refine hw_M.of (by decide) (Nat.le_of_ble_eq_true rfl) ?_
  intro X fr hl hR G hr hnm
  refine hr_aload_n G dM_password_0 rfl rfl ?_
  refine hr_iload_n G dM_password_1 rfl rfl ?_
  refine hr_iconst (v := 0) G dM_password_2 (by decide) ?_
  refine hr_iconst (v := 3) G dM_password_3 (by decide) ?_
  refine hr_callSs G kM_90 sM_within (m_within_n _ _ _ _ _ x 0 3 hx) rfl rfl (Nat.le_of_ble_eq_true rfl) ⟨by rw [hR]; decide, by rw [hR]; decide⟩ ⟨by rw [hR]; decide, by rw [hR]; decide⟩ dM_password_4 ?_
  refine hr_if_eq (tgt := 14) G dM_password_7 (by decide) (fun _ => ?_) (fun h => absurd (by decide) h)
  refine hr_iconst (v := 1) G dM_password_14 (by decide) ?_
  refine hr_put (x := 1) G fM_87 (hA.lt (show 0 < hw_n0 20 by decide)) rfl (rfl) rfl dM_password_15 ?_
  refine hr_aload_n G dM_password_18 rfl rfl ?_
  refine hr_get (v := .int 1) G fM_87 (hA.lt (show 0 < hw_n0 20 by decide)) rfl dM_password_19 ?_
  refine hr_if_le (tgt := 27) G dM_password_22 (by decide) (fun h => absurd h (by decide)) (fun _ => ?_)
  refine hr_iconst (v := 0) G dM_password_25 (by decide) ?_
  exact hr_zret G hr (rfl) (fun _ h => h) dM_password_26 hw_pi
set_option maxRecDepth 100000 in
set_option maxHeartbeats 1000000 in
theorem m_M_password_c (l : Launch) (B : hw_B) (nb : Nat → Nat) (S : hw_St) (z : Nat) (hA : hw_al nb) (hF : hw_Fx S) (u : Nat) (hu : u < 4) (y : Int32) : hw_M l yM_password cM_password 3 (some .boolean) ({ frames := 1, cells := 0, slots := 0, locals := 22 }) B [.ref (hw_a B 20 0), .int (nI u), .int y] nb S z (hw_p (.inl (some (.int 1))) nb (hw_sv (hw_sv (hw_sv (hw_sv S 20 0 0 0) 24 0 u 1) 25 0 u y) 26 0 u 0) z) := by
  refine hw_M.of (by decide) (Nat.le_of_ble_eq_true rfl) ?_
  intro X fr hl hR G hr hnm
  refine hr_aload_n G dM_password_0 rfl rfl ?_
  refine hr_iload_n G dM_password_1 rfl rfl ?_
  refine hr_iconst (v := 0) G dM_password_2 (by decide) ?_
  refine hr_iconst (v := 3) G dM_password_3 (by decide) ?_
  refine hr_callSs G kM_90 sM_within (m_within_y _ _ _ _ _ (nI u) 0 3 (nI_pos (by omega)) (show nI u ≤ 3 from nI_le (b := 3) (by omega) (by decide))) rfl rfl (Nat.le_of_ble_eq_true rfl) ⟨by rw [hR]; decide, by rw [hR]; decide⟩ ⟨by rw [hR]; decide, by rw [hR]; decide⟩ dM_password_4 ?_
  refine hr_if_eq (tgt := 14) G dM_password_7 (by decide) (fun h => absurd h (by decide)) (fun _ => ?_)
  refine hr_iconst (v := 0) G dM_password_10 (by decide) ?_
  refine hr_goto (tgt := 15) G dM_password_11 (by decide) ?_
  refine hr_put (x := 0) G fM_87 (hA.lt (show 0 < hw_n0 20 by decide)) rfl (rfl) rfl dM_password_15 ?_
  refine hr_aload_n G dM_password_18 rfl rfl ?_
  refine hr_get (v := .int 0) G fM_87 (hA.lt (show 0 < hw_n0 20 by decide)) rfl dM_password_19 ?_
  refine hr_if_le (tgt := 27) G dM_password_22 (by decide) (fun _ => ?_) (fun h => absurd (by decide) h)
  refine hr_aload_n G dM_password_27 rfl rfl ?_
  refine hr_get (v := .ref (hw_a B 24 0)) G fM_19 (hA.lt (show 0 < hw_n0 20 by decide)) (hw_rfx (hF.sv rfl) (by decide) rfl (by decide)) dM_password_28 ?_
  refine hr_iload_n G dM_password_31 rfl rfl ?_
  refine hr_iconst (v := 1) G dM_password_32 (by decide) ?_
  refine hr_zast (n := u) (y := 1) G rfl (by decide) rfl (hA.lt (show 0 < hw_n0 24 by decide)) rfl (show u < 4 from hu) rfl (rfl) dM_password_33 ?_
  refine hr_aload_n G dM_password_34 rfl rfl ?_
  refine hr_get (v := .ref (hw_a B 25 0)) G fM_23 (hA.lt (show 0 < hw_n0 20 by decide)) (hw_rfx ((hF.sv rfl).sv rfl) (by decide) rfl (by decide)) dM_password_35 ?_
  refine hr_iload_n G dM_password_38 rfl rfl ?_
  refine hr_iload_n G dM_password_39 rfl rfl ?_
  refine hr_iast (n := u) (y := y) G rfl (by decide) rfl (hA.lt (show 0 < hw_n0 25 by decide)) rfl (show u < 4 from hu) rfl dM_password_40 ?_
  refine hr_aload_n G dM_password_41 rfl rfl ?_
  refine hr_get (v := .ref (hw_a B 26 0)) G fM_26 (hA.lt (show 0 < hw_n0 20 by decide)) (hw_rfx (((hF.sv rfl).sv rfl).sv rfl) (by decide) rfl (by decide)) dM_password_42 ?_
  refine hr_iload_n G dM_password_45 rfl rfl ?_
  refine hr_iconst (v := 0) G dM_password_46 (by decide) ?_
  refine hr_iast (n := u) (y := 0) G rfl (by decide) rfl (hA.lt (show 0 < hw_n0 26 by decide)) rfl (show u < 4 from hu) rfl dM_password_47 ?_
  refine hr_iconst (v := 1) G dM_password_48 (by decide) ?_
  exact hr_zret G hr (rfl) (fun _ h => h) dM_password_49 hw_pi
set_option maxRecDepth 100000 in
set_option maxHeartbeats 1000000 in
theorem m_M_service_a (l : Launch) (B : hw_B) (nb : Nat → Nat) (S : hw_St) (z : Nat) (hA : hw_al nb) (hF : hw_Fx S) (x y : Int32) (hx : (x < 0 ∨ ¬ x ≤ 5)) : hw_M l yM_service cM_service 4 (some .int) ({ frames := 1, cells := 0, slots := 0, locals := 22 }) B [.ref (hw_a B 20 0), .int x, .int y] nb S z (hw_p (.inl (some (.int 0))) nb (hw_sv S 20 0 0 1) z) := by
  refine hw_M.of (by decide) (Nat.le_of_ble_eq_true rfl) ?_
  intro X fr hl hR G hr hnm
  refine hr_aload_n G dM_service_0 rfl rfl ?_
  refine hr_iload_n G dM_service_1 rfl rfl ?_
  refine hr_iconst (v := 0) G dM_service_2 (by decide) ?_
  refine hr_iconst (v := 5) G dM_service_3 (by decide) ?_
  refine hr_callSs G kM_90 sM_within (m_within_n _ _ _ _ _ x 0 5 hx) rfl rfl (Nat.le_of_ble_eq_true rfl) ⟨by rw [hR]; decide, by rw [hR]; decide⟩ ⟨by rw [hR]; decide, by rw [hR]; decide⟩ dM_service_4 ?_
  refine hr_if_eq (tgt := 24) G dM_service_7 (by decide) (fun _ => ?_) (fun h => absurd (by decide) h)
  refine hr_iconst (v := 1) G dM_service_24 (by decide) ?_
  refine hr_put (x := 1) G fM_87 (hA.lt (show 0 < hw_n0 20 by decide)) rfl (rfl) rfl dM_service_25 ?_
  refine hr_aload_n G dM_service_28 rfl rfl ?_
  refine hr_get (v := .int 1) G fM_87 (hA.lt (show 0 < hw_n0 20 by decide)) rfl dM_service_29 ?_
  refine hr_if_le (tgt := 37) G dM_service_32 (by decide) (fun h => absurd h (by decide)) (fun _ => ?_)
  refine hr_iconst (v := 0) G dM_service_35 (by decide) ?_
  exact hr_iret G hr (fun _ h => h) dM_service_36 hw_pi
set_option maxRecDepth 100000 in
set_option maxHeartbeats 1000000 in
theorem m_M_service_b (l : Launch) (B : hw_B) (nb : Nat → Nat) (S : hw_St) (z : Nat) (hA : hw_al nb) (hF : hw_Fx S) (w : Nat) (hw : w < 6) (y : Int32) (hy : (y < 0 ∨ ¬ y ≤ 63)) : hw_M l yM_service cM_service 4 (some .int) ({ frames := 1, cells := 0, slots := 0, locals := 22 }) B [.ref (hw_a B 20 0), .int (nI w), .int y] nb S z (hw_p (.inl (some (.int 0))) nb (hw_sv S 20 0 0 1) z) := by
  refine hw_M.of (by decide) (Nat.le_of_ble_eq_true rfl) ?_
  intro X fr hl hR G hr hnm
  refine hr_aload_n G dM_service_0 rfl rfl ?_
  refine hr_iload_n G dM_service_1 rfl rfl ?_
  refine hr_iconst (v := 0) G dM_service_2 (by decide) ?_
  refine hr_iconst (v := 5) G dM_service_3 (by decide) ?_
  refine hr_callSs G kM_90 sM_within (m_within_y _ _ _ _ _ (nI w) 0 5 (nI_pos (by omega)) (show nI w ≤ 5 from nI_le (b := 5) (by omega) (by decide))) rfl rfl (Nat.le_of_ble_eq_true rfl) ⟨by rw [hR]; decide, by rw [hR]; decide⟩ ⟨by rw [hR]; decide, by rw [hR]; decide⟩ dM_service_4 ?_
  refine hr_if_eq (tgt := 24) G dM_service_7 (by decide) (fun h => absurd h (by decide)) (fun _ => ?_)
  refine hr_iload_n G dM_service_10 rfl rfl ?_
  refine hr_iconst (v := 0) G dM_service_11 (by decide) ?_
  refine hr_bipush (v := 63) G dM_service_12 (by decide) ?_
  refine hr_callSs G kM_90 sM_within (m_within_n _ _ _ _ _ y 0 63 hy) rfl rfl (Nat.le_of_ble_eq_true rfl) ⟨by rw [hR]; decide, by rw [hR]; decide⟩ ⟨by rw [hR]; decide, by rw [hR]; decide⟩ dM_service_14 ?_
  refine hr_if_eq (tgt := 24) G dM_service_17 (by decide) (fun _ => ?_) (fun h => absurd (by decide) h)
  refine hr_iconst (v := 1) G dM_service_24 (by decide) ?_
  refine hr_put (x := 1) G fM_87 (hA.lt (show 0 < hw_n0 20 by decide)) rfl (rfl) rfl dM_service_25 ?_
  refine hr_aload_n G dM_service_28 rfl rfl ?_
  refine hr_get (v := .int 1) G fM_87 (hA.lt (show 0 < hw_n0 20 by decide)) rfl dM_service_29 ?_
  refine hr_if_le (tgt := 37) G dM_service_32 (by decide) (fun h => absurd h (by decide)) (fun _ => ?_)
  refine hr_iconst (v := 0) G dM_service_35 (by decide) ?_
  exact hr_iret G hr (fun _ h => h) dM_service_36 hw_pi
set_option maxRecDepth 100000 in
set_option maxHeartbeats 1000000 in
theorem m_M_service_c (l : Launch) (B : hw_B) (nb : Nat → Nat) (S : hw_St) (z : Nat) (hA : hw_al nb) (hF : hw_Fx S) (w : Nat) (hw : w < 6) (y : Int32) (hy1 : ¬ y < 0) (hy2 : y ≤ 63) : hw_M l yM_service cM_service 4 (some .int) ({ frames := 1, cells := 0, slots := 0, locals := 22 }) B [.ref (hw_a B 20 0), .int (nI w), .int y] nb S z (hw_p (.inl (some (.int (S 28 0 w)))) nb (hw_sv (hw_sv S 20 0 0 0) 28 0 w y) z) := by
  refine hw_M.of (by decide) (Nat.le_of_ble_eq_true rfl) ?_
  intro X fr hl hR G hr hnm
  refine hr_aload_n G dM_service_0 rfl rfl ?_
  refine hr_iload_n G dM_service_1 rfl rfl ?_
  refine hr_iconst (v := 0) G dM_service_2 (by decide) ?_
  refine hr_iconst (v := 5) G dM_service_3 (by decide) ?_
  refine hr_callSs G kM_90 sM_within (m_within_y _ _ _ _ _ (nI w) 0 5 (nI_pos (by omega)) (show nI w ≤ 5 from nI_le (b := 5) (by omega) (by decide))) rfl rfl (Nat.le_of_ble_eq_true rfl) ⟨by rw [hR]; decide, by rw [hR]; decide⟩ ⟨by rw [hR]; decide, by rw [hR]; decide⟩ dM_service_4 ?_
  refine hr_if_eq (tgt := 24) G dM_service_7 (by decide) (fun h => absurd h (by decide)) (fun _ => ?_)
  refine hr_iload_n G dM_service_10 rfl rfl ?_
  refine hr_iconst (v := 0) G dM_service_11 (by decide) ?_
  refine hr_bipush (v := 63) G dM_service_12 (by decide) ?_
  refine hr_callSs G kM_90 sM_within (m_within_y _ _ _ _ _ y 0 63 hy1 hy2) rfl rfl (Nat.le_of_ble_eq_true rfl) ⟨by rw [hR]; decide, by rw [hR]; decide⟩ ⟨by rw [hR]; decide, by rw [hR]; decide⟩ dM_service_14 ?_
  refine hr_if_eq (tgt := 24) G dM_service_17 (by decide) (fun h => absurd h (by decide)) (fun _ => ?_)
  refine hr_iconst (v := 0) G dM_service_20 (by decide) ?_
  refine hr_goto (tgt := 25) G dM_service_21 (by decide) ?_
  refine hr_put (x := 0) G fM_87 (hA.lt (show 0 < hw_n0 20 by decide)) rfl (rfl) rfl dM_service_25 ?_
  refine hr_aload_n G dM_service_28 rfl rfl ?_
  refine hr_get (v := .int 0) G fM_87 (hA.lt (show 0 < hw_n0 20 by decide)) rfl dM_service_29 ?_
  refine hr_if_le (tgt := 37) G dM_service_32 (by decide) (fun _ => ?_) (fun h => absurd (by decide) h)
  refine hr_aload_n G dM_service_37 rfl rfl ?_
  refine hr_get (v := .ref (hw_a B 28 0)) G fM_32 (hA.lt (show 0 < hw_n0 20 by decide)) (hw_rfx (hF.sv rfl) (by decide) rfl (by decide)) dM_service_38 ?_
  refine hr_iload_n G dM_service_41 rfl rfl ?_
  refine hr_iald (n := w) (v := .int (S 28 0 w)) G rfl (by decide) rfl (hA.lt (show 0 < hw_n0 28 by decide)) rfl (show w < 6 from hw) rfl dM_service_42 ?_
  refine hr_istore_n (i := 3) G dM_service_43 rfl (by decide) ?_
  refine hr_aload_n G dM_service_44 rfl rfl ?_
  refine hr_get (v := .ref (hw_a B 28 0)) G fM_32 (hA.lt (show 0 < hw_n0 20 by decide)) (hw_rfx (hF.sv rfl) (by decide) rfl (by decide)) dM_service_45 ?_
  refine hr_iload_n G dM_service_48 rfl rfl ?_
  refine hr_iload_n G dM_service_49 rfl rfl ?_
  refine hr_iast (n := w) (y := y) G rfl (by decide) rfl (hA.lt (show 0 < hw_n0 28 by decide)) rfl (show w < 6 from hw) rfl dM_service_50 ?_
  refine hr_iload_n G dM_service_51 rfl rfl ?_
  exact hr_iret G hr (fun _ h => h) dM_service_52 hw_pi
set_option maxRecDepth 100000 in
set_option maxHeartbeats 1000000 in
theorem m_M_callback_a (l : Launch) (B : hw_B) (nb : Nat → Nat) (S : hw_St) (z : Nat) (hA : hw_al nb) (hF : hw_Fx S) (x y : Int32) (hx : (x < 1 ∨ ¬ x ≤ 5)) : hw_M l yM_callback cM_callback 4 (some .boolean) ({ frames := 1, cells := 0, slots := 0, locals := 22 }) B [.ref (hw_a B 20 0), .int x, .int y] nb S z (hw_p (.inl (some (.int 0))) nb (hw_sv S 20 0 0 1) z) := by
  refine hw_M.of (by decide) (Nat.le_of_ble_eq_true rfl) ?_
  intro X fr hl hR G hr hnm
  refine hr_aload_n G dM_callback_0 rfl rfl ?_
  refine hr_iload_n G dM_callback_1 rfl rfl ?_
  refine hr_iconst (v := 1) G dM_callback_2 (by decide) ?_
  refine hr_iconst (v := 5) G dM_callback_3 (by decide) ?_
  refine hr_callSs G kM_90 sM_within (m_within_n _ _ _ _ _ x 1 5 hx) rfl rfl (Nat.le_of_ble_eq_true rfl) ⟨by rw [hR]; decide, by rw [hR]; decide⟩ ⟨by rw [hR]; decide, by rw [hR]; decide⟩ dM_callback_4 ?_
  refine hr_if_eq (tgt := 14) G dM_callback_7 (by decide) (fun _ => ?_) (fun h => absurd (by decide) h)
  refine hr_iconst (v := 1) G dM_callback_14 (by decide) ?_
  refine hr_put (x := 1) G fM_87 (hA.lt (show 0 < hw_n0 20 by decide)) rfl (rfl) rfl dM_callback_15 ?_
  refine hr_aload_n G dM_callback_18 rfl rfl ?_
  refine hr_get (v := .int 1) G fM_87 (hA.lt (show 0 < hw_n0 20 by decide)) rfl dM_callback_19 ?_
  refine hr_if_le (tgt := 27) G dM_callback_22 (by decide) (fun h => absurd h (by decide)) (fun _ => ?_)
  refine hr_iconst (v := 0) G dM_callback_25 (by decide) ?_
  exact hr_zret G hr (rfl) (fun _ h => h) dM_callback_26 hw_pi
def md_nt (x : Int32) : Int32 := if x = 0 then 1 else 0
set_option maxRecDepth 100000 in
set_option maxHeartbeats 1000000 in
theorem m_M_callback_c (l : Launch) (B : hw_B) (nb : Nat → Nat) (S : hw_St) (z : Nat) (hA : hw_al nb) (hF : hw_Fx S) (c : Nat) (hc : c < 6) (hc1 : 1 ≤ c) (y : Int32) : hw_M l yM_callback cM_callback 4 (some .boolean) ({ frames := 1, cells := 0, slots := 0, locals := 22 }) B [.ref (hw_a B 20 0), .int (nI c), .int y] nb S z (hw_p (.inl (some (.int (md_nt (S 29 0 c))))) nb (hw_sv (hw_sv S 20 0 0 0) 29 0 c (md_nt y)) z) := by
  refine hw_M.of (by decide) (Nat.le_of_ble_eq_true rfl) ?_
  intro X fr hl hR G hr hnm
  refine hr_aload_n G dM_callback_0 rfl rfl ?_
  refine hr_iload_n G dM_callback_1 rfl rfl ?_
  refine hr_iconst (v := 1) G dM_callback_2 (by decide) ?_
  refine hr_iconst (v := 5) G dM_callback_3 (by decide) ?_
  refine hr_callSs G kM_90 sM_within (m_within_y _ _ _ _ _ (nI c) 1 5 (show ¬ nI c < 1 from fun q => absurd ((nI_ltI (b := 1) (by omega) (by decide)).mp q) (by omega)) (show nI c ≤ 5 from nI_le (b := 5) (by omega) (by decide))) rfl rfl (Nat.le_of_ble_eq_true rfl) ⟨by rw [hR]; decide, by rw [hR]; decide⟩ ⟨by rw [hR]; decide, by rw [hR]; decide⟩ dM_callback_4 ?_
  refine hr_if_eq (tgt := 14) G dM_callback_7 (by decide) (fun h => absurd h (by decide)) (fun _ => ?_)
  refine hr_iconst (v := 0) G dM_callback_10 (by decide) ?_
  refine hr_goto (tgt := 15) G dM_callback_11 (by decide) ?_
  refine hr_put (x := 0) G fM_87 (hA.lt (show 0 < hw_n0 20 by decide)) rfl (rfl) rfl dM_callback_15 ?_
  refine hr_aload_n G dM_callback_18 rfl rfl ?_
  refine hr_get (v := .int 0) G fM_87 (hA.lt (show 0 < hw_n0 20 by decide)) rfl dM_callback_19 ?_
  refine hr_if_le (tgt := 27) G dM_callback_22 (by decide) (fun _ => ?_) (fun h => absurd (by decide) h)
  refine hr_aload_n G dM_callback_27 rfl rfl ?_
  refine hr_get (v := .ref (hw_a B 29 0)) G fM_35 (hA.lt (show 0 < hw_n0 20 by decide)) (hw_rfx (hF.sv rfl) (by decide) rfl (by decide)) dM_callback_28 ?_
  refine hr_iload_n G dM_callback_31 rfl rfl ?_
  refine hr_zald (n := c) (v := .int (S 29 0 c)) G rfl (by decide) rfl (hA.lt (show 0 < hw_n0 29 by decide)) rfl (show c < 6 from hc) rfl dM_callback_32 ?_
  refine hr_if_ne (tgt := 40) G dM_callback_33 (by decide) (fun h33 => ?_) (fun h33 => ?_)
  · skip
    refine hr_iconst (v := 0) G dM_callback_40 (by decide) ?_
    refine hr_istore_n (i := 3) G dM_callback_41 rfl (by decide) ?_
    refine hr_aload_n G dM_callback_42 rfl rfl ?_
    refine hr_get (v := .ref (hw_a B 29 0)) G fM_35 (hA.lt (show 0 < hw_n0 20 by decide)) (hw_rfx (hF.sv rfl) (by decide) rfl (by decide)) dM_callback_43 ?_
    refine hr_iload_n G dM_callback_46 rfl rfl ?_
    refine hr_iload_n G dM_callback_47 rfl rfl ?_
    refine hr_if_ne (tgt := 55) G dM_callback_48 (by decide) (fun h48 => ?_) (fun h48 => ?_)
    · skip
      refine hr_iconst (v := 0) G dM_callback_55 (by decide) ?_
      refine hr_zast (n := c) (y := 0) G rfl (by decide) rfl (hA.lt (show 0 < hw_n0 29 by decide)) rfl (show c < 6 from hc) rfl (rfl) dM_callback_56 ?_
      refine hr_iload_n G dM_callback_57 rfl rfl ?_
      exact hr_zret G hr (rfl) (fun _ h => h) dM_callback_58 ⟨by simp only [md_nt, h33, h48, ↓reduceIte], rfl, by simp only [md_nt, h33, h48, ↓reduceIte], rfl⟩
    · skip
      refine hr_iconst (v := 1) G dM_callback_51 (by decide) ?_
      refine hr_goto (tgt := 56) G dM_callback_52 (by decide) ?_
      refine hr_zast (n := c) (y := 1) G rfl (by decide) rfl (hA.lt (show 0 < hw_n0 29 by decide)) rfl (show c < 6 from hc) rfl (rfl) dM_callback_56 ?_
      refine hr_iload_n G dM_callback_57 rfl rfl ?_
      exact hr_zret G hr (rfl) (fun _ h => h) dM_callback_58 ⟨by simp only [md_nt, h33, h48, ↓reduceIte], rfl, by simp only [md_nt, h33, h48, ↓reduceIte], rfl⟩
  · skip
    refine hr_iconst (v := 1) G dM_callback_36 (by decide) ?_
    refine hr_goto (tgt := 41) G dM_callback_37 (by decide) ?_
    refine hr_istore_n (i := 3) G dM_callback_41 rfl (by decide) ?_
    refine hr_aload_n G dM_callback_42 rfl rfl ?_
    refine hr_get (v := .ref (hw_a B 29 0)) G fM_35 (hA.lt (show 0 < hw_n0 20 by decide)) (hw_rfx (hF.sv rfl) (by decide) rfl (by decide)) dM_callback_43 ?_
    refine hr_iload_n G dM_callback_46 rfl rfl ?_
    refine hr_iload_n G dM_callback_47 rfl rfl ?_
    refine hr_if_ne (tgt := 55) G dM_callback_48 (by decide) (fun h48 => ?_) (fun h48 => ?_)
    · skip
      refine hr_iconst (v := 0) G dM_callback_55 (by decide) ?_
      refine hr_zast (n := c) (y := 0) G rfl (by decide) rfl (hA.lt (show 0 < hw_n0 29 by decide)) rfl (show c < 6 from hc) rfl (rfl) dM_callback_56 ?_
      refine hr_iload_n G dM_callback_57 rfl rfl ?_
      exact hr_zret G hr (rfl) (fun _ h => h) dM_callback_58 ⟨by simp only [md_nt, h33, h48, ↓reduceIte], rfl, by simp only [md_nt, h33, h48, ↓reduceIte], rfl⟩
    · skip
      refine hr_iconst (v := 1) G dM_callback_51 (by decide) ?_
      refine hr_goto (tgt := 56) G dM_callback_52 (by decide) ?_
      refine hr_zast (n := c) (y := 1) G rfl (by decide) rfl (hA.lt (show 0 < hw_n0 29 by decide)) rfl (show c < 6 from hc) rfl (rfl) dM_callback_56 ?_
      refine hr_iload_n G dM_callback_57 rfl rfl ?_
      exact hr_zret G hr (rfl) (fun _ h => h) dM_callback_58 ⟨by simp only [md_nt, h33, h48, ↓reduceIte], rfl, by simp only [md_nt, h33, h48, ↓reduceIte], rfl⟩
def md_try (S : hw_St) (u : Nat) (y r : Int32) (n : Nat) : Int32 × hw_St := if S 24 0 u = 0 then (-2, S) else if md_cnt S u = 3 then (-3, S) else if S 25 0 u = y then (nI n, md_opn S n u r) else (-2, hw_sv (hw_sv S 26 0 u (md_cnt S u + 1)) 27 0 u (S 20 0 1))
theorem m_M_try (l : Launch) (B : hw_B) (nb : Nat → Nat) (S : hw_St) (z : Nat) (hA : hw_al nb) (hF : hw_Fx S) (u : Nat) (hu : u < 4) (y r : Int32) (hr1 : ib_b r) (n : Nat) (hn : n < 40) (hc : S 20 0 12 = nI n) (a : Int32) (S1 : hw_St) (h : md_try S u y r n = (a, S1)) : hw_M l yM_tries cM_tries 5 (some .int) ({ frames := 1, cells := 0, slots := 0, locals := 21 }) B [.ref (hw_a B 20 0), .int (nI u), .int y, .int r] nb S z (hw_p (.inl (some (.int a))) nb S1 z) := by
  unfold md_try at h
  split at h
  · rename_i h1; cases h; exact m_M_tries_a l B nb S z hA hF u hu y r h1
  · rename_i h1
    split at h
    · rename_i h2; cases h; exact m_M_tries_b l B nb S z hA hF u hu y r h1 h2
    · rename_i h2
      split at h
      · rename_i h3; cases h; exact m_M_tries_d l B nb S z hA hF u hu y r hr1 n hn hc h1 h2 h3
      · rename_i h3; cases h; exact m_M_tries_c l B nb S z hA hF u hu y r h1 h2 h3
set_option maxRecDepth 100000 in
set_option maxHeartbeats 1000000 in
theorem m_M_login_a (l : Launch) (B : hw_B) (nb : Nat → Nat) (S : hw_St) (z : Nat) (hA : hw_al nb) (hF : hw_Fx S) (x y r : Int32) (hx : (x < 0 ∨ ¬ x ≤ 3)) : hw_M l yM_login cM_login 4 (some .int) ({ frames := 2, cells := 0, slots := 0, locals := 50 }) B [.ref (hw_a B 20 0), .int x, .int y, .int r] nb S z (hw_p (.inl (some (.int 0))) nb (hw_sv S 20 0 0 1) z) := by
  refine hw_M.of (by decide) (Nat.le_of_ble_eq_true rfl) ?_
  intro X fr hl hR G hr hnm
  refine hr_aload_n G dM_login_0 rfl rfl ?_
  refine hr_iload_n G dM_login_1 rfl rfl ?_
  refine hr_iconst (v := 0) G dM_login_2 (by decide) ?_
  refine hr_iconst (v := 3) G dM_login_3 (by decide) ?_
  refine hr_callSs G kM_90 sM_within (m_within_n _ _ _ _ _ x 0 3 hx) rfl rfl (Nat.le_of_ble_eq_true rfl) ⟨by rw [hR]; decide, by rw [hR]; decide⟩ ⟨by rw [hR]; decide, by rw [hR]; decide⟩ dM_login_4 ?_
  refine hr_if_ne (tgt := 14) G dM_login_7 (by decide) (fun h => absurd (by decide) h) (fun _ => ?_)
  refine hr_iconst (v := 1) G dM_login_10 (by decide) ?_
  refine hr_goto (tgt := 28) G dM_login_11 (by decide) ?_
  refine hr_put (x := 1) G fM_87 (hA.lt (show 0 < hw_n0 20 by decide)) rfl (rfl) rfl dM_login_28 ?_
  refine hr_aload_n G dM_login_31 rfl rfl ?_
  refine hr_get (v := .int 1) G fM_87 (hA.lt (show 0 < hw_n0 20 by decide)) rfl dM_login_32 ?_
  refine hr_if_le (tgt := 42) G dM_login_35 (by decide) (fun h => absurd h (by decide)) (fun _ => ?_)
  refine hr_iconst (v := 0) G dM_login_38 (by decide) ?_
  refine hr_goto (tgt := 49) G dM_login_39 (by decide) ?_
  exact hr_iret G hr (fun _ h => h) dM_login_49 hw_pi
set_option maxRecDepth 100000 in
set_option maxHeartbeats 1000000 in
theorem m_M_login_b (l : Launch) (B : hw_B) (nb : Nat → Nat) (S : hw_St) (z : Nat) (hA : hw_al nb) (hF : hw_Fx S) (u : Nat) (hu : u < 4) (y r : Int32) (h40 : S 20 0 12 = 40) : hw_M l yM_login cM_login 4 (some .int) ({ frames := 2, cells := 0, slots := 0, locals := 50 }) B [.ref (hw_a B 20 0), .int (nI u), .int y, .int r] nb S z (hw_p (.inl (some (.int 0))) nb (hw_sv S 20 0 0 2) z) := by
  refine hw_M.of (by decide) (Nat.le_of_ble_eq_true rfl) ?_
  intro X fr hl hR G hr hnm
  refine hr_aload_n G dM_login_0 rfl rfl ?_
  refine hr_iload_n G dM_login_1 rfl rfl ?_
  refine hr_iconst (v := 0) G dM_login_2 (by decide) ?_
  refine hr_iconst (v := 3) G dM_login_3 (by decide) ?_
  refine hr_callSs G kM_90 sM_within (m_within_y _ _ _ _ _ (nI u) 0 3 (nI_pos (by omega)) (show nI u ≤ 3 from nI_le (b := 3) (by omega) (by decide))) rfl rfl (Nat.le_of_ble_eq_true rfl) ⟨by rw [hR]; decide, by rw [hR]; decide⟩ ⟨by rw [hR]; decide, by rw [hR]; decide⟩ dM_login_4 ?_
  refine hr_if_ne (tgt := 14) G dM_login_7 (by decide) (fun _ => ?_) (fun h => absurd h (by decide))
  refine hr_aload_n G dM_login_14 rfl rfl ?_
  refine hr_get (v := .int (S 20 0 12)) G fM_104 (hA.lt (show 0 < hw_n0 20 by decide)) rfl dM_login_15 ?_
  refine hr_bipush (v := 40) G dM_login_18 (by decide) ?_
  refine hr_icmp_ne (tgt := 27) G dM_login_20 (by decide) (fun h => absurd h40 h) (fun _ => ?_)
  refine hr_iconst (v := 2) G dM_login_23 (by decide) ?_
  refine hr_goto (tgt := 28) G dM_login_24 (by decide) ?_
  refine hr_put (x := 2) G fM_87 (hA.lt (show 0 < hw_n0 20 by decide)) rfl (rfl) rfl dM_login_28 ?_
  refine hr_aload_n G dM_login_31 rfl rfl ?_
  refine hr_get (v := .int 2) G fM_87 (hA.lt (show 0 < hw_n0 20 by decide)) rfl dM_login_32 ?_
  refine hr_if_le (tgt := 42) G dM_login_35 (by decide) (fun h => absurd h (by decide)) (fun _ => ?_)
  refine hr_iconst (v := 0) G dM_login_38 (by decide) ?_
  refine hr_goto (tgt := 49) G dM_login_39 (by decide) ?_
  exact hr_iret G hr (fun _ h => h) dM_login_49 hw_pi
set_option maxRecDepth 100000 in
set_option maxHeartbeats 1000000 in
theorem m_M_login_c (l : Launch) (B : hw_B) (nb : Nat → Nat) (S : hw_St) (z : Nat) (hA : hw_al nb) (hF : hw_Fx S) (u : Nat) (hu : u < 4) (y r : Int32) (hr1 : ib_b r) (n : Nat) (hn : n < 40) (hc : S 20 0 12 = nI n) (a : Int32) (S1 : hw_St) (hat : md_try (hw_sv S 20 0 0 0) u y r n = (a, S1)) : hw_M l yM_login cM_login 4 (some .int) ({ frames := 2, cells := 0, slots := 0, locals := 50 }) B [.ref (hw_a B 20 0), .int (nI u), .int y, .int r] nb S z (hw_p (.inl (some (.int a))) nb S1 z) := by
  refine hw_M.of (by decide) (Nat.le_of_ble_eq_true rfl) ?_
  intro X fr hl hR G hr hnm
  refine hr_aload_n G dM_login_0 rfl rfl ?_
  refine hr_iload_n G dM_login_1 rfl rfl ?_
  refine hr_iconst (v := 0) G dM_login_2 (by decide) ?_
  refine hr_iconst (v := 3) G dM_login_3 (by decide) ?_
  refine hr_callSs G kM_90 sM_within (m_within_y _ _ _ _ _ (nI u) 0 3 (nI_pos (by omega)) (show nI u ≤ 3 from nI_le (b := 3) (by omega) (by decide))) rfl rfl (Nat.le_of_ble_eq_true rfl) ⟨by rw [hR]; decide, by rw [hR]; decide⟩ ⟨by rw [hR]; decide, by rw [hR]; decide⟩ dM_login_4 ?_
  refine hr_if_ne (tgt := 14) G dM_login_7 (by decide) (fun _ => ?_) (fun h => absurd h (by decide))
  refine hr_aload_n G dM_login_14 rfl rfl ?_
  refine hr_get (v := .int (S 20 0 12)) G fM_104 (hA.lt (show 0 < hw_n0 20 by decide)) rfl dM_login_15 ?_
  refine hr_bipush (v := 40) G dM_login_18 (by decide) ?_
  refine hr_icmp_ne (tgt := 27) G dM_login_20 (by decide) (fun _ => ?_) (fun h => absurd h (show ¬ S 20 0 12 = 40 by rw [hc]; exact fun q => absurd ((nI_eq (b := 40) (by omega) (by decide)).mp q) (by omega)))
  refine hr_iconst (v := 0) G dM_login_27 (by decide) ?_
  refine hr_put (x := 0) G fM_87 (hA.lt (show 0 < hw_n0 20 by decide)) rfl (rfl) rfl dM_login_28 ?_
  refine hr_aload_n G dM_login_31 rfl rfl ?_
  refine hr_get (v := .int 0) G fM_87 (hA.lt (show 0 < hw_n0 20 by decide)) rfl dM_login_32 ?_
  refine hr_if_le (tgt := 42) G dM_login_35 (by decide) (fun _ => ?_) (fun h => absurd (by decide) h)
  refine hr_aload_n G dM_login_42 rfl rfl ?_
  refine hr_iload_n G dM_login_43 rfl rfl ?_
  refine hr_iload_n G dM_login_44 rfl rfl ?_
  refine hr_iload_n G dM_login_45 rfl rfl ?_
  refine hr_callVs (k := 20) (i := 0) G rfl rfl (hA.lt (show 0 < hw_n0 20 by decide)) kM_107 iM_tries vM_tries (m_M_try _ _ _ (hw_sv S 20 0 0 0) _ hA (hF.sv rfl) u hu y r hr1 n hn hc a S1 hat) rfl rfl (Nat.le_of_ble_eq_true rfl) ⟨by rw [hR]; decide, by rw [hR]; decide⟩ ⟨by rw [hR]; decide, by rw [hR]; decide⟩ dM_login_46 ?_
  exact hr_iret G hr (fun _ h => h) dM_login_49 hw_pi
set_option maxRecDepth 100000 in
set_option maxHeartbeats 1000000 in
theorem m_M_enter_a (l : Launch) (B : hw_B) (nb : Nat → Nat) (S : hw_St) (z : Nat) (hA : hw_al nb) (hF : hw_Fx S) (x y v : Int32) (hx : (x < 0 ∨ ¬ x ≤ 3)) : hw_M l yM_enter cM_enter 5 (some .int) ({ frames := 2, cells := 0, slots := 0, locals := 50 }) B [.ref (hw_a B 20 0), .int x, .int y, .int v] nb S z (hw_p (.inl (some (.int 0))) nb (hw_sv S 20 0 0 1) z) := by
  refine hw_M.of (by decide) (Nat.le_of_ble_eq_true rfl) ?_
  intro X fr hl hR G hr hnm
  refine hr_aload_n G dM_enter_0 rfl rfl ?_
  refine hr_iload_n G dM_enter_1 rfl rfl ?_
  refine hr_iconst (v := 0) G dM_enter_2 (by decide) ?_
  refine hr_iconst (v := 3) G dM_enter_3 (by decide) ?_
  refine hr_callSs G kM_90 sM_within (m_within_n _ _ _ _ _ x 0 3 hx) rfl rfl (Nat.le_of_ble_eq_true rfl) ⟨by rw [hR]; decide, by rw [hR]; decide⟩ ⟨by rw [hR]; decide, by rw [hR]; decide⟩ dM_enter_4 ?_
  refine hr_if_eq (tgt := 18) G dM_enter_7 (by decide) (fun _ => ?_) (fun h => absurd (by decide) h)
  refine hr_iconst (v := 1) G dM_enter_18 (by decide) ?_
  refine hr_goto (tgt := 46) G dM_enter_19 (by decide) ?_
  refine hr_put (x := 1) G fM_87 (hA.lt (show 0 < hw_n0 20 by decide)) rfl (rfl) rfl dM_enter_46 ?_
  refine hr_aload_n G dM_enter_49 rfl rfl ?_
  refine hr_get (v := .int 1) G fM_87 (hA.lt (show 0 < hw_n0 20 by decide)) rfl dM_enter_50 ?_
  refine hr_if_le (tgt := 58) G dM_enter_53 (by decide) (fun h => absurd h (by decide)) (fun _ => ?_)
  refine hr_iconst (v := 0) G dM_enter_56 (by decide) ?_
  exact hr_iret G hr (fun _ h => h) dM_enter_57 hw_pi
set_option maxRecDepth 100000 in
set_option maxHeartbeats 1000000 in
theorem m_M_enter_b (l : Launch) (B : hw_B) (nb : Nat → Nat) (S : hw_St) (z : Nat) (hA : hw_al nb) (hF : hw_Fx S) (u : Nat) (hu : u < 4) (y v : Int32) (hv : md_en S v = 0) : hw_M l yM_enter cM_enter 5 (some .int) ({ frames := 2, cells := 0, slots := 0, locals := 50 }) B [.ref (hw_a B 20 0), .int (nI u), .int y, .int v] nb S z (hw_p (.inl (some (.int 0))) nb (hw_sv S 20 0 0 1) z) := by
  refine hw_M.of (by decide) (Nat.le_of_ble_eq_true rfl) ?_
  intro X fr hl hR G hr hnm
  refine hr_aload_n G dM_enter_0 rfl rfl ?_
  refine hr_iload_n G dM_enter_1 rfl rfl ?_
  refine hr_iconst (v := 0) G dM_enter_2 (by decide) ?_
  refine hr_iconst (v := 3) G dM_enter_3 (by decide) ?_
  refine hr_callSs G kM_90 sM_within (m_within_y _ _ _ _ _ (nI u) 0 3 (nI_pos (by omega)) (show nI u ≤ 3 from nI_le (b := 3) (by omega) (by decide))) rfl rfl (Nat.le_of_ble_eq_true rfl) ⟨by rw [hR]; decide, by rw [hR]; decide⟩ ⟨by rw [hR]; decide, by rw [hR]; decide⟩ dM_enter_4 ?_
  refine hr_if_eq (tgt := 18) G dM_enter_7 (by decide) (fun h => absurd h (by decide)) (fun _ => ?_)
  refine hr_aload_n G dM_enter_10 rfl rfl ?_
  refine hr_iload_n G dM_enter_11 rfl rfl ?_
  refine hr_callVs (k := 20) (i := 0) G rfl rfl (hA.lt (show 0 < hw_n0 20 by decide)) kM_114 iM_enabled vM_enabled (m_M_enabled _ _ _ _ _ hA hF v) rfl rfl (Nat.le_of_ble_eq_true rfl) ⟨by rw [hR]; decide, by rw [hR]; decide⟩ ⟨by rw [hR]; decide, by rw [hR]; decide⟩ dM_enter_12 ?_
  refine hr_if_ne (tgt := 22) G dM_enter_15 (by decide) (fun h => absurd hv h) (fun _ => ?_)
  refine hr_iconst (v := 1) G dM_enter_18 (by decide) ?_
  refine hr_goto (tgt := 46) G dM_enter_19 (by decide) ?_
  refine hr_put (x := 1) G fM_87 (hA.lt (show 0 < hw_n0 20 by decide)) rfl (rfl) rfl dM_enter_46 ?_
  refine hr_aload_n G dM_enter_49 rfl rfl ?_
  refine hr_get (v := .int 1) G fM_87 (hA.lt (show 0 < hw_n0 20 by decide)) rfl dM_enter_50 ?_
  refine hr_if_le (tgt := 58) G dM_enter_53 (by decide) (fun h => absurd h (by decide)) (fun _ => ?_)
  refine hr_iconst (v := 0) G dM_enter_56 (by decide) ?_
  exact hr_iret G hr (fun _ h => h) dM_enter_57 hw_pi
set_option maxRecDepth 100000 in
set_option maxHeartbeats 1000000 in
theorem m_M_enter_c (l : Launch) (B : hw_B) (nb : Nat → Nat) (S : hw_St) (z : Nat) (hA : hw_al nb) (hF : hw_Fx S) (u : Nat) (hu : u < 4) (y v : Int32) (hv : ¬ md_en S v = 0) (h40 : S 20 0 12 = 40) : hw_M l yM_enter cM_enter 5 (some .int) ({ frames := 2, cells := 0, slots := 0, locals := 50 }) B [.ref (hw_a B 20 0), .int (nI u), .int y, .int v] nb S z (hw_p (.inl (some (.int 0))) nb (hw_sv S 20 0 0 2) z) := by
  refine hw_M.of (by decide) (Nat.le_of_ble_eq_true rfl) ?_
  intro X fr hl hR G hr hnm
  refine hr_aload_n G dM_enter_0 rfl rfl ?_
  refine hr_iload_n G dM_enter_1 rfl rfl ?_
  refine hr_iconst (v := 0) G dM_enter_2 (by decide) ?_
  refine hr_iconst (v := 3) G dM_enter_3 (by decide) ?_
  refine hr_callSs G kM_90 sM_within (m_within_y _ _ _ _ _ (nI u) 0 3 (nI_pos (by omega)) (show nI u ≤ 3 from nI_le (b := 3) (by omega) (by decide))) rfl rfl (Nat.le_of_ble_eq_true rfl) ⟨by rw [hR]; decide, by rw [hR]; decide⟩ ⟨by rw [hR]; decide, by rw [hR]; decide⟩ dM_enter_4 ?_
  refine hr_if_eq (tgt := 18) G dM_enter_7 (by decide) (fun h => absurd h (by decide)) (fun _ => ?_)
  refine hr_aload_n G dM_enter_10 rfl rfl ?_
  refine hr_iload_n G dM_enter_11 rfl rfl ?_
  refine hr_callVs (k := 20) (i := 0) G rfl rfl (hA.lt (show 0 < hw_n0 20 by decide)) kM_114 iM_enabled vM_enabled (m_M_enabled _ _ _ _ _ hA hF v) rfl rfl (Nat.le_of_ble_eq_true rfl) ⟨by rw [hR]; decide, by rw [hR]; decide⟩ ⟨by rw [hR]; decide, by rw [hR]; decide⟩ dM_enter_12 ?_
  refine hr_if_ne (tgt := 22) G dM_enter_15 (by decide) (fun _ => ?_) (fun h => absurd h hv)
  refine hr_aload_n G dM_enter_22 rfl rfl ?_
  refine hr_get (v := .int (S 20 0 12)) G fM_104 (hA.lt (show 0 < hw_n0 20 by decide)) rfl dM_enter_23 ?_
  refine hr_bipush (v := 40) G dM_enter_26 (by decide) ?_
  refine hr_icmp_eq (tgt := 41) G dM_enter_28 (by decide) (fun _ => ?_) (fun h => absurd h40 h)
  refine hr_iconst (v := 2) G dM_enter_41 (by decide) ?_
  refine hr_goto (tgt := 46) G dM_enter_42 (by decide) ?_
  refine hr_put (x := 2) G fM_87 (hA.lt (show 0 < hw_n0 20 by decide)) rfl (rfl) rfl dM_enter_46 ?_
  refine hr_aload_n G dM_enter_49 rfl rfl ?_
  refine hr_get (v := .int 2) G fM_87 (hA.lt (show 0 < hw_n0 20 by decide)) rfl dM_enter_50 ?_
  refine hr_if_le (tgt := 58) G dM_enter_53 (by decide) (fun h => absurd h (by decide)) (fun _ => ?_)
  refine hr_iconst (v := 0) G dM_enter_56 (by decide) ?_
  exact hr_iret G hr (fun _ h => h) dM_enter_57 hw_pi
set_option maxRecDepth 100000 in
set_option maxHeartbeats 1000000 in
theorem m_M_enter_d (l : Launch) (B : hw_B) (nb : Nat → Nat) (S : hw_St) (z : Nat) (hA : hw_al nb) (hF : hw_Fx S) (u : Nat) (hu : u < 4) (y v : Int32) (hv : ¬ md_en S v = 0) (h40 : ¬ S 20 0 12 = 40) (h150 : S 20 0 18 = 150) : hw_M l yM_enter cM_enter 5 (some .int) ({ frames := 2, cells := 0, slots := 0, locals := 50 }) B [.ref (hw_a B 20 0), .int (nI u), .int y, .int v] nb S z (hw_p (.inl (some (.int 0))) nb (hw_sv S 20 0 0 2) z) := by
  refine hw_M.of (by decide) (Nat.le_of_ble_eq_true rfl) ?_
  intro X fr hl hR G hr hnm
  refine hr_aload_n G dM_enter_0 rfl rfl ?_
  refine hr_iload_n G dM_enter_1 rfl rfl ?_
  refine hr_iconst (v := 0) G dM_enter_2 (by decide) ?_
  refine hr_iconst (v := 3) G dM_enter_3 (by decide) ?_
  refine hr_callSs G kM_90 sM_within (m_within_y _ _ _ _ _ (nI u) 0 3 (nI_pos (by omega)) (show nI u ≤ 3 from nI_le (b := 3) (by omega) (by decide))) rfl rfl (Nat.le_of_ble_eq_true rfl) ⟨by rw [hR]; decide, by rw [hR]; decide⟩ ⟨by rw [hR]; decide, by rw [hR]; decide⟩ dM_enter_4 ?_
  refine hr_if_eq (tgt := 18) G dM_enter_7 (by decide) (fun h => absurd h (by decide)) (fun _ => ?_)
  refine hr_aload_n G dM_enter_10 rfl rfl ?_
  refine hr_iload_n G dM_enter_11 rfl rfl ?_
  refine hr_callVs (k := 20) (i := 0) G rfl rfl (hA.lt (show 0 < hw_n0 20 by decide)) kM_114 iM_enabled vM_enabled (m_M_enabled _ _ _ _ _ hA hF v) rfl rfl (Nat.le_of_ble_eq_true rfl) ⟨by rw [hR]; decide, by rw [hR]; decide⟩ ⟨by rw [hR]; decide, by rw [hR]; decide⟩ dM_enter_12 ?_
  refine hr_if_ne (tgt := 22) G dM_enter_15 (by decide) (fun _ => ?_) (fun h => absurd h hv)
  refine hr_aload_n G dM_enter_22 rfl rfl ?_
  refine hr_get (v := .int (S 20 0 12)) G fM_104 (hA.lt (show 0 < hw_n0 20 by decide)) rfl dM_enter_23 ?_
  refine hr_bipush (v := 40) G dM_enter_26 (by decide) ?_
  refine hr_icmp_eq (tgt := 41) G dM_enter_28 (by decide) (fun h => absurd h h40) (fun _ => ?_)
  refine hr_aload_n G dM_enter_31 rfl rfl ?_
  refine hr_get (v := .int (S 20 0 18)) G fM_111 (hA.lt (show 0 < hw_n0 20 by decide)) rfl dM_enter_32 ?_
  refine hr_sipush (v := 150) G dM_enter_35 (by decide) ?_
  refine hr_icmp_ne (tgt := 45) G dM_enter_38 (by decide) (fun h => absurd h150 h) (fun _ => ?_)
  refine hr_iconst (v := 2) G dM_enter_41 (by decide) ?_
  refine hr_goto (tgt := 46) G dM_enter_42 (by decide) ?_
  refine hr_put (x := 2) G fM_87 (hA.lt (show 0 < hw_n0 20 by decide)) rfl (rfl) rfl dM_enter_46 ?_
  refine hr_aload_n G dM_enter_49 rfl rfl ?_
  refine hr_get (v := .int 2) G fM_87 (hA.lt (show 0 < hw_n0 20 by decide)) rfl dM_enter_50 ?_
  refine hr_if_le (tgt := 58) G dM_enter_53 (by decide) (fun h => absurd h (by decide)) (fun _ => ?_)
  refine hr_iconst (v := 0) G dM_enter_56 (by decide) ?_
  exact hr_iret G hr (fun _ h => h) dM_enter_57 hw_pi
set_option maxRecDepth 100000 in
set_option maxHeartbeats 1000000 in
theorem m_M_enter_e (l : Launch) (B : hw_B) (nb : Nat → Nat) (S : hw_St) (z : Nat) (hA : hw_al nb) (hF : hw_Fx S) (u : Nat) (hu : u < 4) (y v : Int32) (hv : ¬ md_en S v = 0) (n m : Nat) (hn : n < 40) (hc : S 20 0 12 = nI n) (hm : m < 150) (hc2 : S 20 0 18 = nI m) (a : Int32) (S1 : hw_St) (hat : md_try (hw_sv S 20 0 0 0) u y 0 n = (a, S1)) (ha : ¬ 0 ≤ a) : hw_M l yM_enter cM_enter 5 (some .int) ({ frames := 2, cells := 0, slots := 0, locals := 50 }) B [.ref (hw_a B 20 0), .int (nI u), .int y, .int v] nb S z (hw_p (.inl (some (.int a))) nb S1 z) := by
  refine hw_M.of (by decide) (Nat.le_of_ble_eq_true rfl) ?_
  intro X fr hl hR G hr hnm
  refine hr_aload_n G dM_enter_0 rfl rfl ?_
  refine hr_iload_n G dM_enter_1 rfl rfl ?_
  refine hr_iconst (v := 0) G dM_enter_2 (by decide) ?_
  refine hr_iconst (v := 3) G dM_enter_3 (by decide) ?_
  refine hr_callSs G kM_90 sM_within (m_within_y _ _ _ _ _ (nI u) 0 3 (nI_pos (by omega)) (show nI u ≤ 3 from nI_le (b := 3) (by omega) (by decide))) rfl rfl (Nat.le_of_ble_eq_true rfl) ⟨by rw [hR]; decide, by rw [hR]; decide⟩ ⟨by rw [hR]; decide, by rw [hR]; decide⟩ dM_enter_4 ?_
  refine hr_if_eq (tgt := 18) G dM_enter_7 (by decide) (fun h => absurd h (by decide)) (fun _ => ?_)
  refine hr_aload_n G dM_enter_10 rfl rfl ?_
  refine hr_iload_n G dM_enter_11 rfl rfl ?_
  refine hr_callVs (k := 20) (i := 0) G rfl rfl (hA.lt (show 0 < hw_n0 20 by decide)) kM_114 iM_enabled vM_enabled (m_M_enabled _ _ _ _ _ hA hF v) rfl rfl (Nat.le_of_ble_eq_true rfl) ⟨by rw [hR]; decide, by rw [hR]; decide⟩ ⟨by rw [hR]; decide, by rw [hR]; decide⟩ dM_enter_12 ?_
  refine hr_if_ne (tgt := 22) G dM_enter_15 (by decide) (fun _ => ?_) (fun h => absurd h hv)
  refine hr_aload_n G dM_enter_22 rfl rfl ?_
  refine hr_get (v := .int (S 20 0 12)) G fM_104 (hA.lt (show 0 < hw_n0 20 by decide)) rfl dM_enter_23 ?_
  refine hr_bipush (v := 40) G dM_enter_26 (by decide) ?_
  refine hr_icmp_eq (tgt := 41) G dM_enter_28 (by decide) (fun h => absurd h (show ¬ S 20 0 12 = 40 by rw [hc]; exact fun q => absurd ((nI_eq (b := 40) (by omega) (by decide)).mp q) (by omega))) (fun _ => ?_)
  refine hr_aload_n G dM_enter_31 rfl rfl ?_
  refine hr_get (v := .int (S 20 0 18)) G fM_111 (hA.lt (show 0 < hw_n0 20 by decide)) rfl dM_enter_32 ?_
  refine hr_sipush (v := 150) G dM_enter_35 (by decide) ?_
  refine hr_icmp_ne (tgt := 45) G dM_enter_38 (by decide) (fun _ => ?_) (fun h => absurd h (show ¬ S 20 0 18 = 150 by rw [hc2]; exact fun q => absurd ((nI_eq (b := 150) (by omega) (by decide)).mp q) (by omega)))
  refine hr_iconst (v := 0) G dM_enter_45 (by decide) ?_
  refine hr_put (x := 0) G fM_87 (hA.lt (show 0 < hw_n0 20 by decide)) rfl (rfl) rfl dM_enter_46 ?_
  refine hr_aload_n G dM_enter_49 rfl rfl ?_
  refine hr_get (v := .int 0) G fM_87 (hA.lt (show 0 < hw_n0 20 by decide)) rfl dM_enter_50 ?_
  refine hr_if_le (tgt := 58) G dM_enter_53 (by decide) (fun _ => ?_) (fun h => absurd (by decide) h)
  refine hr_aload_n G dM_enter_58 rfl rfl ?_
  refine hr_iload_n G dM_enter_59 rfl rfl ?_
  refine hr_iload_n G dM_enter_60 rfl rfl ?_
  refine hr_iconst (v := 0) G dM_enter_61 (by decide) ?_
  refine hr_callVs (k := 20) (i := 0) G rfl rfl (hA.lt (show 0 < hw_n0 20 by decide)) kM_107 iM_tries vM_tries (m_M_try _ _ _ (hw_sv S 20 0 0 0) _ hA (hF.sv rfl) u hu y 0 (Or.inl rfl) n hn hc a S1 hat) rfl rfl (Nat.le_of_ble_eq_true rfl) ⟨by rw [hR]; decide, by rw [hR]; decide⟩ ⟨by rw [hR]; decide, by rw [hR]; decide⟩ dM_enter_62 ?_
  refine hr_istore (i := 4) G dM_enter_65 (by decide) ?_
  refine hr_iload G dM_enter_67 rfl ?_
  refine hr_if_ge (tgt := 77) G dM_enter_69 (by decide) (fun h => absurd h ha) (fun _ => ?_)
  refine hr_iload G dM_enter_72 rfl ?_
  refine hr_goto (tgt := 87) G dM_enter_74 (by decide) ?_
  exact hr_iret G hr (fun _ h => h) dM_enter_87 hw_pi
set_option maxRecDepth 100000 in
set_option maxHeartbeats 1000000 in
theorem m_M_enter_f (l : Launch) (B : hw_B) (nb : Nat → Nat) (S : hw_St) (z : Nat) (hA : hw_al nb) (hF : hw_Fx S) (u : Nat) (hu : u < 4) (y v : Int32) (hv : ¬ md_en S v = 0) (n m : Nat) (hn : n < 40) (hc : S 20 0 12 = nI n) (hm : m < 150) (hc2 : S 20 0 18 = nI m) (hat : md_try (hw_sv S 20 0 0 0) u y 0 n = (nI n, (md_opn (hw_sv S 20 0 0 0) n u 0))) : hw_M l yM_enter cM_enter 5 (some .int) ({ frames := 2, cells := 0, slots := 0, locals := 50 }) B [.ref (hw_a B 20 0), .int (nI u), .int y, .int v] nb S z (hw_p (.inl (some (.int (nI m)))) nb (md_giv (md_opn (hw_sv S 20 0 0 0) n u 0) m 0 (nI n) v 1 (-1)) z) := by
  refine hw_M.of (by decide) (Nat.le_of_ble_eq_true rfl) ?_
  intro X fr hl hR G hr hnm
  refine hr_aload_n G dM_enter_0 rfl rfl ?_
  refine hr_iload_n G dM_enter_1 rfl rfl ?_
  refine hr_iconst (v := 0) G dM_enter_2 (by decide) ?_
  refine hr_iconst (v := 3) G dM_enter_3 (by decide) ?_
  refine hr_callSs G kM_90 sM_within (m_within_y _ _ _ _ _ (nI u) 0 3 (nI_pos (by omega)) (show nI u ≤ 3 from nI_le (b := 3) (by omega) (by decide))) rfl rfl (Nat.le_of_ble_eq_true rfl) ⟨by rw [hR]; decide, by rw [hR]; decide⟩ ⟨by rw [hR]; decide, by rw [hR]; decide⟩ dM_enter_4 ?_
  refine hr_if_eq (tgt := 18) G dM_enter_7 (by decide) (fun h => absurd h (by decide)) (fun _ => ?_)
  refine hr_aload_n G dM_enter_10 rfl rfl ?_
  refine hr_iload_n G dM_enter_11 rfl rfl ?_
  refine hr_callVs (k := 20) (i := 0) G rfl rfl (hA.lt (show 0 < hw_n0 20 by decide)) kM_114 iM_enabled vM_enabled (m_M_enabled _ _ _ _ _ hA hF v) rfl rfl (Nat.le_of_ble_eq_true rfl) ⟨by rw [hR]; decide, by rw [hR]; decide⟩ ⟨by rw [hR]; decide, by rw [hR]; decide⟩ dM_enter_12 ?_
  refine hr_if_ne (tgt := 22) G dM_enter_15 (by decide) (fun _ => ?_) (fun h => absurd h hv)
  refine hr_aload_n G dM_enter_22 rfl rfl ?_
  refine hr_get (v := .int (S 20 0 12)) G fM_104 (hA.lt (show 0 < hw_n0 20 by decide)) rfl dM_enter_23 ?_
  refine hr_bipush (v := 40) G dM_enter_26 (by decide) ?_
  refine hr_icmp_eq (tgt := 41) G dM_enter_28 (by decide) (fun h => absurd h (show ¬ S 20 0 12 = 40 by rw [hc]; exact fun q => absurd ((nI_eq (b := 40) (by omega) (by decide)).mp q) (by omega))) (fun _ => ?_)
  refine hr_aload_n G dM_enter_31 rfl rfl ?_
  refine hr_get (v := .int (S 20 0 18)) G fM_111 (hA.lt (show 0 < hw_n0 20 by decide)) rfl dM_enter_32 ?_
  refine hr_sipush (v := 150) G dM_enter_35 (by decide) ?_
  refine hr_icmp_ne (tgt := 45) G dM_enter_38 (by decide) (fun _ => ?_) (fun h => absurd h (show ¬ S 20 0 18 = 150 by rw [hc2]; exact fun q => absurd ((nI_eq (b := 150) (by omega) (by decide)).mp q) (by omega)))
  refine hr_iconst (v := 0) G dM_enter_45 (by decide) ?_
  refine hr_put (x := 0) G fM_87 (hA.lt (show 0 < hw_n0 20 by decide)) rfl (rfl) rfl dM_enter_46 ?_
  refine hr_aload_n G dM_enter_49 rfl rfl ?_
  refine hr_get (v := .int 0) G fM_87 (hA.lt (show 0 < hw_n0 20 by decide)) rfl dM_enter_50 ?_
  refine hr_if_le (tgt := 58) G dM_enter_53 (by decide) (fun _ => ?_) (fun h => absurd (by decide) h)
  refine hr_aload_n G dM_enter_58 rfl rfl ?_
  refine hr_iload_n G dM_enter_59 rfl rfl ?_
  refine hr_iload_n G dM_enter_60 rfl rfl ?_
  refine hr_iconst (v := 0) G dM_enter_61 (by decide) ?_
  refine hr_callVs (k := 20) (i := 0) G rfl rfl (hA.lt (show 0 < hw_n0 20 by decide)) kM_107 iM_tries vM_tries (m_M_try _ _ _ (hw_sv S 20 0 0 0) _ hA (hF.sv rfl) u hu y 0 (Or.inl rfl) n hn hc (nI n) (md_opn (hw_sv S 20 0 0 0) n u 0) hat) rfl rfl (Nat.le_of_ble_eq_true rfl) ⟨by rw [hR]; decide, by rw [hR]; decide⟩ ⟨by rw [hR]; decide, by rw [hR]; decide⟩ dM_enter_62 ?_
  refine hr_istore (i := 4) G dM_enter_65 (by decide) ?_
  refine hr_iload G dM_enter_67 rfl ?_
  refine hr_if_ge (tgt := 77) G dM_enter_69 (by decide) (fun _ => ?_) (fun h => absurd (nI_pos' (by omega)) h)
  refine hr_aload_n G dM_enter_77 rfl rfl ?_
  refine hr_iconst (v := 0) G dM_enter_78 (by decide) ?_
  refine hr_iload G dM_enter_79 rfl ?_
  refine hr_iload_n G dM_enter_81 rfl rfl ?_
  refine hr_iconst (v := 1) G dM_enter_82 (by decide) ?_
  refine hr_iconst (v := -1) G dM_enter_83 (by decide) ?_
  refine hr_callVs (k := 20) (i := 0) G rfl rfl (hA.lt (show 0 < hw_n0 20 by decide)) kM_118 iM_give vM_give (m_M_give _ _ _ (md_opn (hw_sv S 20 0 0 0) n u 0) _ hA (md_opn_fx (hF.sv rfl)) m hm hc2 0 (nI n) v 1 (-1) (Or.inr rfl)) rfl rfl (Nat.le_of_ble_eq_true rfl) ⟨by rw [hR]; decide, by rw [hR]; decide⟩ ⟨by rw [hR]; decide, by rw [hR]; decide⟩ dM_enter_84 ?_
  exact hr_iret G hr (fun _ h => h) dM_enter_87 hw_pi
set_option maxRecDepth 100000 in
set_option maxHeartbeats 1000000 in
theorem m_M_ticket_a (l : Launch) (B : hw_B) (nb : Nat → Nat) (S : hw_St) (z : Nat) (hA : hw_al nb) (hF : hw_Fx S) (x v : Int32) (hx : x < 0 ∨ ¬ x ≤ S 20 0 12 - 1) : hw_M l yM_ticket cM_ticket 3 (some .int) ({ frames := 2, cells := 0, slots := 0, locals := 50 }) B [.ref (hw_a B 20 0), .int x, .int v] nb S z (hw_p (.inl (some (.int 0))) nb (hw_sv S 20 0 0 1) z) := by
  refine hw_M.of (by decide) (Nat.le_of_ble_eq_true rfl) ?_
  intro X fr hl hR G hr hnm
  refine hr_aload_n G dM_ticket_0 rfl rfl ?_
  refine hr_iload_n G dM_ticket_1 rfl rfl ?_
  refine hr_iconst (v := 0) G dM_ticket_2 (by decide) ?_
  refine hr_aload_n G dM_ticket_3 rfl rfl ?_
  refine hr_get (v := .int (S 20 0 12)) G fM_104 (hA.lt (show 0 < hw_n0 20 by decide)) rfl dM_ticket_4 ?_
  refine hr_iconst (v := 1) G dM_ticket_7 (by decide) ?_
  refine hr_isub G dM_ticket_8 ?_
  refine hr_callSs G kM_90 sM_within (m_within_n _ _ _ _ _ x 0 ((S 20 0 12) - 1) hx) rfl rfl (Nat.le_of_ble_eq_true rfl) ⟨by rw [hR]; decide, by rw [hR]; decide⟩ ⟨by rw [hR]; decide, by rw [hR]; decide⟩ dM_ticket_9 ?_
  refine hr_if_eq (tgt := 23) G dM_ticket_12 (by decide) (fun _ => ?_) (fun h => absurd (by decide) h)
  refine hr_iconst (v := 1) G dM_ticket_23 (by decide) ?_
  refine hr_goto (tgt := 51) G dM_ticket_24 (by decide) ?_
  refine hr_put (x := 1) G fM_87 (hA.lt (show 0 < hw_n0 20 by decide)) rfl (rfl) rfl dM_ticket_51 ?_
  refine hr_aload_n G dM_ticket_54 rfl rfl ?_
  refine hr_get (v := .int 1) G fM_87 (hA.lt (show 0 < hw_n0 20 by decide)) rfl dM_ticket_55 ?_
  refine hr_if_le (tgt := 63) G dM_ticket_58 (by decide) (fun h => absurd h (by decide)) (fun _ => ?_)
  refine hr_iconst (v := 0) G dM_ticket_61 (by decide) ?_
  exact hr_iret G hr (fun _ h => h) dM_ticket_62 hw_pi
set_option maxRecDepth 100000 in
set_option maxHeartbeats 1000000 in
theorem m_M_ticket_b (l : Launch) (B : hw_B) (nb : Nat → Nat) (S : hw_St) (z : Nat) (hA : hw_al nb) (hF : hw_Fx S) (s n : Nat) (hs : s < n) (hn : n ≤ 40) (hc : S 20 0 12 = nI n) (v : Int32) (hv : md_en S v = 0) : hw_M l yM_ticket cM_ticket 3 (some .int) ({ frames := 2, cells := 0, slots := 0, locals := 50 }) B [.ref (hw_a B 20 0), .int (nI s), .int v] nb S z (hw_p (.inl (some (.int 0))) nb (hw_sv S 20 0 0 1) z) := by
  refine hw_M.of (by decide) (Nat.le_of_ble_eq_true rfl) ?_
  intro X fr hl hR G hr hnm
  refine hr_aload_n G dM_ticket_0 rfl rfl ?_
  refine hr_iload_n G dM_ticket_1 rfl rfl ?_
  refine hr_iconst (v := 0) G dM_ticket_2 (by decide) ?_
  refine hr_aload_n G dM_ticket_3 rfl rfl ?_
  refine hr_get (v := .int (S 20 0 12)) G fM_104 (hA.lt (show 0 < hw_n0 20 by decide)) rfl dM_ticket_4 ?_
  refine hr_iconst (v := 1) G dM_ticket_7 (by decide) ?_
  refine hr_isub G dM_ticket_8 ?_
  refine hr_callSs G kM_90 sM_within (m_within_y _ _ _ _ _ (nI s) 0 ((S 20 0 12) - 1) (nI_pos (by omega)) (show nI s ≤ S 20 0 12 - 1 by rw [hc]; exact nI_lt_p hs (by omega))) rfl rfl (Nat.le_of_ble_eq_true rfl) ⟨by rw [hR]; decide, by rw [hR]; decide⟩ ⟨by rw [hR]; decide, by rw [hR]; decide⟩ dM_ticket_9 ?_
  refine hr_if_eq (tgt := 23) G dM_ticket_12 (by decide) (fun h => absurd h (by decide)) (fun _ => ?_)
  refine hr_aload_n G dM_ticket_15 rfl rfl ?_
  refine hr_iload_n G dM_ticket_16 rfl rfl ?_
  refine hr_callVs (k := 20) (i := 0) G rfl rfl (hA.lt (show 0 < hw_n0 20 by decide)) kM_114 iM_enabled vM_enabled (m_M_enabled _ _ _ _ _ hA hF v) rfl rfl (Nat.le_of_ble_eq_true rfl) ⟨by rw [hR]; decide, by rw [hR]; decide⟩ ⟨by rw [hR]; decide, by rw [hR]; decide⟩ dM_ticket_17 ?_
  refine hr_if_ne (tgt := 27) G dM_ticket_20 (by decide) (fun h => absurd hv h) (fun _ => ?_)
  refine hr_iconst (v := 1) G dM_ticket_23 (by decide) ?_
  refine hr_goto (tgt := 51) G dM_ticket_24 (by decide) ?_
  refine hr_put (x := 1) G fM_87 (hA.lt (show 0 < hw_n0 20 by decide)) rfl (rfl) rfl dM_ticket_51 ?_
  refine hr_aload_n G dM_ticket_54 rfl rfl ?_
  refine hr_get (v := .int 1) G fM_87 (hA.lt (show 0 < hw_n0 20 by decide)) rfl dM_ticket_55 ?_
  refine hr_if_le (tgt := 63) G dM_ticket_58 (by decide) (fun h => absurd h (by decide)) (fun _ => ?_)
  refine hr_iconst (v := 0) G dM_ticket_61 (by decide) ?_
  exact hr_iret G hr (fun _ h => h) dM_ticket_62 hw_pi
set_option maxRecDepth 100000 in
set_option maxHeartbeats 1000000 in
theorem m_M_ticket_c (l : Launch) (B : hw_B) (nb : Nat → Nat) (S : hw_St) (z : Nat) (hA : hw_al nb) (hF : hw_Fx S) (s n : Nat) (hs : s < n) (hn : n ≤ 40) (hc : S 20 0 12 = nI n) (v : Int32) (hv : ¬ md_en S v = 0) (he : ¬ S 34 0 s = 0) : hw_M l yM_ticket cM_ticket 3 (some .int) ({ frames := 2, cells := 0, slots := 0, locals := 50 }) B [.ref (hw_a B 20 0), .int (nI s), .int v] nb S z (hw_p (.inl (some (.int 0))) nb (hw_sv S 20 0 0 2) z) := by
  refine hw_M.of (by decide) (Nat.le_of_ble_eq_true rfl) ?_
  intro X fr hl hR G hr hnm
  refine hr_aload_n G dM_ticket_0 rfl rfl ?_
  refine hr_iload_n G dM_ticket_1 rfl rfl ?_
  refine hr_iconst (v := 0) G dM_ticket_2 (by decide) ?_
  refine hr_aload_n G dM_ticket_3 rfl rfl ?_
  refine hr_get (v := .int (S 20 0 12)) G fM_104 (hA.lt (show 0 < hw_n0 20 by decide)) rfl dM_ticket_4 ?_
  refine hr_iconst (v := 1) G dM_ticket_7 (by decide) ?_
  refine hr_isub G dM_ticket_8 ?_
  refine hr_callSs G kM_90 sM_within (m_within_y _ _ _ _ _ (nI s) 0 ((S 20 0 12) - 1) (nI_pos (by omega)) (show nI s ≤ S 20 0 12 - 1 by rw [hc]; exact nI_lt_p hs (by omega))) rfl rfl (Nat.le_of_ble_eq_true rfl) ⟨by rw [hR]; decide, by rw [hR]; decide⟩ ⟨by rw [hR]; decide, by rw [hR]; decide⟩ dM_ticket_9 ?_
  refine hr_if_eq (tgt := 23) G dM_ticket_12 (by decide) (fun h => absurd h (by decide)) (fun _ => ?_)
  refine hr_aload_n G dM_ticket_15 rfl rfl ?_
  refine hr_iload_n G dM_ticket_16 rfl rfl ?_
  refine hr_callVs (k := 20) (i := 0) G rfl rfl (hA.lt (show 0 < hw_n0 20 by decide)) kM_114 iM_enabled vM_enabled (m_M_enabled _ _ _ _ _ hA hF v) rfl rfl (Nat.le_of_ble_eq_true rfl) ⟨by rw [hR]; decide, by rw [hR]; decide⟩ ⟨by rw [hR]; decide, by rw [hR]; decide⟩ dM_ticket_17 ?_
  refine hr_if_ne (tgt := 27) G dM_ticket_20 (by decide) (fun _ => ?_) (fun h => absurd h hv)
  refine hr_aload_n G dM_ticket_27 rfl rfl ?_
  refine hr_get (v := .ref (hw_a B 34 0)) G fM_50 (hA.lt (show 0 < hw_n0 20 by decide)) (hw_rfx hF (by decide) rfl (by decide)) dM_ticket_28 ?_
  refine hr_iload_n G dM_ticket_31 rfl rfl ?_
  refine hr_zald (n := s) (v := .int (S 34 0 s)) G rfl (by decide) rfl (hA.lt (show 0 < hw_n0 34 by decide)) rfl (show s < 40 by omega) rfl dM_ticket_32 ?_
  refine hr_if_ne (tgt := 46) G dM_ticket_33 (by decide) (fun _ => ?_) (fun h => absurd h he)
  refine hr_iconst (v := 2) G dM_ticket_46 (by decide) ?_
  refine hr_goto (tgt := 51) G dM_ticket_47 (by decide) ?_
  refine hr_put (x := 2) G fM_87 (hA.lt (show 0 < hw_n0 20 by decide)) rfl (rfl) rfl dM_ticket_51 ?_
  refine hr_aload_n G dM_ticket_54 rfl rfl ?_
  refine hr_get (v := .int 2) G fM_87 (hA.lt (show 0 < hw_n0 20 by decide)) rfl dM_ticket_55 ?_
  refine hr_if_le (tgt := 63) G dM_ticket_58 (by decide) (fun h => absurd h (by decide)) (fun _ => ?_)
  refine hr_iconst (v := 0) G dM_ticket_61 (by decide) ?_
  exact hr_iret G hr (fun _ h => h) dM_ticket_62 hw_pi
set_option maxRecDepth 100000 in
set_option maxHeartbeats 1000000 in
theorem m_M_ticket_d (l : Launch) (B : hw_B) (nb : Nat → Nat) (S : hw_St) (z : Nat) (hA : hw_al nb) (hF : hw_Fx S) (s n : Nat) (hs : s < n) (hn : n ≤ 40) (hc : S 20 0 12 = nI n) (v : Int32) (hv : ¬ md_en S v = 0) (he : S 34 0 s = 0) (h150 : S 20 0 18 = 150) : hw_M l yM_ticket cM_ticket 3 (some .int) ({ frames := 2, cells := 0, slots := 0, locals := 50 }) B [.ref (hw_a B 20 0), .int (nI s), .int v] nb S z (hw_p (.inl (some (.int 0))) nb (hw_sv S 20 0 0 2) z) := by
  refine hw_M.of (by decide) (Nat.le_of_ble_eq_true rfl) ?_
  intro X fr hl hR G hr hnm
  refine hr_aload_n G dM_ticket_0 rfl rfl ?_
  refine hr_iload_n G dM_ticket_1 rfl rfl ?_
  refine hr_iconst (v := 0) G dM_ticket_2 (by decide) ?_
  refine hr_aload_n G dM_ticket_3 rfl rfl ?_
  refine hr_get (v := .int (S 20 0 12)) G fM_104 (hA.lt (show 0 < hw_n0 20 by decide)) rfl dM_ticket_4 ?_
  refine hr_iconst (v := 1) G dM_ticket_7 (by decide) ?_
  refine hr_isub G dM_ticket_8 ?_
  refine hr_callSs G kM_90 sM_within (m_within_y _ _ _ _ _ (nI s) 0 ((S 20 0 12) - 1) (nI_pos (by omega)) (show nI s ≤ S 20 0 12 - 1 by rw [hc]; exact nI_lt_p hs (by omega))) rfl rfl (Nat.le_of_ble_eq_true rfl) ⟨by rw [hR]; decide, by rw [hR]; decide⟩ ⟨by rw [hR]; decide, by rw [hR]; decide⟩ dM_ticket_9 ?_
  refine hr_if_eq (tgt := 23) G dM_ticket_12 (by decide) (fun h => absurd h (by decide)) (fun _ => ?_)
  refine hr_aload_n G dM_ticket_15 rfl rfl ?_
  refine hr_iload_n G dM_ticket_16 rfl rfl ?_
  refine hr_callVs (k := 20) (i := 0) G rfl rfl (hA.lt (show 0 < hw_n0 20 by decide)) kM_114 iM_enabled vM_enabled (m_M_enabled _ _ _ _ _ hA hF v) rfl rfl (Nat.le_of_ble_eq_true rfl) ⟨by rw [hR]; decide, by rw [hR]; decide⟩ ⟨by rw [hR]; decide, by rw [hR]; decide⟩ dM_ticket_17 ?_
  refine hr_if_ne (tgt := 27) G dM_ticket_20 (by decide) (fun _ => ?_) (fun h => absurd h hv)
  refine hr_aload_n G dM_ticket_27 rfl rfl ?_
  refine hr_get (v := .ref (hw_a B 34 0)) G fM_50 (hA.lt (show 0 < hw_n0 20 by decide)) (hw_rfx hF (by decide) rfl (by decide)) dM_ticket_28 ?_
  refine hr_iload_n G dM_ticket_31 rfl rfl ?_
  refine hr_zald (n := s) (v := .int (S 34 0 s)) G rfl (by decide) rfl (hA.lt (show 0 < hw_n0 34 by decide)) rfl (show s < 40 by omega) rfl dM_ticket_32 ?_
  refine hr_if_ne (tgt := 46) G dM_ticket_33 (by decide) (fun h => absurd he h) (fun _ => ?_)
  refine hr_aload_n G dM_ticket_36 rfl rfl ?_
  refine hr_get (v := .int (S 20 0 18)) G fM_111 (hA.lt (show 0 < hw_n0 20 by decide)) rfl dM_ticket_37 ?_
  refine hr_sipush (v := 150) G dM_ticket_40 (by decide) ?_
  refine hr_icmp_ne (tgt := 50) G dM_ticket_43 (by decide) (fun h => absurd h150 h) (fun _ => ?_)
  refine hr_iconst (v := 2) G dM_ticket_46 (by decide) ?_
  refine hr_goto (tgt := 51) G dM_ticket_47 (by decide) ?_
  refine hr_put (x := 2) G fM_87 (hA.lt (show 0 < hw_n0 20 by decide)) rfl (rfl) rfl dM_ticket_51 ?_
  refine hr_aload_n G dM_ticket_54 rfl rfl ?_
  refine hr_get (v := .int 2) G fM_87 (hA.lt (show 0 < hw_n0 20 by decide)) rfl dM_ticket_55 ?_
  refine hr_if_le (tgt := 63) G dM_ticket_58 (by decide) (fun h => absurd h (by decide)) (fun _ => ?_)
  refine hr_iconst (v := 0) G dM_ticket_61 (by decide) ?_
  exact hr_iret G hr (fun _ h => h) dM_ticket_62 hw_pi
set_option maxRecDepth 100000 in
set_option maxHeartbeats 1000000 in
theorem m_M_ticket_e (l : Launch) (B : hw_B) (nb : Nat → Nat) (S : hw_St) (z : Nat) (hA : hw_al nb) (hF : hw_Fx S) (s n : Nat) (hs : s < n) (hn : n ≤ 40) (hc : S 20 0 12 = nI n) (v : Int32) (hv : ¬ md_en S v = 0) (he : S 34 0 s = 0) (m : Nat) (hm : m < 150) (hc2 : S 20 0 18 = nI m) : hw_M l yM_ticket cM_ticket 3 (some .int) ({ frames := 2, cells := 0, slots := 0, locals := 50 }) B [.ref (hw_a B 20 0), .int (nI s), .int v] nb S z (hw_p (.inl (some (.int (nI m)))) nb (md_giv (hw_sv (hw_sv S 20 0 0 0) 32 0 s (S 20 0 1)) m 0 (nI s) v 0 (-1)) z) := by
  refine hw_M.of (by decide) (Nat.le_of_ble_eq_true rfl) ?_
  intro X fr hl hR G hr hnm
  refine hr_aload_n G dM_ticket_0 rfl rfl ?_
  refine hr_iload_n G dM_ticket_1 rfl rfl ?_
  refine hr_iconst (v := 0) G dM_ticket_2 (by decide) ?_
  refine hr_aload_n G dM_ticket_3 rfl rfl ?_
  refine hr_get (v := .int (S 20 0 12)) G fM_104 (hA.lt (show 0 < hw_n0 20 by decide)) rfl dM_ticket_4 ?_
  refine hr_iconst (v := 1) G dM_ticket_7 (by decide) ?_
  refine hr_isub G dM_ticket_8 ?_
  refine hr_callSs G kM_90 sM_within (m_within_y _ _ _ _ _ (nI s) 0 ((S 20 0 12) - 1) (nI_pos (by omega)) (show nI s ≤ S 20 0 12 - 1 by rw [hc]; exact nI_lt_p hs (by omega))) rfl rfl (Nat.le_of_ble_eq_true rfl) ⟨by rw [hR]; decide, by rw [hR]; decide⟩ ⟨by rw [hR]; decide, by rw [hR]; decide⟩ dM_ticket_9 ?_
  refine hr_if_eq (tgt := 23) G dM_ticket_12 (by decide) (fun h => absurd h (by decide)) (fun _ => ?_)
  refine hr_aload_n G dM_ticket_15 rfl rfl ?_
  refine hr_iload_n G dM_ticket_16 rfl rfl ?_
  refine hr_callVs (k := 20) (i := 0) G rfl rfl (hA.lt (show 0 < hw_n0 20 by decide)) kM_114 iM_enabled vM_enabled (m_M_enabled _ _ _ _ _ hA hF v) rfl rfl (Nat.le_of_ble_eq_true rfl) ⟨by rw [hR]; decide, by rw [hR]; decide⟩ ⟨by rw [hR]; decide, by rw [hR]; decide⟩ dM_ticket_17 ?_
  refine hr_if_ne (tgt := 27) G dM_ticket_20 (by decide) (fun _ => ?_) (fun h => absurd h hv)
  refine hr_aload_n G dM_ticket_27 rfl rfl ?_
  refine hr_get (v := .ref (hw_a B 34 0)) G fM_50 (hA.lt (show 0 < hw_n0 20 by decide)) (hw_rfx hF (by decide) rfl (by decide)) dM_ticket_28 ?_
  refine hr_iload_n G dM_ticket_31 rfl rfl ?_
  refine hr_zald (n := s) (v := .int (S 34 0 s)) G rfl (by decide) rfl (hA.lt (show 0 < hw_n0 34 by decide)) rfl (show s < 40 by omega) rfl dM_ticket_32 ?_
  refine hr_if_ne (tgt := 46) G dM_ticket_33 (by decide) (fun h => absurd he h) (fun _ => ?_)
  refine hr_aload_n G dM_ticket_36 rfl rfl ?_
  refine hr_get (v := .int (S 20 0 18)) G fM_111 (hA.lt (show 0 < hw_n0 20 by decide)) rfl dM_ticket_37 ?_
  refine hr_sipush (v := 150) G dM_ticket_40 (by decide) ?_
  refine hr_icmp_ne (tgt := 50) G dM_ticket_43 (by decide) (fun _ => ?_) (fun h => absurd h (show ¬ S 20 0 18 = 150 by rw [hc2]; exact fun q => absurd ((nI_eq (b := 150) (by omega) (by decide)).mp q) (by omega)))
  refine hr_iconst (v := 0) G dM_ticket_50 (by decide) ?_
  refine hr_put (x := 0) G fM_87 (hA.lt (show 0 < hw_n0 20 by decide)) rfl (rfl) rfl dM_ticket_51 ?_
  refine hr_aload_n G dM_ticket_54 rfl rfl ?_
  refine hr_get (v := .int 0) G fM_87 (hA.lt (show 0 < hw_n0 20 by decide)) rfl dM_ticket_55 ?_
  refine hr_if_le (tgt := 63) G dM_ticket_58 (by decide) (fun _ => ?_) (fun h => absurd (by decide) h)
  refine hr_aload_n G dM_ticket_63 rfl rfl ?_
  refine hr_get (v := .ref (hw_a B 32 0)) G fM_44 (hA.lt (show 0 < hw_n0 20 by decide)) (hw_rfx (hF.sv rfl) (by decide) rfl (by decide)) dM_ticket_64 ?_
  refine hr_iload_n G dM_ticket_67 rfl rfl ?_
  refine hr_aload_n G dM_ticket_68 rfl rfl ?_
  refine hr_get (v := .int (S 20 0 1)) G fM_97 (hA.lt (show 0 < hw_n0 20 by decide)) rfl dM_ticket_69 ?_
  refine hr_iast (n := s) (y := (S 20 0 1)) G rfl (by decide) rfl (hA.lt (show 0 < hw_n0 32 by decide)) rfl (show s < 40 by omega) rfl dM_ticket_72 ?_
  refine hr_aload_n G dM_ticket_73 rfl rfl ?_
  refine hr_iconst (v := 0) G dM_ticket_74 (by decide) ?_
  refine hr_iload_n G dM_ticket_75 rfl rfl ?_
  refine hr_iload_n G dM_ticket_76 rfl rfl ?_
  refine hr_iconst (v := 0) G dM_ticket_77 (by decide) ?_
  refine hr_iconst (v := -1) G dM_ticket_78 (by decide) ?_
  refine hr_callVs (k := 20) (i := 0) G rfl rfl (hA.lt (show 0 < hw_n0 20 by decide)) kM_118 iM_give vM_give (m_M_give _ _ _ (hw_sv (hw_sv S 20 0 0 0) 32 0 s (S 20 0 1)) _ hA ((hF.sv rfl).sv rfl) m hm hc2 0 (nI s) v 0 (-1) (Or.inl rfl)) rfl rfl (Nat.le_of_ble_eq_true rfl) ⟨by rw [hR]; decide, by rw [hR]; decide⟩ ⟨by rw [hR]; decide, by rw [hR]; decide⟩ dM_ticket_79 ?_
  exact hr_iret G hr (fun _ h => h) dM_ticket_82 hw_pi
set_option maxRecDepth 100000 in
set_option maxHeartbeats 1000000 in
theorem m_M_proxy_a (l : Launch) (B : hw_B) (nb : Nat → Nat) (S : hw_St) (z : Nat) (hA : hw_al nb) (hF : hw_Fx S) (x v : Int32) (hx : x < 0 ∨ ¬ x ≤ S 20 0 18 - 1) : hw_M l yM_proxy cM_proxy 3 (some .int) ({ frames := 2, cells := 0, slots := 0, locals := 50 }) B [.ref (hw_a B 20 0), .int x, .int v] nb S z (hw_p (.inl (some (.int 0))) nb (hw_sv S 20 0 0 1) z) := by
  refine hw_M.of (by decide) (Nat.le_of_ble_eq_true rfl) ?_
  intro X fr hl hR G hr hnm
  refine hr_aload_n G dM_proxy_0 rfl rfl ?_
  refine hr_iload_n G dM_proxy_1 rfl rfl ?_
  refine hr_iconst (v := 0) G dM_proxy_2 (by decide) ?_
  refine hr_aload_n G dM_proxy_3 rfl rfl ?_
  refine hr_get (v := .int (S 20 0 18)) G fM_111 (hA.lt (show 0 < hw_n0 20 by decide)) rfl dM_proxy_4 ?_
  refine hr_iconst (v := 1) G dM_proxy_7 (by decide) ?_
  refine hr_isub G dM_proxy_8 ?_
  refine hr_callSs G kM_90 sM_within (m_within_n _ _ _ _ _ x 0 ((S 20 0 18) - 1) hx) rfl rfl (Nat.le_of_ble_eq_true rfl) ⟨by rw [hR]; decide, by rw [hR]; decide⟩ ⟨by rw [hR]; decide, by rw [hR]; decide⟩ dM_proxy_9 ?_
  refine hr_if_eq (tgt := 33) G dM_proxy_12 (by decide) (fun _ => ?_) (fun h => absurd (by decide) h)
  refine hr_iconst (v := 1) G dM_proxy_33 (by decide) ?_
  refine hr_goto (tgt := 60) G dM_proxy_34 (by decide) ?_
  refine hr_put (x := 1) G fM_87 (hA.lt (show 0 < hw_n0 20 by decide)) rfl (rfl) rfl dM_proxy_60 ?_
  refine hr_aload_n G dM_proxy_63 rfl rfl ?_
  refine hr_get (v := .int 1) G fM_87 (hA.lt (show 0 < hw_n0 20 by decide)) rfl dM_proxy_64 ?_
  refine hr_if_le (tgt := 72) G dM_proxy_67 (by decide) (fun h => absurd h (by decide)) (fun _ => ?_)
  refine hr_iconst (v := 0) G dM_proxy_70 (by decide) ?_
  exact hr_iret G hr (fun _ h => h) dM_proxy_71 hw_pi
set_option maxRecDepth 100000 in
set_option maxHeartbeats 1000000 in
theorem m_M_proxy_b (l : Launch) (B : hw_B) (nb : Nat → Nat) (S : hw_St) (z : Nat) (hA : hw_al nb) (hF : hw_Fx S) (t m : Nat) (ht : t < m) (hm : m ≤ 150) (hc2 : S 20 0 18 = nI m) (v : Int32) (hk : ¬ S 35 0 t = 2) : hw_M l yM_proxy cM_proxy 3 (some .int) ({ frames := 2, cells := 0, slots := 0, locals := 50 }) B [.ref (hw_a B 20 0), .int (nI t), .int v] nb S z (hw_p (.inl (some (.int 0))) nb (hw_sv S 20 0 0 1) z) := by
  refine hw_M.of (by decide) (Nat.le_of_ble_eq_true rfl) ?_
  intro X fr hl hR G hr hnm
  refine hr_aload_n G dM_proxy_0 rfl rfl ?_
  refine hr_iload_n G dM_proxy_1 rfl rfl ?_
  refine hr_iconst (v := 0) G dM_proxy_2 (by decide) ?_
  refine hr_aload_n G dM_proxy_3 rfl rfl ?_
  refine hr_get (v := .int (S 20 0 18)) G fM_111 (hA.lt (show 0 < hw_n0 20 by decide)) rfl dM_proxy_4 ?_
  refine hr_iconst (v := 1) G dM_proxy_7 (by decide) ?_
  refine hr_isub G dM_proxy_8 ?_
  refine hr_callSs G kM_90 sM_within (m_within_y _ _ _ _ _ (nI t) 0 ((S 20 0 18) - 1) (nI_pos (by omega)) (show nI t ≤ S 20 0 18 - 1 by rw [hc2]; exact nI_lt_p ht (by omega))) rfl rfl (Nat.le_of_ble_eq_true rfl) ⟨by rw [hR]; decide, by rw [hR]; decide⟩ ⟨by rw [hR]; decide, by rw [hR]; decide⟩ dM_proxy_9 ?_
  refine hr_if_eq (tgt := 33) G dM_proxy_12 (by decide) (fun h => absurd h (by decide)) (fun _ => ?_)
  refine hr_aload_n G dM_proxy_15 rfl rfl ?_
  refine hr_get (v := .ref (hw_a B 35 0)) G fM_53 (hA.lt (show 0 < hw_n0 20 by decide)) (hw_rfx hF (by decide) rfl (by decide)) dM_proxy_16 ?_
  refine hr_iload_n G dM_proxy_19 rfl rfl ?_
  refine hr_iald (n := t) (v := .int (S 35 0 t)) G rfl (by decide) rfl (hA.lt (show 0 < hw_n0 35 by decide)) rfl (show t < 150 by omega) rfl dM_proxy_20 ?_
  refine hr_iconst (v := 2) G dM_proxy_21 (by decide) ?_
  refine hr_icmp_ne (tgt := 33) G dM_proxy_22 (by decide) (fun _ => ?_) (fun h => absurd h hk)
  refine hr_iconst (v := 1) G dM_proxy_33 (by decide) ?_
  refine hr_goto (tgt := 60) G dM_proxy_34 (by decide) ?_
  refine hr_put (x := 1) G fM_87 (hA.lt (show 0 < hw_n0 20 by decide)) rfl (rfl) rfl dM_proxy_60 ?_
  refine hr_aload_n G dM_proxy_63 rfl rfl ?_
  refine hr_get (v := .int 1) G fM_87 (hA.lt (show 0 < hw_n0 20 by decide)) rfl dM_proxy_64 ?_
  refine hr_if_le (tgt := 72) G dM_proxy_67 (by decide) (fun h => absurd h (by decide)) (fun _ => ?_)
  refine hr_iconst (v := 0) G dM_proxy_70 (by decide) ?_
  exact hr_iret G hr (fun _ h => h) dM_proxy_71 hw_pi
set_option maxRecDepth 100000 in
set_option maxHeartbeats 1000000 in
theorem m_M_proxy_c (l : Launch) (B : hw_B) (nb : Nat → Nat) (S : hw_St) (z : Nat) (hA : hw_al nb) (hF : hw_Fx S) (t m : Nat) (ht : t < m) (hm : m ≤ 150) (hc2 : S 20 0 18 = nI m) (v : Int32) (hk : S 35 0 t = 2) (hv : md_en S v = 0) : hw_M l yM_proxy cM_proxy 3 (some .int) ({ frames := 2, cells := 0, slots := 0, locals := 50 }) B [.ref (hw_a B 20 0), .int (nI t), .int v] nb S z (hw_p (.inl (some (.int 0))) nb (hw_sv S 20 0 0 1) z) := by
  refine hw_M.of (by decide) (Nat.le_of_ble_eq_true rfl) ?_
  intro X fr hl hR G hr hnm
  refine hr_aload_n G dM_proxy_0 rfl rfl ?_
  refine hr_iload_n G dM_proxy_1 rfl rfl ?_
  refine hr_iconst (v := 0) G dM_proxy_2 (by decide) ?_
  refine hr_aload_n G dM_proxy_3 rfl rfl ?_
  refine hr_get (v := .int (S 20 0 18)) G fM_111 (hA.lt (show 0 < hw_n0 20 by decide)) rfl dM_proxy_4 ?_
  refine hr_iconst (v := 1) G dM_proxy_7 (by decide) ?_
  refine hr_isub G dM_proxy_8 ?_
  refine hr_callSs G kM_90 sM_within (m_within_y _ _ _ _ _ (nI t) 0 ((S 20 0 18) - 1) (nI_pos (by omega)) (show nI t ≤ S 20 0 18 - 1 by rw [hc2]; exact nI_lt_p ht (by omega))) rfl rfl (Nat.le_of_ble_eq_true rfl) ⟨by rw [hR]; decide, by rw [hR]; decide⟩ ⟨by rw [hR]; decide, by rw [hR]; decide⟩ dM_proxy_9 ?_
  refine hr_if_eq (tgt := 33) G dM_proxy_12 (by decide) (fun h => absurd h (by decide)) (fun _ => ?_)
  refine hr_aload_n G dM_proxy_15 rfl rfl ?_
  refine hr_get (v := .ref (hw_a B 35 0)) G fM_53 (hA.lt (show 0 < hw_n0 20 by decide)) (hw_rfx hF (by decide) rfl (by decide)) dM_proxy_16 ?_
  refine hr_iload_n G dM_proxy_19 rfl rfl ?_
  refine hr_iald (n := t) (v := .int (S 35 0 t)) G rfl (by decide) rfl (hA.lt (show 0 < hw_n0 35 by decide)) rfl (show t < 150 by omega) rfl dM_proxy_20 ?_
  refine hr_iconst (v := 2) G dM_proxy_21 (by decide) ?_
  refine hr_icmp_ne (tgt := 33) G dM_proxy_22 (by decide) (fun h => absurd hk h) (fun _ => ?_)
  refine hr_aload_n G dM_proxy_25 rfl rfl ?_
  refine hr_iload_n G dM_proxy_26 rfl rfl ?_
  refine hr_callVs (k := 20) (i := 0) G rfl rfl (hA.lt (show 0 < hw_n0 20 by decide)) kM_114 iM_enabled vM_enabled (m_M_enabled _ _ _ _ _ hA hF v) rfl rfl (Nat.le_of_ble_eq_true rfl) ⟨by rw [hR]; decide, by rw [hR]; decide⟩ ⟨by rw [hR]; decide, by rw [hR]; decide⟩ dM_proxy_27 ?_
  refine hr_if_ne (tgt := 37) G dM_proxy_30 (by decide) (fun h => absurd hv h) (fun _ => ?_)
  refine hr_iconst (v := 1) G dM_proxy_33 (by decide) ?_
  refine hr_goto (tgt := 60) G dM_proxy_34 (by decide) ?_
  refine hr_put (x := 1) G fM_87 (hA.lt (show 0 < hw_n0 20 by decide)) rfl (rfl) rfl dM_proxy_60 ?_
  refine hr_aload_n G dM_proxy_63 rfl rfl ?_
  refine hr_get (v := .int 1) G fM_87 (hA.lt (show 0 < hw_n0 20 by decide)) rfl dM_proxy_64 ?_
  refine hr_if_le (tgt := 72) G dM_proxy_67 (by decide) (fun h => absurd h (by decide)) (fun _ => ?_)
  refine hr_iconst (v := 0) G dM_proxy_70 (by decide) ?_
  exact hr_iret G hr (fun _ h => h) dM_proxy_71 hw_pi
set_option maxRecDepth 100000 in
set_option maxHeartbeats 1000000 in
theorem m_M_proxy_d (l : Launch) (B : hw_B) (nb : Nat → Nat) (S : hw_St) (z : Nat) (hA : hw_al nb) (hF : hw_Fx S) (t m : Nat) (ht : t < m) (hm : m ≤ 150) (hc2 : S 20 0 18 = nI m) (v : Int32) (hk : S 35 0 t = 2) (hv : ¬ md_en S v = 0) (s : Nat) (hs : s < 40) (hts : S 36 0 t = nI s) (hg : md_good S t s = 0) : hw_M l yM_proxy cM_proxy 3 (some .int) ({ frames := 2, cells := 0, slots := 0, locals := 50 }) B [.ref (hw_a B 20 0), .int (nI t), .int v] nb S z (hw_p (.inl (some (.int 0))) nb (hw_sv S 20 0 0 2) z) := by
  refine hw_M.of (by decide) (Nat.le_of_ble_eq_true rfl) ?_
  intro X fr hl hR G hr hnm
  refine hr_aload_n G dM_proxy_0 rfl rfl ?_
  refine hr_iload_n G dM_proxy_1 rfl rfl ?_
  refine hr_iconst (v := 0) G dM_proxy_2 (by decide) ?_
  refine hr_aload_n G dM_proxy_3 rfl rfl ?_
  refine hr_get (v := .int (S 20 0 18)) G fM_111 (hA.lt (show 0 < hw_n0 20 by decide)) rfl dM_proxy_4 ?_
  refine hr_iconst (v := 1) G dM_proxy_7 (by decide) ?_
  refine hr_isub G dM_proxy_8 ?_
  refine hr_callSs G kM_90 sM_within (m_within_y _ _ _ _ _ (nI t) 0 ((S 20 0 18) - 1) (nI_pos (by omega)) (show nI t ≤ S 20 0 18 - 1 by rw [hc2]; exact nI_lt_p ht (by omega))) rfl rfl (Nat.le_of_ble_eq_true rfl) ⟨by rw [hR]; decide, by rw [hR]; decide⟩ ⟨by rw [hR]; decide, by rw [hR]; decide⟩ dM_proxy_9 ?_
  refine hr_if_eq (tgt := 33) G dM_proxy_12 (by decide) (fun h => absurd h (by decide)) (fun _ => ?_)
  refine hr_aload_n G dM_proxy_15 rfl rfl ?_
  refine hr_get (v := .ref (hw_a B 35 0)) G fM_53 (hA.lt (show 0 < hw_n0 20 by decide)) (hw_rfx hF (by decide) rfl (by decide)) dM_proxy_16 ?_
  refine hr_iload_n G dM_proxy_19 rfl rfl ?_
  refine hr_iald (n := t) (v := .int (S 35 0 t)) G rfl (by decide) rfl (hA.lt (show 0 < hw_n0 35 by decide)) rfl (show t < 150 by omega) rfl dM_proxy_20 ?_
  refine hr_iconst (v := 2) G dM_proxy_21 (by decide) ?_
  refine hr_icmp_ne (tgt := 33) G dM_proxy_22 (by decide) (fun h => absurd hk h) (fun _ => ?_)
  refine hr_aload_n G dM_proxy_25 rfl rfl ?_
  refine hr_iload_n G dM_proxy_26 rfl rfl ?_
  refine hr_callVs (k := 20) (i := 0) G rfl rfl (hA.lt (show 0 < hw_n0 20 by decide)) kM_114 iM_enabled vM_enabled (m_M_enabled _ _ _ _ _ hA hF v) rfl rfl (Nat.le_of_ble_eq_true rfl) ⟨by rw [hR]; decide, by rw [hR]; decide⟩ ⟨by rw [hR]; decide, by rw [hR]; decide⟩ dM_proxy_27 ?_
  refine hr_if_ne (tgt := 37) G dM_proxy_30 (by decide) (fun _ => ?_) (fun h => absurd h hv)
  refine hr_aload_n G dM_proxy_37 rfl rfl ?_
  refine hr_iload_n G dM_proxy_38 rfl rfl ?_
  refine hr_callVs (k := 20) (i := 0) G rfl rfl (hA.lt (show 0 < hw_n0 20 by decide)) kM_122 iM_good vM_good (m_M_good _ _ _ _ _ hA hF t s (by omega) hs hts) rfl rfl (Nat.le_of_ble_eq_true rfl) ⟨by rw [hR]; decide, by rw [hR]; decide⟩ ⟨by rw [hR]; decide, by rw [hR]; decide⟩ dM_proxy_39 ?_
  refine hr_if_eq (tgt := 55) G dM_proxy_42 (by decide) (fun _ => ?_) (fun h => absurd hg h)
  refine hr_iconst (v := 2) G dM_proxy_55 (by decide) ?_
  refine hr_goto (tgt := 60) G dM_proxy_56 (by decide) ?_
  refine hr_put (x := 2) G fM_87 (hA.lt (show 0 < hw_n0 20 by decide)) rfl (rfl) rfl dM_proxy_60 ?_
  refine hr_aload_n G dM_proxy_63 rfl rfl ?_
  refine hr_get (v := .int 2) G fM_87 (hA.lt (show 0 < hw_n0 20 by decide)) rfl dM_proxy_64 ?_
  refine hr_if_le (tgt := 72) G dM_proxy_67 (by decide) (fun h => absurd h (by decide)) (fun _ => ?_)
  refine hr_iconst (v := 0) G dM_proxy_70 (by decide) ?_
  exact hr_iret G hr (fun _ h => h) dM_proxy_71 hw_pi
set_option maxRecDepth 100000 in
set_option maxHeartbeats 1000000 in
theorem m_M_proxy_e (l : Launch) (B : hw_B) (nb : Nat → Nat) (S : hw_St) (z : Nat) (hA : hw_al nb) (hF : hw_Fx S) (t m : Nat) (ht : t < m) (hm : m ≤ 150) (hc2 : S 20 0 18 = nI m) (v : Int32) (hk : S 35 0 t = 2) (hv : ¬ md_en S v = 0) (s : Nat) (hs : s < 40) (hts : S 36 0 t = nI s) (hg : ¬ md_good S t s = 0) (h150 : S 20 0 18 = 150) : hw_M l yM_proxy cM_proxy 3 (some .int) ({ frames := 2, cells := 0, slots := 0, locals := 50 }) B [.ref (hw_a B 20 0), .int (nI t), .int v] nb S z (hw_p (.inl (some (.int 0))) nb (hw_sv S 20 0 0 2) z) := by
  refine hw_M.of (by decide) (Nat.le_of_ble_eq_true rfl) ?_
  intro X fr hl hR G hr hnm
  refine hr_aload_n G dM_proxy_0 rfl rfl ?_
  refine hr_iload_n G dM_proxy_1 rfl rfl ?_
  refine hr_iconst (v := 0) G dM_proxy_2 (by decide) ?_
  refine hr_aload_n G dM_proxy_3 rfl rfl ?_
  refine hr_get (v := .int (S 20 0 18)) G fM_111 (hA.lt (show 0 < hw_n0 20 by decide)) rfl dM_proxy_4 ?_
  refine hr_iconst (v := 1) G dM_proxy_7 (by decide) ?_
  refine hr_isub G dM_proxy_8 ?_
  refine hr_callSs G kM_90 sM_within (m_within_y _ _ _ _ _ (nI t) 0 ((S 20 0 18) - 1) (nI_pos (by omega)) (show nI t ≤ S 20 0 18 - 1 by rw [hc2]; exact nI_lt_p ht (by omega))) rfl rfl (Nat.le_of_ble_eq_true rfl) ⟨by rw [hR]; decide, by rw [hR]; decide⟩ ⟨by rw [hR]; decide, by rw [hR]; decide⟩ dM_proxy_9 ?_
  refine hr_if_eq (tgt := 33) G dM_proxy_12 (by decide) (fun h => absurd h (by decide)) (fun _ => ?_)
  refine hr_aload_n G dM_proxy_15 rfl rfl ?_
  refine hr_get (v := .ref (hw_a B 35 0)) G fM_53 (hA.lt (show 0 < hw_n0 20 by decide)) (hw_rfx hF (by decide) rfl (by decide)) dM_proxy_16 ?_
  refine hr_iload_n G dM_proxy_19 rfl rfl ?_
  refine hr_iald (n := t) (v := .int (S 35 0 t)) G rfl (by decide) rfl (hA.lt (show 0 < hw_n0 35 by decide)) rfl (show t < 150 by omega) rfl dM_proxy_20 ?_
  refine hr_iconst (v := 2) G dM_proxy_21 (by decide) ?_
  refine hr_icmp_ne (tgt := 33) G dM_proxy_22 (by decide) (fun h => absurd hk h) (fun _ => ?_)
  refine hr_aload_n G dM_proxy_25 rfl rfl ?_
  refine hr_iload_n G dM_proxy_26 rfl rfl ?_
  refine hr_callVs (k := 20) (i := 0) G rfl rfl (hA.lt (show 0 < hw_n0 20 by decide)) kM_114 iM_enabled vM_enabled (m_M_enabled _ _ _ _ _ hA hF v) rfl rfl (Nat.le_of_ble_eq_true rfl) ⟨by rw [hR]; decide, by rw [hR]; decide⟩ ⟨by rw [hR]; decide, by rw [hR]; decide⟩ dM_proxy_27 ?_
  refine hr_if_ne (tgt := 37) G dM_proxy_30 (by decide) (fun _ => ?_) (fun h => absurd h hv)
  refine hr_aload_n G dM_proxy_37 rfl rfl ?_
  refine hr_iload_n G dM_proxy_38 rfl rfl ?_
  refine hr_callVs (k := 20) (i := 0) G rfl rfl (hA.lt (show 0 < hw_n0 20 by decide)) kM_122 iM_good vM_good (m_M_good _ _ _ _ _ hA hF t s (by omega) hs hts) rfl rfl (Nat.le_of_ble_eq_true rfl) ⟨by rw [hR]; decide, by rw [hR]; decide⟩ ⟨by rw [hR]; decide, by rw [hR]; decide⟩ dM_proxy_39 ?_
  refine hr_if_eq (tgt := 55) G dM_proxy_42 (by decide) (fun h => absurd h hg) (fun _ => ?_)
  refine hr_aload_n G dM_proxy_45 rfl rfl ?_
  refine hr_get (v := .int (S 20 0 18)) G fM_111 (hA.lt (show 0 < hw_n0 20 by decide)) rfl dM_proxy_46 ?_
  refine hr_sipush (v := 150) G dM_proxy_49 (by decide) ?_
  refine hr_icmp_ne (tgt := 59) G dM_proxy_52 (by decide) (fun h => absurd h150 h) (fun _ => ?_)
  refine hr_iconst (v := 2) G dM_proxy_55 (by decide) ?_
  refine hr_goto (tgt := 60) G dM_proxy_56 (by decide) ?_
  refine hr_put (x := 2) G fM_87 (hA.lt (show 0 < hw_n0 20 by decide)) rfl (rfl) rfl dM_proxy_60 ?_
  refine hr_aload_n G dM_proxy_63 rfl rfl ?_
  refine hr_get (v := .int 2) G fM_87 (hA.lt (show 0 < hw_n0 20 by decide)) rfl dM_proxy_64 ?_
  refine hr_if_le (tgt := 72) G dM_proxy_67 (by decide) (fun h => absurd h (by decide)) (fun _ => ?_)
  refine hr_iconst (v := 0) G dM_proxy_70 (by decide) ?_
  exact hr_iret G hr (fun _ h => h) dM_proxy_71 hw_pi
set_option maxRecDepth 100000 in
set_option maxHeartbeats 1000000 in
theorem m_M_proxy_f (l : Launch) (B : hw_B) (nb : Nat → Nat) (S : hw_St) (z : Nat) (hA : hw_al nb) (hF : hw_Fx S) (t m : Nat) (ht : t < m) (hm : m < 150) (hc2 : S 20 0 18 = nI m) (v : Int32) (hk : S 35 0 t = 2) (hv : ¬ md_en S v = 0) (s : Nat) (hs : s < 40) (hts : S 36 0 t = nI s) (hg : ¬ md_good S t s = 0) : hw_M l yM_proxy cM_proxy 3 (some .int) ({ frames := 2, cells := 0, slots := 0, locals := 50 }) B [.ref (hw_a B 20 0), .int (nI t), .int v] nb S z (hw_p (.inl (some (.int (nI m)))) nb (md_giv (hw_sv (hw_sv S 20 0 0 0) 32 0 s (S 20 0 1)) m 1 (S 36 0 t) v 0 (nI t)) z) := by
  refine hw_M.of (by decide) (Nat.le_of_ble_eq_true rfl) ?_
  intro X fr hl hR G hr hnm
  refine hr_aload_n G dM_proxy_0 rfl rfl ?_
  refine hr_iload_n G dM_proxy_1 rfl rfl ?_
  refine hr_iconst (v := 0) G dM_proxy_2 (by decide) ?_
  refine hr_aload_n G dM_proxy_3 rfl rfl ?_
  refine hr_get (v := .int (S 20 0 18)) G fM_111 (hA.lt (show 0 < hw_n0 20 by decide)) rfl dM_proxy_4 ?_
  refine hr_iconst (v := 1) G dM_proxy_7 (by decide) ?_
  refine hr_isub G dM_proxy_8 ?_
  refine hr_callSs G kM_90 sM_within (m_within_y _ _ _ _ _ (nI t) 0 ((S 20 0 18) - 1) (nI_pos (by omega)) (show nI t ≤ S 20 0 18 - 1 by rw [hc2]; exact nI_lt_p ht (by omega))) rfl rfl (Nat.le_of_ble_eq_true rfl) ⟨by rw [hR]; decide, by rw [hR]; decide⟩ ⟨by rw [hR]; decide, by rw [hR]; decide⟩ dM_proxy_9 ?_
  refine hr_if_eq (tgt := 33) G dM_proxy_12 (by decide) (fun h => absurd h (by decide)) (fun _ => ?_)
  refine hr_aload_n G dM_proxy_15 rfl rfl ?_
  refine hr_get (v := .ref (hw_a B 35 0)) G fM_53 (hA.lt (show 0 < hw_n0 20 by decide)) (hw_rfx hF (by decide) rfl (by decide)) dM_proxy_16 ?_
  refine hr_iload_n G dM_proxy_19 rfl rfl ?_
  refine hr_iald (n := t) (v := .int (S 35 0 t)) G rfl (by decide) rfl (hA.lt (show 0 < hw_n0 35 by decide)) rfl (show t < 150 by omega) rfl dM_proxy_20 ?_
  refine hr_iconst (v := 2) G dM_proxy_21 (by decide) ?_
  refine hr_icmp_ne (tgt := 33) G dM_proxy_22 (by decide) (fun h => absurd hk h) (fun _ => ?_)
  refine hr_aload_n G dM_proxy_25 rfl rfl ?_
  refine hr_iload_n G dM_proxy_26 rfl rfl ?_
  refine hr_callVs (k := 20) (i := 0) G rfl rfl (hA.lt (show 0 < hw_n0 20 by decide)) kM_114 iM_enabled vM_enabled (m_M_enabled _ _ _ _ _ hA hF v) rfl rfl (Nat.le_of_ble_eq_true rfl) ⟨by rw [hR]; decide, by rw [hR]; decide⟩ ⟨by rw [hR]; decide, by rw [hR]; decide⟩ dM_proxy_27 ?_
  refine hr_if_ne (tgt := 37) G dM_proxy_30 (by decide) (fun _ => ?_) (fun h => absurd h hv)
  refine hr_aload_n G dM_proxy_37 rfl rfl ?_
  refine hr_iload_n G dM_proxy_38 rfl rfl ?_
  refine hr_callVs (k := 20) (i := 0) G rfl rfl (hA.lt (show 0 < hw_n0 20 by decide)) kM_122 iM_good vM_good (m_M_good _ _ _ _ _ hA hF t s (by omega) hs hts) rfl rfl (Nat.le_of_ble_eq_true rfl) ⟨by rw [hR]; decide, by rw [hR]; decide⟩ ⟨by rw [hR]; decide, by rw [hR]; decide⟩ dM_proxy_39 ?_
  refine hr_if_eq (tgt := 55) G dM_proxy_42 (by decide) (fun h => absurd h hg) (fun _ => ?_)
  refine hr_aload_n G dM_proxy_45 rfl rfl ?_
  refine hr_get (v := .int (S 20 0 18)) G fM_111 (hA.lt (show 0 < hw_n0 20 by decide)) rfl dM_proxy_46 ?_
  refine hr_sipush (v := 150) G dM_proxy_49 (by decide) ?_
  refine hr_icmp_ne (tgt := 59) G dM_proxy_52 (by decide) (fun _ => ?_) (fun h => absurd h (show ¬ S 20 0 18 = 150 by rw [hc2]; exact fun q => absurd ((nI_eq (b := 150) (by omega) (by decide)).mp q) (by omega)))
  refine hr_iconst (v := 0) G dM_proxy_59 (by decide) ?_
  refine hr_put (x := 0) G fM_87 (hA.lt (show 0 < hw_n0 20 by decide)) rfl (rfl) rfl dM_proxy_60 ?_
  refine hr_aload_n G dM_proxy_63 rfl rfl ?_
  refine hr_get (v := .int 0) G fM_87 (hA.lt (show 0 < hw_n0 20 by decide)) rfl dM_proxy_64 ?_
  refine hr_if_le (tgt := 72) G dM_proxy_67 (by decide) (fun _ => ?_) (fun h => absurd (by decide) h)
  refine hr_aload_n G dM_proxy_72 rfl rfl ?_
  refine hr_get (v := .ref (hw_a B 32 0)) G fM_44 (hA.lt (show 0 < hw_n0 20 by decide)) (hw_rfx (hF.sv rfl) (by decide) rfl (by decide)) dM_proxy_73 ?_
  refine hr_aload_n G dM_proxy_76 rfl rfl ?_
  refine hr_get (v := .ref (hw_a B 36 0)) G fM_56 (hA.lt (show 0 < hw_n0 20 by decide)) (hw_rfx (hF.sv rfl) (by decide) rfl (by decide)) dM_proxy_77 ?_
  refine hr_iload_n G dM_proxy_80 rfl rfl ?_
  refine hr_iald (n := t) (v := .int (S 36 0 t)) G rfl (by decide) rfl (hA.lt (show 0 < hw_n0 36 by decide)) rfl (show t < 150 by omega) rfl dM_proxy_81 ?_
  refine hr_aload_n G dM_proxy_82 rfl rfl ?_
  refine hr_get (v := .int (S 20 0 1)) G fM_97 (hA.lt (show 0 < hw_n0 20 by decide)) rfl dM_proxy_83 ?_
  refine hr_iast (n := s) (y := (S 20 0 1)) G rfl (by decide) rfl (hA.lt (show 0 < hw_n0 32 by decide)) hts (show s < 40 from hs) rfl dM_proxy_86 ?_
  refine hr_aload_n G dM_proxy_87 rfl rfl ?_
  refine hr_iconst (v := 1) G dM_proxy_88 (by decide) ?_
  refine hr_aload_n G dM_proxy_89 rfl rfl ?_
  refine hr_get (v := .ref (hw_a B 36 0)) G fM_56 (hA.lt (show 0 < hw_n0 20 by decide)) (hw_rfx ((hF.sv rfl).sv rfl) (by decide) rfl (by decide)) dM_proxy_90 ?_
  refine hr_iload_n G dM_proxy_93 rfl rfl ?_
  refine hr_iald (n := t) (v := .int (S 36 0 t)) G rfl (by decide) rfl (hA.lt (show 0 < hw_n0 36 by decide)) rfl (show t < 150 by omega) rfl dM_proxy_94 ?_
  refine hr_iload_n G dM_proxy_95 rfl rfl ?_
  refine hr_iconst (v := 0) G dM_proxy_96 (by decide) ?_
  refine hr_iload_n G dM_proxy_97 rfl rfl ?_
  refine hr_callVs (k := 20) (i := 0) G rfl rfl (hA.lt (show 0 < hw_n0 20 by decide)) kM_118 iM_give vM_give (m_M_give _ _ _ (hw_sv (hw_sv S 20 0 0 0) 32 0 s (S 20 0 1)) _ hA ((hF.sv rfl).sv rfl) m hm hc2 1 (S 36 0 t) v 0 (nI t) (Or.inl rfl)) rfl rfl (Nat.le_of_ble_eq_true rfl) ⟨by rw [hR]; decide, by rw [hR]; decide⟩ ⟨by rw [hR]; decide, by rw [hR]; decide⟩ dM_proxy_98 ?_
  exact hr_iret G hr (fun _ h => h) dM_proxy_101 hw_pi
