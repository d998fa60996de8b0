/-! validate. -/
theorem m_K_jdg (l : Launch) (B : hw_B) (nb : Nat → Nat) (S : hw_St) (z : Nat) (i s : Nat) (hi : i < nb 11) (hs : s < nb 9) (h31 : s < 2 ^ 31) (hS : S 11 i 2 = nI s) (x y t J : Int32) (h : tk_judge S i s x y t = J) : hw_M l yK_judge cK_judge 4 (some .int) ({ frames := 1, cells := 0, slots := 0, locals := 22 }) B [.ref (hw_a B 11 i), .int x, .int y, .int t] nb S z (hw_p (.inl (some (.int J))) nb S z) := by
  rw [← h]; exact m_K_judge l B nb S z i s hi hs h31 hS x y t
set_option maxRecDepth 100000 in
set_option maxHeartbeats 1000000 in
theorem m_H_validate_a (l : Launch) (hst : l.stackTraces = false) (B : hw_B) (nb : Nat → Nat) (S : hw_St) (z : Nat) (x v h c : Int32) (hx : h < 0 ∨ 7 < h ∨ c < 0 ∨ ¬ c ≤ 5) (hI : ic nb S) : hw_MX l yH_validate cH_validate 7 (some .int) ({ frames := 9, cells := 1, slots := 9, locals := 200 }) B [.ref (hw_a B 0 0), .int x, .int v, .int h, .int c] nb S z (hw_qp (.inr "java/lang/IllegalArgumentException") nb S) := by
  refine hw_MX.of (by decide) (Nat.le_of_ble_eq_true rfl) ?_
  intro X fr hl hR G hr htab
  obtain ⟨hA, hF, ⟨hn9, hc9⟩, ⟨hn11, hc11⟩, ⟨nm, hnm1, hnm2⟩, hT, hSe, hTi, hU, hW0, hW⟩ := hI
  refine hr_iload_n G dH_validate_0 rfl rfl ?_
  refine hr_if_lt (tgt := 21) G dH_validate_1 (by decide) (fun h1 => ?_) (fun h1 => ?_)
  · skip
    exact hr_throw (E := "java/lang/IllegalArgumentException") (names := ["java/lang/RuntimeException", "java/lang/Exception"]) (si := 13) G (by rw [hl]; exact hst) htab (by decide) (by decide) qH_51 in_IAE rfl at_IAE go_IAE dH_validate_21 dH_validate_24 dH_validate_25 dH_validate_27 dH_validate_30 (by rw [hR]; decide) (by rw [hR]; decide) (by rw [hR]; decide) (by rw [hR]; decide) (by decide) (by decide) (fun _ _ => ⟨rfl, rfl, eqv.rf hT⟩)
  · skip
    refine hr_iload_n G dH_validate_4 rfl rfl ?_
    refine hr_bipush (v := 7) G dH_validate_5 (by decide) ?_
    refine hr_icmp_gt (tgt := 21) G dH_validate_7 (by decide) (fun h7 => ?_) (fun h7 => ?_)
    · skip
      exact hr_throw (E := "java/lang/IllegalArgumentException") (names := ["java/lang/RuntimeException", "java/lang/Exception"]) (si := 13) G (by rw [hl]; exact hst) htab (by decide) (by decide) qH_51 in_IAE rfl at_IAE go_IAE dH_validate_21 dH_validate_24 dH_validate_25 dH_validate_27 dH_validate_30 (by rw [hR]; decide) (by rw [hR]; decide) (by rw [hR]; decide) (by rw [hR]; decide) (by decide) (by decide) (fun _ _ => ⟨rfl, rfl, eqv.rf hT⟩)
    · skip
      refine hr_iload G dH_validate_10 rfl ?_
      refine hr_if_lt (tgt := 21) G dH_validate_12 (by decide) (fun h12 => ?_) (fun h12 => ?_)
      · skip
        exact hr_throw (E := "java/lang/IllegalArgumentException") (names := ["java/lang/RuntimeException", "java/lang/Exception"]) (si := 13) G (by rw [hl]; exact hst) htab (by decide) (by decide) qH_51 in_IAE rfl at_IAE go_IAE dH_validate_21 dH_validate_24 dH_validate_25 dH_validate_27 dH_validate_30 (by rw [hR]; decide) (by rw [hR]; decide) (by rw [hR]; decide) (by rw [hR]; decide) (by decide) (by decide) (fun _ _ => ⟨rfl, rfl, eqv.rf hT⟩)
      · skip
        refine hr_iload G dH_validate_15 rfl ?_
        refine hr_iconst (v := 5) G dH_validate_17 (by decide) ?_
        refine hr_icmp_le (tgt := 31) G dH_validate_18 (by decide) (fun h => absurd h (((hx.resolve_left h1).resolve_left h7).resolve_left h12)) (fun _ => ?_)
        exact hr_throw (E := "java/lang/IllegalArgumentException") (names := ["java/lang/RuntimeException", "java/lang/Exception"]) (si := 13) G (by rw [hl]; exact hst) htab (by decide) (by decide) qH_51 in_IAE rfl at_IAE go_IAE dH_validate_21 dH_validate_24 dH_validate_25 dH_validate_27 dH_validate_30 (by rw [hR]; decide) (by rw [hR]; decide) (by rw [hR]; decide) (by rw [hR]; decide) (by decide) (by decide) (fun _ _ => ⟨rfl, rfl, eqv.rf hT⟩)
set_option maxRecDepth 100000 in
set_option maxHeartbeats 1000000 in
theorem m_H_validate_b (l : Launch) (hst : l.stackTraces = false) (B : hw_B) (nb : Nat → Nat) (S : hw_St) (z : Nat) (x : Int32) (v h : Int32) (c : Nat) (hc : c < 6) (hh1 : ¬ h < 0) (hh2 : ¬ 7 < h) (hx : x < 0 ∨ S 0 0 9 ≤ x) (hI : ic nb S) : hw_MX l yH_validate cH_validate 7 (some .int) ({ frames := 9, cells := 1, slots := 9, locals := 200 }) B [.ref (hw_a B 0 0), .int x, .int v, .int h, .int (nI c)] nb S z (hw_qp (.inl (some (.int 1))) nb S) := by
  refine hw_MX.of (by decide) (Nat.le_of_ble_eq_true rfl) ?_
  intro X fr hl hR G hr htab
  have hI0 := hI
  obtain ⟨hA, hF, ⟨hn9, hc9⟩, ⟨hn11, hc11⟩, ⟨nm, hnm1, hnm2⟩, hT, hSe, hTi, hU, hW0, hW⟩ := hI
  refine hr_iload_n G dH_validate_0 rfl rfl ?_
  refine hr_if_lt (tgt := 21) G dH_validate_1 (by decide) (fun h => absurd h hh1) (fun _ => ?_)
  refine hr_iload_n G dH_validate_4 rfl rfl ?_
  refine hr_bipush (v := 7) G dH_validate_5 (by decide) ?_
  refine hr_icmp_gt (tgt := 21) G dH_validate_7 (by decide) (fun h => absurd h hh2) (fun _ => ?_)
  refine hr_iload G dH_validate_10 rfl ?_
  refine hr_if_lt (tgt := 21) G dH_validate_12 (by decide) (fun h => absurd h (nI_pos (by omega))) (fun _ => ?_)
  refine hr_iload G dH_validate_15 rfl ?_
  refine hr_iconst (v := 5) G dH_validate_17 (by decide) ?_
  refine hr_icmp_le (tgt := 31) G dH_validate_18 (by decide) (fun _ => ?_) (fun h => absurd (show nI c ≤ 5 from nI_le (b := 5) (by omega) (by decide)) h)
  refine hr_aload_n G dH_validate_31 rfl rfl ?_
  refine hr_iload_n G dH_validate_32 rfl rfl ?_
  refine hr_callVs (k := 0) (i := 0) G rfl rfl (hA.lt (show 0 < hw_n0 0 by decide)) kH_153 iH_findTicket vH_findTicket (m_H_findTicket_n _ _ _ _ _ hA hF x hx) rfl rfl (Nat.le_of_ble_eq_true rfl) ⟨by rw [hR]; decide, by rw [hR]; decide⟩ ⟨by rw [hR]; decide, by rw [hR]; decide⟩ dH_validate_33 ?_
  refine hr_astoreN (i := 5) G dH_validate_36 (by decide) ?_
  refine hr_aloadN G dH_validate_38 rfl ?_
  refine hr_ifnullN (tgt := 51) G dH_validate_40 (by decide) ?_
  refine hr_aload_n G dH_validate_51 rfl rfl ?_
  refine hr_iconst (v := 1) G dH_validate_52 (by decide) ?_
  refine hr_iload_n G dH_validate_53 rfl rfl ?_
  refine hr_callV (k := 0) (i := 0) (ci := 0) (T := FH) (N := 12) G rfl rfl (hA.lt (show 0 < hw_n0 0 by decide)) kH_173 iH_refuse vH_refuse (m_H_refuse _ _ _ S _ 1 x hI0) rfl rfl (Nat.le_of_ble_eq_true rfl) ⟨by rw [hR]; decide, by rw [hR]; decide⟩ ⟨by rw [hR]; decide, by rw [hR]; decide⟩ dH_validate_54 (fun r nb2 S2 z2 hp => ?_)
  obtain ⟨hr1, rfl, hr2, rfl⟩ := hp
  obtain rfl := Sum.inl.inj hr1
  refine hr_wide (c' := 1) (sl' := 9) (Nat.le_of_ble_eq_true rfl) (Nat.le_of_ble_eq_true rfl) ?_
  exact hr_iret G hr hw_QX.of dH_validate_57 ⟨rfl, rfl, eqv_17 hr2 hT⟩
set_option maxRecDepth 100000 in
set_option maxHeartbeats 1000000 in
theorem m_H_validate_c (l : Launch) (hst : l.stackTraces = false) (B : hw_B) (nb : Nat → Nat) (S : hw_St) (z : Nat) (i : Nat) (v h : Int32) (c : Nat) (hc : c < 6) (hh1 : ¬ h < 0) (hh2 : ¬ 7 < h) (hi : i < nb 11) (hv : hs_en S v = 0) (hI : ic nb S) : hw_MX l yH_validate cH_validate 7 (some .int) ({ frames := 9, cells := 1, slots := 9, locals := 200 }) B [.ref (hw_a B 0 0), .int (nI i), .int v, .int h, .int (nI c)] nb S z (hw_qp (.inl (some (.int 1))) nb S) := by
  refine hw_MX.of (by decide) (Nat.le_of_ble_eq_true rfl) ?_
  intro X fr hl hR G hr htab
  have hI0 := hI
  obtain ⟨hA, hF, ⟨hn9, hc9⟩, ⟨hn11, hc11⟩, ⟨nm, hnm1, hnm2⟩, hT, hSe, hTi, hU, hW0, hW⟩ := hI
  refine hr_iload_n G dH_validate_0 rfl rfl ?_
  refine hr_if_lt (tgt := 21) G dH_validate_1 (by decide) (fun h => absurd h hh1) (fun _ => ?_)
  refine hr_iload_n G dH_validate_4 rfl rfl ?_
  refine hr_bipush (v := 7) G dH_validate_5 (by decide) ?_
  refine hr_icmp_gt (tgt := 21) G dH_validate_7 (by decide) (fun h => absurd h hh2) (fun _ => ?_)
  refine hr_iload G dH_validate_10 rfl ?_
  refine hr_if_lt (tgt := 21) G dH_validate_12 (by decide) (fun h => absurd h (nI_pos (by omega))) (fun _ => ?_)
  refine hr_iload G dH_validate_15 rfl ?_
  refine hr_iconst (v := 5) G dH_validate_17 (by decide) ?_
  refine hr_icmp_le (tgt := 31) G dH_validate_18 (by decide) (fun _ => ?_) (fun h => absurd (show nI c ≤ 5 from nI_le (b := 5) (by omega) (by decide)) h)
  refine hr_aload_n G dH_validate_31 rfl rfl ?_
  refine hr_iload_n G dH_validate_32 rfl rfl ?_
  refine hr_callVs (k := 0) (i := 0) G rfl rfl (hA.lt (show 0 < hw_n0 0 by decide)) kH_153 iH_findTicket vH_findTicket (m_H_findTicket_y _ _ _ _ _ hA hF i (nb 11) hc11 hn11 hi (hTi i hi).1) rfl rfl (Nat.le_of_ble_eq_true rfl) ⟨by rw [hR]; decide, by rw [hR]; decide⟩ ⟨by rw [hR]; decide, by rw [hR]; decide⟩ dH_validate_33 ?_
  refine hr_astore (i := 5) G dH_validate_36 (by decide) ?_
  refine hr_aload G dH_validate_38 rfl ?_
  refine hr_ifnull G dH_validate_40 ?_
  refine hr_aload_n G dH_validate_43 rfl rfl ?_
  refine hr_iload_n G dH_validate_44 rfl rfl ?_
  refine hr_callVs (k := 0) (i := 0) G rfl rfl (hA.lt (show 0 < hw_n0 0 by decide)) kH_120 iH_isEnabled vH_isEnabled (m_H_isEnabled _ _ _ _ _ hA hF v) rfl rfl (Nat.le_of_ble_eq_true rfl) ⟨by rw [hR]; decide, by rw [hR]; decide⟩ ⟨by rw [hR]; decide, by rw [hR]; decide⟩ dH_validate_45 ?_
  refine hr_if_ne (tgt := 58) G dH_validate_48 (by decide) (fun h => absurd hv h) (fun _ => ?_)
  refine hr_aload_n G dH_validate_51 rfl rfl ?_
  refine hr_iconst (v := 1) G dH_validate_52 (by decide) ?_
  refine hr_iload_n G dH_validate_53 rfl rfl ?_
  refine hr_callV (k := 0) (i := 0) (ci := 0) (T := FH) (N := 12) G rfl rfl (hA.lt (show 0 < hw_n0 0 by decide)) kH_173 iH_refuse vH_refuse (m_H_refuse _ _ _ S _ 1 (nI i) hI0) rfl rfl (Nat.le_of_ble_eq_true rfl) ⟨by rw [hR]; decide, by rw [hR]; decide⟩ ⟨by rw [hR]; decide, by rw [hR]; decide⟩ dH_validate_54 (fun r nb2 S2 z2 hp => ?_)
  obtain ⟨hr1, rfl, hr2, rfl⟩ := hp
  obtain rfl := Sum.inl.inj hr1
  refine hr_wide (c' := 1) (sl' := 9) (Nat.le_of_ble_eq_true rfl) (Nat.le_of_ble_eq_true rfl) ?_
  exact hr_iret G hr hw_QX.of dH_validate_57 ⟨rfl, rfl, eqv_17 hr2 hT⟩
set_option maxRecDepth 100000 in
set_option maxHeartbeats 1000000 in
theorem m_H_validate_d (l : Launch) (hst : l.stackTraces = false) (B : hw_B) (nb : Nat → Nat) (S : hw_St) (z : Nat) (i s : Nat) (v h : Int32) (c : Nat) (hc : c < 6) (hh1 : ¬ h < 0) (hh2 : ¬ 7 < h) (hi : i < nb 11) (hs : s < nb 9) (hts : S 11 i 2 = nI s) (hv : ¬ hs_en S v = 0) (hJ : tk_judge S i s v h (S 0 0 11) = 2) (hI : ic nb S) : hw_MX l yH_validate cH_validate 7 (some .int) ({ frames := 9, cells := 1, slots := 9, locals := 200 }) B [.ref (hw_a B 0 0), .int (nI i), .int v, .int h, .int (nI c)] nb S z (hw_qp (.inl (some (.int 2))) nb S) := by
  refine hw_MX.of (by decide) (Nat.le_of_ble_eq_true rfl) ?_
  intro X fr hl hR G hr htab
  have hI0 := hI
  obtain ⟨hA, hF, ⟨hn9, hc9⟩, ⟨hn11, hc11⟩, ⟨nm, hnm1, hnm2⟩, hT, hSe, hTi, hU, hW0, hW⟩ := hI
  refine hr_iload_n G dH_validate_0 rfl rfl ?_
  refine hr_if_lt (tgt := 21) G dH_validate_1 (by decide) (fun h => absurd h hh1) (fun _ => ?_)
  refine hr_iload_n G dH_validate_4 rfl rfl ?_
  refine hr_bipush (v := 7) G dH_validate_5 (by decide) ?_
  refine hr_icmp_gt (tgt := 21) G dH_validate_7 (by decide) (fun h => absurd h hh2) (fun _ => ?_)
  refine hr_iload G dH_validate_10 rfl ?_
  refine hr_if_lt (tgt := 21) G dH_validate_12 (by decide) (fun h => absurd h (nI_pos (by omega))) (fun _ => ?_)
  refine hr_iload G dH_validate_15 rfl ?_
  refine hr_iconst (v := 5) G dH_validate_17 (by decide) ?_
  refine hr_icmp_le (tgt := 31) G dH_validate_18 (by decide) (fun _ => ?_) (fun h => absurd (show nI c ≤ 5 from nI_le (b := 5) (by omega) (by decide)) h)
  refine hr_aload_n G dH_validate_31 rfl rfl ?_
  refine hr_iload_n G dH_validate_32 rfl rfl ?_
  refine hr_callVs (k := 0) (i := 0) G rfl rfl (hA.lt (show 0 < hw_n0 0 by decide)) kH_153 iH_findTicket vH_findTicket (m_H_findTicket_y _ _ _ _ _ hA hF i (nb 11) hc11 hn11 hi (hTi i hi).1) rfl rfl (Nat.le_of_ble_eq_true rfl) ⟨by rw [hR]; decide, by rw [hR]; decide⟩ ⟨by rw [hR]; decide, by rw [hR]; decide⟩ dH_validate_33 ?_
  refine hr_astore (i := 5) G dH_validate_36 (by decide) ?_
  refine hr_aload G dH_validate_38 rfl ?_
  refine hr_ifnull G dH_validate_40 ?_
  refine hr_aload_n G dH_validate_43 rfl rfl ?_
  refine hr_iload_n G dH_validate_44 rfl rfl ?_
  refine hr_callVs (k := 0) (i := 0) G rfl rfl (hA.lt (show 0 < hw_n0 0 by decide)) kH_120 iH_isEnabled vH_isEnabled (m_H_isEnabled _ _ _ _ _ hA hF v) rfl rfl (Nat.le_of_ble_eq_true rfl) ⟨by rw [hR]; decide, by rw [hR]; decide⟩ ⟨by rw [hR]; decide, by rw [hR]; decide⟩ dH_validate_45 ?_
  refine hr_if_ne (tgt := 58) G dH_validate_48 (by decide) (fun _ => ?_) (fun h => absurd h hv)
  refine hr_aload G dH_validate_58 rfl ?_
  refine hr_iload_n G dH_validate_60 rfl rfl ?_
  refine hr_iload_n G dH_validate_61 rfl rfl ?_
  refine hr_aload_n G dH_validate_62 rfl rfl ?_
  refine hr_get (v := .int (S 0 0 11)) G fH_106 (hA.lt (show 0 < hw_n0 0 by decide)) rfl dH_validate_63 ?_
  refine hr_callVs (k := 11) (i := i) G rfl rfl hi kH_176 iK_judge vK_judge (m_K_jdg _ _ _ _ _ i s hi hs (by omega) hts v h (S 0 0 11) 2 hJ) rfl rfl (Nat.le_of_ble_eq_true rfl) ⟨by rw [hR]; decide, by rw [hR]; decide⟩ ⟨by rw [hR]; decide, by rw [hR]; decide⟩ dH_validate_66 ?_
  refine hr_istore (i := 6) G dH_validate_69 (by decide) ?_
  refine hr_iload G dH_validate_71 rfl ?_
  refine hr_iconst (v := 2) G dH_validate_73 (by decide) ?_
  refine hr_icmp_ne (tgt := 85) G dH_validate_74 (by decide) (fun h => absurd (by decide) h) (fun _ => ?_)
  refine hr_aload_n G dH_validate_77 rfl rfl ?_
  refine hr_iload G dH_validate_78 rfl ?_
  refine hr_iload_n G dH_validate_80 rfl rfl ?_
  refine hr_callV (k := 0) (i := 0) (ci := 0) (T := FH) (N := 12) G rfl rfl (hA.lt (show 0 < hw_n0 0 by decide)) kH_173 iH_refuse vH_refuse (m_H_refuse _ _ _ S _ 2 (nI i) hI0) rfl rfl (Nat.le_of_ble_eq_true rfl) ⟨by rw [hR]; decide, by rw [hR]; decide⟩ ⟨by rw [hR]; decide, by rw [hR]; decide⟩ dH_validate_81 (fun r nb2 S2 z2 hp => ?_)
  obtain ⟨hr1, rfl, hr2, rfl⟩ := hp
  obtain rfl := Sum.inl.inj hr1
  refine hr_wide (c' := 1) (sl' := 9) (Nat.le_of_ble_eq_true rfl) (Nat.le_of_ble_eq_true rfl) ?_
  exact hr_iret G hr hw_QX.of dH_validate_84 ⟨rfl, rfl, eqv_17 hr2 hT⟩
set_option maxRecDepth 100000 in
set_option maxHeartbeats 1000000 in
theorem m_H_validate_e (l : Launch) (hst : l.stackTraces = false) (B : hw_B) (nb : Nat → Nat) (S : hw_St) (z : Nat) (i s : Nat) (v h : Int32) (c : Nat) (hc : c < 6) (hh1 : ¬ h < 0) (hh2 : ¬ 7 < h) (hi : i < nb 11) (hs : s < nb 9) (hts : S 11 i 2 = nI s) (hv : ¬ hs_en S v = 0) (J : Int32) (hJ : tk_judge S i s v h (S 0 0 11) = J) (hJ2 : ¬ J = 2) (hJ0 : ¬ J = 0) (hI : ic nb S) : hw_MX l yH_validate cH_validate 7 (some .int) ({ frames := 9, cells := 1, slots := 9, locals := 200 }) B [.ref (hw_a B 0 0), .int (nI i), .int v, .int h, .int (nI c)] nb S z (hw_qp (.inl (some (.int J))) nb (hw_sv S 11 i 8 1)) := by
  refine hw_MX.of (by decide) (Nat.le_of_ble_eq_true rfl) ?_
  intro X fr hl hR G hr htab
  have hI0 := hI
  obtain ⟨hA, hF, ⟨hn9, hc9⟩, ⟨hn11, hc11⟩, ⟨nm, hnm1, hnm2⟩, hT, hSe, hTi, hU, hW0, hW⟩ := hI
  refine hr_iload_n G dH_validate_0 rfl rfl ?_
  refine hr_if_lt (tgt := 21) G dH_validate_1 (by decide) (fun h => absurd h hh1) (fun _ => ?_)
  refine hr_iload_n G dH_validate_4 rfl rfl ?_
  refine hr_bipush (v := 7) G dH_validate_5 (by decide) ?_
  refine hr_icmp_gt (tgt := 21) G dH_validate_7 (by decide) (fun h => absurd h hh2) (fun _ => ?_)
  refine hr_iload G dH_validate_10 rfl ?_
  refine hr_if_lt (tgt := 21) G dH_validate_12 (by decide) (fun h => absurd h (nI_pos (by omega))) (fun _ => ?_)
  refine hr_iload G dH_validate_15 rfl ?_
  refine hr_iconst (v := 5) G dH_validate_17 (by decide) ?_
  refine hr_icmp_le (tgt := 31) G dH_validate_18 (by decide) (fun _ => ?_) (fun h => absurd (show nI c ≤ 5 from nI_le (b := 5) (by omega) (by decide)) h)
  refine hr_aload_n G dH_validate_31 rfl rfl ?_
  refine hr_iload_n G dH_validate_32 rfl rfl ?_
  refine hr_callVs (k := 0) (i := 0) G rfl rfl (hA.lt (show 0 < hw_n0 0 by decide)) kH_153 iH_findTicket vH_findTicket (m_H_findTicket_y _ _ _ _ _ hA hF i (nb 11) hc11 hn11 hi (hTi i hi).1) rfl rfl (Nat.le_of_ble_eq_true rfl) ⟨by rw [hR]; decide, by rw [hR]; decide⟩ ⟨by rw [hR]; decide, by rw [hR]; decide⟩ dH_validate_33 ?_
  refine hr_astore (i := 5) G dH_validate_36 (by decide) ?_
  refine hr_aload G dH_validate_38 rfl ?_
  refine hr_ifnull G dH_validate_40 ?_
  refine hr_aload_n G dH_validate_43 rfl rfl ?_
  refine hr_iload_n G dH_validate_44 rfl rfl ?_
  refine hr_callVs (k := 0) (i := 0) G rfl rfl (hA.lt (show 0 < hw_n0 0 by decide)) kH_120 iH_isEnabled vH_isEnabled (m_H_isEnabled _ _ _ _ _ hA hF v) rfl rfl (Nat.le_of_ble_eq_true rfl) ⟨by rw [hR]; decide, by rw [hR]; decide⟩ ⟨by rw [hR]; decide, by rw [hR]; decide⟩ dH_validate_45 ?_
  refine hr_if_ne (tgt := 58) G dH_validate_48 (by decide) (fun _ => ?_) (fun h => absurd h hv)
  refine hr_aload G dH_validate_58 rfl ?_
  refine hr_iload_n G dH_validate_60 rfl rfl ?_
  refine hr_iload_n G dH_validate_61 rfl rfl ?_
  refine hr_aload_n G dH_validate_62 rfl rfl ?_
  refine hr_get (v := .int (S 0 0 11)) G fH_106 (hA.lt (show 0 < hw_n0 0 by decide)) rfl dH_validate_63 ?_
  refine hr_callVs (k := 11) (i := i) G rfl rfl hi kH_176 iK_judge vK_judge (m_K_jdg _ _ _ _ _ i s hi hs (by omega) hts v h (S 0 0 11) J hJ) rfl rfl (Nat.le_of_ble_eq_true rfl) ⟨by rw [hR]; decide, by rw [hR]; decide⟩ ⟨by rw [hR]; decide, by rw [hR]; decide⟩ dH_validate_66 ?_
  refine hr_istore (i := 6) G dH_validate_69 (by decide) ?_
  refine hr_iload G dH_validate_71 rfl ?_
  refine hr_iconst (v := 2) G dH_validate_73 (by decide) ?_
  refine hr_icmp_ne (tgt := 85) G dH_validate_74 (by decide) (fun _ => ?_) (fun h => absurd h hJ2)
  refine hr_aload G dH_validate_85 rfl ?_
  refine hr_iconst (v := 1) G dH_validate_87 (by decide) ?_
  refine hr_put (x := 1) G fH_180 hi rfl (rfl) rfl dH_validate_88 ?_
  refine hr_iload G dH_validate_91 rfl ?_
  refine hr_if_eq (tgt := 104) G dH_validate_93 (by decide) (fun h => absurd h hJ0) (fun _ => ?_)
  refine hr_aload_n G dH_validate_96 rfl rfl ?_
  refine hr_iload G dH_validate_97 rfl ?_
  refine hr_iload_n G dH_validate_99 rfl rfl ?_
  refine hr_callV (k := 0) (i := 0) (ci := 0) (T := FH) (N := 12) G rfl rfl (hA.lt (show 0 < hw_n0 0 by decide)) kH_173 iH_refuse vH_refuse (m_H_refuse _ _ _ (hw_sv S 11 i 8 1) _ J (nI i) (ic_sv hI0 (ipp_11_8 (Or.inr rfl)))) rfl rfl (Nat.le_of_ble_eq_true rfl) ⟨by rw [hR]; decide, by rw [hR]; decide⟩ ⟨by rw [hR]; decide, by rw [hR]; decide⟩ dH_validate_100 (fun r nb2 S2 z2 hp => ?_)
  obtain ⟨hr1, rfl, hr2, rfl⟩ := hp
  obtain rfl := Sum.inl.inj hr1
  refine hr_wide (c' := 1) (sl' := 9) (Nat.le_of_ble_eq_true rfl) (Nat.le_of_ble_eq_true rfl) ?_
  exact hr_iret G hr hw_QX.of dH_validate_103 ⟨rfl, rfl, eqv_17 hr2 hT⟩
set_option maxRecDepth 100000 in
set_option maxHeartbeats 1000000 in
theorem m_H_validate_f (l : Launch) (hst : l.stackTraces = false) (B : hw_B) (nb : Nat → Nat) (S : hw_St) (z : Nat) (i s w : Nat) (v h : Int32) (c : Nat) (hc : c < 6) (hh1 : ¬ h < 0) (hh2 : ¬ 7 < h) (hi : i < nb 11) (hs : s < nb 9) (hts : S 11 i 2 = nI s) (hw : w < 6) (htw : S 11 i 3 = nI w) (hv : ¬ hs_en S v = 0) (hJ : tk_judge S i s v h (S 0 0 11) = 0) (h150 : nb 11 < 150) (hd1 : ¬ S 7 0 c = 0) (hd2 : ¬ hs_fl S w 2 = 0) (hI : ic nb S) (hz : hw_a B 11 (nb 11) = z) : hw_MX l yH_validate cH_validate 7 (some .int) ({ frames := 9, cells := 1, slots := 9, locals := 200 }) B [.ref (hw_a B 0 0), .int (nI i), .int v, .int h, .int (nI c)] nb S z (hw_qp (.inl (some (.int 0))) (hw_nb nb 11) (hs_giv (hw_sv (hw_sv S 11 i 8 1) 9 s 4 (S 0 0 11)) (nb 11) 2 s (nI c) (nI i) ((hw_sv (hw_sv S 11 i 8 1) 9 s 4 (S 0 0 11)) 11 i 6 + 1))) := by
  refine hw_MX.of (by decide) (Nat.le_of_ble_eq_true rfl) ?_
  intro X fr hl hR G hr htab
  have hI0 := hI
  obtain ⟨hA, hF, ⟨hn9, hc9⟩, ⟨hn11, hc11⟩, ⟨nm, hnm1, hnm2⟩, hT, hSe, hTi, hU, hW0, hW⟩ := hI
  obtain ⟨u, hu, hus⟩ := (hSe s hs).2.2.1
  have hIV : ic nb (hw_sv (hw_sv S 11 i 8 1) 9 s 4 (S 0 0 11)) := ic_sv (ic_sv hI0 (ipp_11_8 (Or.inr rfl))) ipp_9_4
  have hFV := hIV.2.1
  have hne : ¬ i = nb 11 := by omega
  have hI3 : ic (hw_nb nb 11) (hs_giv (hw_sv (hw_sv S 11 i 8 1) 9 s 4 (S 0 0 11)) (nb 11) 2 s (nI c) (nI i) ((hw_sv (hw_sv S 11 i 8 1) 9 s 4 (S 0 0 11)) 11 i 6 + 1)) := ic_giv hIV h150 (Or.inr (Or.inr rfl)) hs ⟨c, hc, rfl⟩ (Or.inr ⟨i, hi, rfl⟩)
  refine hr_iload_n G dH_validate_0 rfl rfl ?_
  refine hr_if_lt (tgt := 21) G dH_validate_1 (by decide) (fun h => absurd h hh1) (fun _ => ?_)
  refine hr_iload_n G dH_validate_4 rfl rfl ?_
  refine hr_bipush (v := 7) G dH_validate_5 (by decide) ?_
  refine hr_icmp_gt (tgt := 21) G dH_validate_7 (by decide) (fun h => absurd h hh2) (fun _ => ?_)
  refine hr_iload G dH_validate_10 rfl ?_
  refine hr_if_lt (tgt := 21) G dH_validate_12 (by decide) (fun h => absurd h (nI_pos (by omega))) (fun _ => ?_)
  refine hr_iload G dH_validate_15 rfl ?_
  refine hr_iconst (v := 5) G dH_validate_17 (by decide) ?_
  refine hr_icmp_le (tgt := 31) G dH_validate_18 (by decide) (fun _ => ?_) (fun h => absurd (show nI c ≤ 5 from nI_le (b := 5) (by omega) (by decide)) h)
  refine hr_aload_n G dH_validate_31 rfl rfl ?_
  refine hr_iload_n G dH_validate_32 rfl rfl ?_
  refine hr_callVs (k := 0) (i := 0) G rfl rfl (hA.lt (show 0 < hw_n0 0 by decide)) kH_153 iH_findTicket vH_findTicket (m_H_findTicket_y _ _ _ _ _ hA hF i (nb 11) hc11 hn11 hi (hTi i hi).1) rfl rfl (Nat.le_of_ble_eq_true rfl) ⟨by rw [hR]; decide, by rw [hR]; decide⟩ ⟨by rw [hR]; decide, by rw [hR]; decide⟩ dH_validate_33 ?_
  refine hr_astore (i := 5) G dH_validate_36 (by decide) ?_
  refine hr_aload G dH_validate_38 rfl ?_
  refine hr_ifnull G dH_validate_40 ?_
  refine hr_aload_n G dH_validate_43 rfl rfl ?_
  refine hr_iload_n G dH_validate_44 rfl rfl ?_
  refine hr_callVs (k := 0) (i := 0) G rfl rfl (hA.lt (show 0 < hw_n0 0 by decide)) kH_120 iH_isEnabled vH_isEnabled (m_H_isEnabled _ _ _ _ _ hA hF v) rfl rfl (Nat.le_of_ble_eq_true rfl) ⟨by rw [hR]; decide, by rw [hR]; decide⟩ ⟨by rw [hR]; decide, by rw [hR]; decide⟩ dH_validate_45 ?_
  refine hr_if_ne (tgt := 58) G dH_validate_48 (by decide) (fun _ => ?_) (fun h => absurd h hv)
  refine hr_aload G dH_validate_58 rfl ?_
  refine hr_iload_n G dH_validate_60 rfl rfl ?_
  refine hr_iload_n G dH_validate_61 rfl rfl ?_
  refine hr_aload_n G dH_validate_62 rfl rfl ?_
  refine hr_get (v := .int (S 0 0 11)) G fH_106 (hA.lt (show 0 < hw_n0 0 by decide)) rfl dH_validate_63 ?_
  refine hr_callVs (k := 11) (i := i) G rfl rfl hi kH_176 iK_judge vK_judge (m_K_jdg _ _ _ _ _ i s hi hs (by omega) hts v h (S 0 0 11) 0 hJ) rfl rfl (Nat.le_of_ble_eq_true rfl) ⟨by rw [hR]; decide, by rw [hR]; decide⟩ ⟨by rw [hR]; decide, by rw [hR]; decide⟩ dH_validate_66 ?_
  refine hr_istore (i := 6) G dH_validate_69 (by decide) ?_
  refine hr_iload G dH_validate_71 rfl ?_
  refine hr_iconst (v := 2) G dH_validate_73 (by decide) ?_
  refine hr_icmp_ne (tgt := 85) G dH_validate_74 (by decide) (fun _ => ?_) (fun h => absurd h (by decide))
  refine hr_aload G dH_validate_85 rfl ?_
  refine hr_iconst (v := 1) G dH_validate_87 (by decide) ?_
  refine hr_put (x := 1) G fH_180 hi rfl (rfl) rfl dH_validate_88 ?_
  refine hr_iload G dH_validate_91 rfl ?_
  refine hr_if_eq (tgt := 104) G dH_validate_93 (by decide) (fun _ => ?_) (fun h => absurd (by decide) h)
  refine hr_aload G dH_validate_104 rfl ?_
  refine hr_get (v := .ref (hw_a B 9 s)) G fH_167 hi (hw_rdy (show (hw_sv S 11 i 8 1) 11 i 2 = nI s by simp [hw_sv, hts]) (by omega)) dH_validate_106 ?_
  refine hr_aload_n G dH_validate_109 rfl rfl ?_
  refine hr_get (v := .int (S 0 0 11)) G fH_106 (hA.lt (show 0 < hw_n0 0 by decide)) rfl dH_validate_110 ?_
  refine hr_put (x := (S 0 0 11)) G fH_150 hs rfl (rfl) rfl dH_validate_113 ?_
  refine hr_aload_n G dH_validate_116 rfl rfl ?_
  refine hr_aload G dH_validate_117 rfl ?_
  refine hr_iload_n G dH_validate_119 rfl rfl ?_
  refine hr_iconst (v := 4) G dH_validate_120 (by decide) ?_
  refine hr_iand G dH_validate_121 ?_
  refine hr_if_eq (tgt := 129) G dH_validate_122 (by decide) (fun h122 => ?_) (fun h122 => ?_)
  · skip
    refine hr_iconst (v := 0) G dH_validate_129 (by decide) ?_
    refine hr_aload_n G dH_validate_130 rfl rfl ?_
    refine hr_aload G dH_validate_131 rfl ?_
    refine hr_iload G dH_validate_133 rfl ?_
    refine hr_callVs (k := 0) (i := 0) G rfl rfl (hA.lt (show 0 < hw_n0 0 by decide)) kH_183 iH_grantFor vH_grantFor (m_H_grantFor_y _ _ _ (hw_sv (hw_sv S 11 i 8 1) 9 s 4 (S 0 0 11)) _ hA hFV i s w c hi hs (by omega) (by simp [hw_sv, hts]) hw (by simp [hw_sv, htw]) hc hc11 h150 hz hd1 hd2) rfl rfl (Nat.le_of_ble_eq_true rfl) ⟨by rw [hR]; decide, by rw [hR]; decide⟩ ⟨by rw [hR]; decide, by rw [hR]; decide⟩ dH_validate_135 ?_
    refine hr_callHt (t := 17) G rfl ((hA.nb (k := 11) rfl).lt (show 0 < hw_n0 0 by decide)) kH_187 iH_writeAcceptance vH_writeAcceptance (m_H_writeAcceptance_g _ _ (hw_nb nb 11) (hs_giv (hw_sv (hw_sv S 11 i 8 1) 9 s 4 (S 0 0 11)) (nb 11) 2 s (nI c) (nI i) ((hw_sv (hw_sv S 11 i 8 1) 9 s 4 (S 0 0 11)) 11 i 6 + 1)) _ i s u w 0 hI3 (show i < nb 11 + 1 by omega) hs (by simp [hs_giv, tk_new, hw_sv, hw_nw, hne, hts]) hu (by simp [hs_giv, tk_new, hw_sv, hw_nw, hne, hus]) hw (by simp [hs_giv, tk_new, hw_sv, hw_nw, hne, htw]) (nb 11) hw_nbs) rfl rfl (Nat.le_of_ble_eq_true rfl) ⟨by rw [hR]; decide, by rw [hR]; decide⟩ ⟨by rw [hR]; decide, by rw [hR]; decide⟩ dH_validate_138 (fun S3 q3 => ?_)
    refine hr_iconst (v := 0) G dH_validate_141 (by decide) ?_
    exact hr_iret G hr hw_QX.of dH_validate_142 ⟨rfl, rfl, eqv_17 q3 hI3.2.2.2.2.2.1⟩
  · skip
    refine hr_iconst (v := 1) G dH_validate_125 (by decide) ?_
    refine hr_goto (tgt := 130) G dH_validate_126 (by decide) ?_
    refine hr_aload_n G dH_validate_130 rfl rfl ?_
    refine hr_aload G dH_validate_131 rfl ?_
    refine hr_iload G dH_validate_133 rfl ?_
    refine hr_callVs (k := 0) (i := 0) G rfl rfl (hA.lt (show 0 < hw_n0 0 by decide)) kH_183 iH_grantFor vH_grantFor (m_H_grantFor_y _ _ _ (hw_sv (hw_sv S 11 i 8 1) 9 s 4 (S 0 0 11)) _ hA hFV i s w c hi hs (by omega) (by simp [hw_sv, hts]) hw (by simp [hw_sv, htw]) hc hc11 h150 hz hd1 hd2) rfl rfl (Nat.le_of_ble_eq_true rfl) ⟨by rw [hR]; decide, by rw [hR]; decide⟩ ⟨by rw [hR]; decide, by rw [hR]; decide⟩ dH_validate_135 ?_
    refine hr_callHt (t := 17) G rfl ((hA.nb (k := 11) rfl).lt (show 0 < hw_n0 0 by decide)) kH_187 iH_writeAcceptance vH_writeAcceptance (m_H_writeAcceptance_g _ _ (hw_nb nb 11) (hs_giv (hw_sv (hw_sv S 11 i 8 1) 9 s 4 (S 0 0 11)) (nb 11) 2 s (nI c) (nI i) ((hw_sv (hw_sv S 11 i 8 1) 9 s 4 (S 0 0 11)) 11 i 6 + 1)) _ i s u w 1 hI3 (show i < nb 11 + 1 by omega) hs (by simp [hs_giv, tk_new, hw_sv, hw_nw, hne, hts]) hu (by simp [hs_giv, tk_new, hw_sv, hw_nw, hne, hus]) hw (by simp [hs_giv, tk_new, hw_sv, hw_nw, hne, htw]) (nb 11) hw_nbs) rfl rfl (Nat.le_of_ble_eq_true rfl) ⟨by rw [hR]; decide, by rw [hR]; decide⟩ ⟨by rw [hR]; decide, by rw [hR]; decide⟩ dH_validate_138 (fun S3 q3 => ?_)
    refine hr_iconst (v := 0) G dH_validate_141 (by decide) ?_
    exact hr_iret G hr hw_QX.of dH_validate_142 ⟨rfl, rfl, eqv_17 q3 hI3.2.2.2.2.2.1⟩
set_option maxRecDepth 100000 in
set_option maxHeartbeats 1000000 in
theorem m_H_validate_g (l : Launch) (hst : l.stackTraces = false) (B : hw_B) (nb : Nat → Nat) (S : hw_St) (z : Nat) (i s w : Nat) (v h : Int32) (c : Nat) (hc : c < 6) (hh1 : ¬ h < 0) (hh2 : ¬ 7 < h) (hi : i < nb 11) (hs : s < nb 9) (hts : S 11 i 2 = nI s) (hw : w < 6) (htw : S 11 i 3 = nI w) (hv : ¬ hs_en S v = 0) (hJ : tk_judge S i s v h (S 0 0 11) = 0) (hnd : ¬ (¬ S 7 0 c = 0 ∧ ¬ hs_fl S w 2 = 0 ∧ nb 11 < 150)) (hI : ic nb S) : hw_MX l yH_validate cH_validate 7 (some .int) ({ frames := 9, cells := 1, slots := 9, locals := 200 }) B [.ref (hw_a B 0 0), .int (nI i), .int v, .int h, .int (nI c)] nb S z (hw_qp (.inl (some (.int 0))) nb (hw_sv (hw_sv S 11 i 8 1) 9 s 4 (S 0 0 11))) := by
  refine hw_MX.of (by decide) (Nat.le_of_ble_eq_true rfl) ?_
  intro X fr hl hR G hr htab
  have hI0 := hI
  obtain ⟨hA, hF, ⟨hn9, hc9⟩, ⟨hn11, hc11⟩, ⟨nm, hnm1, hnm2⟩, hT, hSe, hTi, hU, hW0, hW⟩ := hI
  obtain ⟨u, hu, hus⟩ := (hSe s hs).2.2.1
  have hIV : ic nb (hw_sv (hw_sv S 11 i 8 1) 9 s 4 (S 0 0 11)) := ic_sv (ic_sv hI0 (ipp_11_8 (Or.inr rfl))) ipp_9_4
  have hFV := hIV.2.1
  refine hr_iload_n G dH_validate_0 rfl rfl ?_
  refine hr_if_lt (tgt := 21) G dH_validate_1 (by decide) (fun h => absurd h hh1) (fun _ => ?_)
  refine hr_iload_n G dH_validate_4 rfl rfl ?_
  refine hr_bipush (v := 7) G dH_validate_5 (by decide) ?_
  refine hr_icmp_gt (tgt := 21) G dH_validate_7 (by decide) (fun h => absurd h hh2) (fun _ => ?_)
  refine hr_iload G dH_validate_10 rfl ?_
  refine hr_if_lt (tgt := 21) G dH_validate_12 (by decide) (fun h => absurd h (nI_pos (by omega))) (fun _ => ?_)
  refine hr_iload G dH_validate_15 rfl ?_
  refine hr_iconst (v := 5) G dH_validate_17 (by decide) ?_
  refine hr_icmp_le (tgt := 31) G dH_validate_18 (by decide) (fun _ => ?_) (fun h => absurd (show nI c ≤ 5 from nI_le (b := 5) (by omega) (by decide)) h)
  refine hr_aload_n G dH_validate_31 rfl rfl ?_
  refine hr_iload_n G dH_validate_32 rfl rfl ?_
  refine hr_callVs (k := 0) (i := 0) G rfl rfl (hA.lt (show 0 < hw_n0 0 by decide)) kH_153 iH_findTicket vH_findTicket (m_H_findTicket_y _ _ _ _ _ hA hF i (nb 11) hc11 hn11 hi (hTi i hi).1) rfl rfl (Nat.le_of_ble_eq_true rfl) ⟨by rw [hR]; decide, by rw [hR]; decide⟩ ⟨by rw [hR]; decide, by rw [hR]; decide⟩ dH_validate_33 ?_
  refine hr_astore (i := 5) G dH_validate_36 (by decide) ?_
  refine hr_aload G dH_validate_38 rfl ?_
  refine hr_ifnull G dH_validate_40 ?_
  refine hr_aload_n G dH_validate_43 rfl rfl ?_
  refine hr_iload_n G dH_validate_44 rfl rfl ?_
  refine hr_callVs (k := 0) (i := 0) G rfl rfl (hA.lt (show 0 < hw_n0 0 by decide)) kH_120 iH_isEnabled vH_isEnabled (m_H_isEnabled _ _ _ _ _ hA hF v) rfl rfl (Nat.le_of_ble_eq_true rfl) ⟨by rw [hR]; decide, by rw [hR]; decide⟩ ⟨by rw [hR]; decide, by rw [hR]; decide⟩ dH_validate_45 ?_
  refine hr_if_ne (tgt := 58) G dH_validate_48 (by decide) (fun _ => ?_) (fun h => absurd h hv)
  refine hr_aload G dH_validate_58 rfl ?_
  refine hr_iload_n G dH_validate_60 rfl rfl ?_
  refine hr_iload_n G dH_validate_61 rfl rfl ?_
  refine hr_aload_n G dH_validate_62 rfl rfl ?_
  refine hr_get (v := .int (S 0 0 11)) G fH_106 (hA.lt (show 0 < hw_n0 0 by decide)) rfl dH_validate_63 ?_
  refine hr_callVs (k := 11) (i := i) G rfl rfl hi kH_176 iK_judge vK_judge (m_K_jdg _ _ _ _ _ i s hi hs (by omega) hts v h (S 0 0 11) 0 hJ) rfl rfl (Nat.le_of_ble_eq_true rfl) ⟨by rw [hR]; decide, by rw [hR]; decide⟩ ⟨by rw [hR]; decide, by rw [hR]; decide⟩ dH_validate_66 ?_
  refine hr_istore (i := 6) G dH_validate_69 (by decide) ?_
  refine hr_iload G dH_validate_71 rfl ?_
  refine hr_iconst (v := 2) G dH_validate_73 (by decide) ?_
  refine hr_icmp_ne (tgt := 85) G dH_validate_74 (by decide) (fun _ => ?_) (fun h => absurd h (by decide))
  refine hr_aload G dH_validate_85 rfl ?_
  refine hr_iconst (v := 1) G dH_validate_87 (by decide) ?_
  refine hr_put (x := 1) G fH_180 hi rfl (rfl) rfl dH_validate_88 ?_
  refine hr_iload G dH_validate_91 rfl ?_
  refine hr_if_eq (tgt := 104) G dH_validate_93 (by decide) (fun _ => ?_) (fun h => absurd (by decide) h)
  refine hr_aload G dH_validate_104 rfl ?_
  refine hr_get (v := .ref (hw_a B 9 s)) G fH_167 hi (hw_rdy (show (hw_sv S 11 i 8 1) 11 i 2 = nI s by simp [hw_sv, hts]) (by omega)) dH_validate_106 ?_
  refine hr_aload_n G dH_validate_109 rfl rfl ?_
  refine hr_get (v := .int (S 0 0 11)) G fH_106 (hA.lt (show 0 < hw_n0 0 by decide)) rfl dH_validate_110 ?_
  refine hr_put (x := (S 0 0 11)) G fH_150 hs rfl (rfl) rfl dH_validate_113 ?_
  refine hr_aload_n G dH_validate_116 rfl rfl ?_
  refine hr_aload G dH_validate_117 rfl ?_
  refine hr_iload_n G dH_validate_119 rfl rfl ?_
  refine hr_iconst (v := 4) G dH_validate_120 (by decide) ?_
  refine hr_iand G dH_validate_121 ?_
  refine hr_if_eq (tgt := 129) G dH_validate_122 (by decide) (fun h122 => ?_) (fun h122 => ?_)
  · skip
    refine hr_iconst (v := 0) G dH_validate_129 (by decide) ?_
    refine hr_aload_n G dH_validate_130 rfl rfl ?_
    refine hr_aload G dH_validate_131 rfl ?_
    refine hr_iload G dH_validate_133 rfl ?_
    refine hr_callVs (k := 0) (i := 0) G rfl rfl (hA.lt (show 0 < hw_n0 0 by decide)) kH_183 iH_grantFor vH_grantFor (m_H_grantFor_n _ _ _ (hw_sv (hw_sv S 11 i 8 1) 9 s 4 (S 0 0 11)) _ hA hFV i s w c hi hs (by omega) (by simp [hw_sv, hts]) hw (by simp [hw_sv, htw]) hc hc11 hn11 hnd) rfl rfl (Nat.le_of_ble_eq_true rfl) ⟨by rw [hR]; decide, by rw [hR]; decide⟩ ⟨by rw [hR]; decide, by rw [hR]; decide⟩ dH_validate_135 ?_
    refine hr_callHt (t := 17) G rfl (hA.lt (show 0 < hw_n0 0 by decide)) kH_187 iH_writeAcceptance vH_writeAcceptance (m_H_writeAcceptance_n _ _ nb (hw_sv (hw_sv S 11 i 8 1) 9 s 4 (S 0 0 11)) _ i s u w 0 hIV hi hs (by simp [hw_sv, hts]) hu (by simp [hw_sv, hus]) hw (by simp [hw_sv, htw])) rfl rfl (Nat.le_of_ble_eq_true rfl) ⟨by rw [hR]; decide, by rw [hR]; decide⟩ ⟨by rw [hR]; decide, by rw [hR]; decide⟩ dH_validate_138 (fun S3 q3 => ?_)
    refine hr_iconst (v := 0) G dH_validate_141 (by decide) ?_
    exact hr_iret G hr hw_QX.of dH_validate_142 ⟨rfl, rfl, eqv_17 q3 hIV.2.2.2.2.2.1⟩
  · skip
    refine hr_iconst (v := 1) G dH_validate_125 (by decide) ?_
    refine hr_goto (tgt := 130) G dH_validate_126 (by decide) ?_
    refine hr_aload_n G dH_validate_130 rfl rfl ?_
    refine hr_aload G dH_validate_131 rfl ?_
    refine hr_iload G dH_validate_133 rfl ?_
    refine hr_callVs (k := 0) (i := 0) G rfl rfl (hA.lt (show 0 < hw_n0 0 by decide)) kH_183 iH_grantFor vH_grantFor (m_H_grantFor_n _ _ _ (hw_sv (hw_sv S 11 i 8 1) 9 s 4 (S 0 0 11)) _ hA hFV i s w c hi hs (by omega) (by simp [hw_sv, hts]) hw (by simp [hw_sv, htw]) hc hc11 hn11 hnd) rfl rfl (Nat.le_of_ble_eq_true rfl) ⟨by rw [hR]; decide, by rw [hR]; decide⟩ ⟨by rw [hR]; decide, by rw [hR]; decide⟩ dH_validate_135 ?_
    refine hr_callHt (t := 17) G rfl (hA.lt (show 0 < hw_n0 0 by decide)) kH_187 iH_writeAcceptance vH_writeAcceptance (m_H_writeAcceptance_n _ _ nb (hw_sv (hw_sv S 11 i 8 1) 9 s 4 (S 0 0 11)) _ i s u w 1 hIV hi hs (by simp [hw_sv, hts]) hu (by simp [hw_sv, hus]) hw (by simp [hw_sv, htw])) rfl rfl (Nat.le_of_ble_eq_true rfl) ⟨by rw [hR]; decide, by rw [hR]; decide⟩ ⟨by rw [hR]; decide, by rw [hR]; decide⟩ dH_validate_138 (fun S3 q3 => ?_)
    refine hr_iconst (v := 0) G dH_validate_141 (by decide) ?_
    exact hr_iret G hr hw_QX.of dH_validate_142 ⟨rfl, rfl, eqv_17 q3 hIV.2.2.2.2.2.1⟩
