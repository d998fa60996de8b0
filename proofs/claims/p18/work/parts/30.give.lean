/-! ticket, proxy, logout. -/
set_option maxRecDepth 100000 in
set_option maxHeartbeats 1000000 in
theorem m_H_ticket_a (l : Launch) (hst : l.stackTraces = false) (B : hw_B) (nb : Nat → Nat) (S : hw_St) (z : Nat) (x v : Int32) (hx : x < 0 ∨ S 0 0 8 ≤ x) (hI : ic nb S) : hw_MX l yH_ticket cH_ticket 4 (some .int) ({ frames := 6, cells := 1, slots := 9, locals := 90 }) B [.ref (hw_a B 0 0), .int x, .int v] nb S z (hw_qp (.inr "java/lang/IllegalArgumentException") nb S) := by
  refine hw_MX.of (by decide) (Nat.le_of_ble_eq_true rfl) ?_
  intro X fr hl hR G hr htab
  obtain ⟨hA, hF, ⟨hn9, hc9⟩, ⟨hn11, hc11⟩, ⟨nm, hnm1, hnm2⟩, hT, hSe, hTi, hU, hW0, hW⟩ := hI
  refine hr_aload_n G dH_ticket_0 rfl rfl ?_
  refine hr_iload_n G dH_ticket_1 rfl rfl ?_
  refine hr_callVs (k := 0) (i := 0) G rfl rfl (hA.lt (show 0 < hw_n0 0 by decide)) kH_139 iH_findSession vH_findSession (m_H_findSession_n _ _ _ _ _ hA hF x hx) rfl rfl (Nat.le_of_ble_eq_true rfl) ⟨by rw [hR]; decide, by rw [hR]; decide⟩ ⟨by rw [hR]; decide, by rw [hR]; decide⟩ dH_ticket_2 ?_
  refine hr_astore_nN (i := 3) G dH_ticket_5 rfl (by decide) ?_
  refine hr_aload_nN G dH_ticket_6 rfl rfl ?_
  refine hr_ifnullN (tgt := 18) G dH_ticket_7 (by decide) ?_
  exact hr_throw (E := "java/lang/IllegalArgumentException") (names := ["java/lang/RuntimeException", "java/lang/Exception"]) (si := 9) G (by rw [hl]; exact hst) htab (by decide) (by decide) qH_51 in_IAE rfl at_IAE go_IAE dH_ticket_18 dH_ticket_21 dH_ticket_22 dH_ticket_24 dH_ticket_27 (by rw [hR]; decide) (by rw [hR]; decide) (by rw [hR]; decide) (by rw [hR]; decide) (by decide) (by decide) (fun _ _ => ⟨rfl, rfl, eqv.rf hT⟩)
set_option maxRecDepth 100000 in
set_option maxHeartbeats 1000000 in
theorem m_H_ticket_b (l : Launch) (hst : l.stackTraces = false) (B : hw_B) (nb : Nat → Nat) (S : hw_St) (z : Nat) (s : Nat) (v : Int32) (hs : s < nb 9) (hv : hs_en S v = 0) (hI : ic nb S) : hw_MX l yH_ticket cH_ticket 4 (some .int) ({ frames := 6, cells := 1, slots := 9, locals := 90 }) B [.ref (hw_a B 0 0), .int (nI s), .int v] nb S z (hw_qp (.inr "java/lang/IllegalArgumentException") nb S) := by
  refine hw_MX.of (by decide) (Nat.le_of_ble_eq_true rfl) ?_
  intro X fr hl hR G hr htab
  obtain ⟨hA, hF, ⟨hn9, hc9⟩, ⟨hn11, hc11⟩, ⟨nm, hnm1, hnm2⟩, hT, hSe, hTi, hU, hW0, hW⟩ := hI
  refine hr_aload_n G dH_ticket_0 rfl rfl ?_
  refine hr_iload_n G dH_ticket_1 rfl rfl ?_
  refine hr_callVs (k := 0) (i := 0) G rfl rfl (hA.lt (show 0 < hw_n0 0 by decide)) kH_139 iH_findSession vH_findSession (m_H_findSession_y _ _ _ _ _ hA hF s (nb 9) hc9 hn9 hs (hSe s hs).1) rfl rfl (Nat.le_of_ble_eq_true rfl) ⟨by rw [hR]; decide, by rw [hR]; decide⟩ ⟨by rw [hR]; decide, by rw [hR]; decide⟩ dH_ticket_2 ?_
  refine hr_astore_n (i := 3) G dH_ticket_5 rfl (by decide) ?_
  refine hr_aload_n G dH_ticket_6 rfl rfl ?_
  refine hr_ifnull G dH_ticket_7 ?_
  refine hr_aload_n G dH_ticket_10 rfl rfl ?_
  refine hr_iload_n G dH_ticket_11 rfl rfl ?_
  refine hr_callVs (k := 0) (i := 0) G rfl rfl (hA.lt (show 0 < hw_n0 0 by decide)) kH_120 iH_isEnabled vH_isEnabled (m_H_isEnabled _ _ _ _ _ hA hF v) rfl rfl (Nat.le_of_ble_eq_true rfl) ⟨by rw [hR]; decide, by rw [hR]; decide⟩ ⟨by rw [hR]; decide, by rw [hR]; decide⟩ dH_ticket_12 ?_
  refine hr_if_ne (tgt := 28) G dH_ticket_15 (by decide) (fun h => absurd hv h) (fun _ => ?_)
  exact hr_throw (E := "java/lang/IllegalArgumentException") (names := ["java/lang/RuntimeException", "java/lang/Exception"]) (si := 9) G (by rw [hl]; exact hst) htab (by decide) (by decide) qH_51 in_IAE rfl at_IAE go_IAE dH_ticket_18 dH_ticket_21 dH_ticket_22 dH_ticket_24 dH_ticket_27 (by rw [hR]; decide) (by rw [hR]; decide) (by rw [hR]; decide) (by rw [hR]; decide) (by decide) (by decide) (fun _ _ => ⟨rfl, rfl, eqv.rf hT⟩)
set_option maxRecDepth 100000 in
set_option maxHeartbeats 1000000 in
theorem m_H_ticket_c (l : Launch) (hst : l.stackTraces = false) (B : hw_B) (nb : Nat → Nat) (S : hw_St) (z : Nat) (s : Nat) (v : Int32) (hs : s < nb 9) (hv : ¬ hs_en S v = 0) (ho : S 9 s 5 = 0) (hI : ic nb S) : hw_MX l yH_ticket cH_ticket 4 (some .int) ({ frames := 6, cells := 1, slots := 9, locals := 90 }) B [.ref (hw_a B 0 0), .int (nI s), .int v] nb S z (hw_qp (.inr "java/lang/IllegalStateException") nb S) := by
  refine hw_MX.of (by decide) (Nat.le_of_ble_eq_true rfl) ?_
  intro X fr hl hR G hr htab
  obtain ⟨hA, hF, ⟨hn9, hc9⟩, ⟨hn11, hc11⟩, ⟨nm, hnm1, hnm2⟩, hT, hSe, hTi, hU, hW0, hW⟩ := hI
  refine hr_aload_n G dH_ticket_0 rfl rfl ?_
  refine hr_iload_n G dH_ticket_1 rfl rfl ?_
  refine hr_callVs (k := 0) (i := 0) G rfl rfl (hA.lt (show 0 < hw_n0 0 by decide)) kH_139 iH_findSession vH_findSession (m_H_findSession_y _ _ _ _ _ hA hF s (nb 9) hc9 hn9 hs (hSe s hs).1) rfl rfl (Nat.le_of_ble_eq_true rfl) ⟨by rw [hR]; decide, by rw [hR]; decide⟩ ⟨by rw [hR]; decide, by rw [hR]; decide⟩ dH_ticket_2 ?_
  refine hr_astore_n (i := 3) G dH_ticket_5 rfl (by decide) ?_
  refine hr_aload_n G dH_ticket_6 rfl rfl ?_
  refine hr_ifnull G dH_ticket_7 ?_
  refine hr_aload_n G dH_ticket_10 rfl rfl ?_
  refine hr_iload_n G dH_ticket_11 rfl rfl ?_
  refine hr_callVs (k := 0) (i := 0) G rfl rfl (hA.lt (show 0 < hw_n0 0 by decide)) kH_120 iH_isEnabled vH_isEnabled (m_H_isEnabled _ _ _ _ _ hA hF v) rfl rfl (Nat.le_of_ble_eq_true rfl) ⟨by rw [hR]; decide, by rw [hR]; decide⟩ ⟨by rw [hR]; decide, by rw [hR]; decide⟩ dH_ticket_12 ?_
  refine hr_if_ne (tgt := 28) G dH_ticket_15 (by decide) (fun _ => ?_) (fun h => absurd h hv)
  refine hr_aload_n G dH_ticket_28 rfl rfl ?_
  refine hr_get (v := .int (S 9 s 5)) G fH_145 hs rfl dH_ticket_29 ?_
  refine hr_if_eq (tgt := 45) G dH_ticket_32 (by decide) (fun _ => ?_) (fun h => absurd ho h)
  exact hr_throw (E := "java/lang/IllegalStateException") (names := ["java/lang/RuntimeException", "java/lang/Exception"]) (si := 10) G (by rw [hl]; exact hst) htab (by decide) (by decide) qH_62 in_ISE rfl at_ISE go_ISE dH_ticket_45 dH_ticket_48 dH_ticket_49 dH_ticket_51 dH_ticket_54 (by rw [hR]; decide) (by rw [hR]; decide) (by rw [hR]; decide) (by rw [hR]; decide) (by decide) (by decide) (fun _ _ => ⟨rfl, rfl, eqv.rf hT⟩)
set_option maxRecDepth 100000 in
set_option maxHeartbeats 1000000 in
theorem m_H_ticket_d (l : Launch) (hst : l.stackTraces = false) (B : hw_B) (nb : Nat → Nat) (S : hw_St) (z : Nat) (s : Nat) (v : Int32) (hs : s < nb 9) (hv : ¬ hs_en S v = 0) (ho : ¬ S 9 s 5 = 0) (h150 : nb 11 = 150) (hI : ic nb S) : hw_MX l yH_ticket cH_ticket 4 (some .int) ({ frames := 6, cells := 1, slots := 9, locals := 90 }) B [.ref (hw_a B 0 0), .int (nI s), .int v] nb S z (hw_qp (.inr "java/lang/IllegalStateException") nb S) := by
  refine hw_MX.of (by decide) (Nat.le_of_ble_eq_true rfl) ?_
  intro X fr hl hR G hr htab
  obtain ⟨hA, hF, ⟨hn9, hc9⟩, ⟨hn11, hc11⟩, ⟨nm, hnm1, hnm2⟩, hT, hSe, hTi, hU, hW0, hW⟩ := hI
  refine hr_aload_n G dH_ticket_0 rfl rfl ?_
  refine hr_iload_n G dH_ticket_1 rfl rfl ?_
  refine hr_callVs (k := 0) (i := 0) G rfl rfl (hA.lt (show 0 < hw_n0 0 by decide)) kH_139 iH_findSession vH_findSession (m_H_findSession_y _ _ _ _ _ hA hF s (nb 9) hc9 hn9 hs (hSe s hs).1) rfl rfl (Nat.le_of_ble_eq_true rfl) ⟨by rw [hR]; decide, by rw [hR]; decide⟩ ⟨by rw [hR]; decide, by rw [hR]; decide⟩ dH_ticket_2 ?_
  refine hr_astore_n (i := 3) G dH_ticket_5 rfl (by decide) ?_
  refine hr_aload_n G dH_ticket_6 rfl rfl ?_
  refine hr_ifnull G dH_ticket_7 ?_
  refine hr_aload_n G dH_ticket_10 rfl rfl ?_
  refine hr_iload_n G dH_ticket_11 rfl rfl ?_
  refine hr_callVs (k := 0) (i := 0) G rfl rfl (hA.lt (show 0 < hw_n0 0 by decide)) kH_120 iH_isEnabled vH_isEnabled (m_H_isEnabled _ _ _ _ _ hA hF v) rfl rfl (Nat.le_of_ble_eq_true rfl) ⟨by rw [hR]; decide, by rw [hR]; decide⟩ ⟨by rw [hR]; decide, by rw [hR]; decide⟩ dH_ticket_12 ?_
  refine hr_if_ne (tgt := 28) G dH_ticket_15 (by decide) (fun _ => ?_) (fun h => absurd h hv)
  refine hr_aload_n G dH_ticket_28 rfl rfl ?_
  refine hr_get (v := .int (S 9 s 5)) G fH_145 hs rfl dH_ticket_29 ?_
  refine hr_if_eq (tgt := 45) G dH_ticket_32 (by decide) (fun h => absurd h ho) (fun _ => ?_)
  refine hr_aload_n G dH_ticket_35 rfl rfl ?_
  refine hr_get (v := .int (S 0 0 9)) G fH_125 (hA.lt (show 0 < hw_n0 0 by decide)) rfl dH_ticket_36 ?_
  refine hr_sipush (v := 150) G dH_ticket_39 (by decide) ?_
  refine hr_icmp_lt (tgt := 55) G dH_ticket_42 (by decide) (fun h => absurd h (show ¬ S 0 0 9 < 150 by rw [hc11, h150]; decide)) (fun _ => ?_)
  exact hr_throw (E := "java/lang/IllegalStateException") (names := ["java/lang/RuntimeException", "java/lang/Exception"]) (si := 10) G (by rw [hl]; exact hst) htab (by decide) (by decide) qH_62 in_ISE rfl at_ISE go_ISE dH_ticket_45 dH_ticket_48 dH_ticket_49 dH_ticket_51 dH_ticket_54 (by rw [hR]; decide) (by rw [hR]; decide) (by rw [hR]; decide) (by rw [hR]; decide) (by decide) (by decide) (fun _ _ => ⟨rfl, rfl, eqv.rf hT⟩)
set_option maxRecDepth 100000 in
set_option maxHeartbeats 1000000 in
theorem m_H_ticket_e (l : Launch) (hst : l.stackTraces = false) (B : hw_B) (nb : Nat → Nat) (S : hw_St) (z : Nat) (s w : Nat) (hs : s < nb 9) (hw : w < 6) (hv : ¬ hs_en S (nI w) = 0) (ho : ¬ S 9 s 5 = 0) (h150 : nb 11 < 150) (hI : ic nb S) (hz : hw_a B 11 (nb 11) = z) : hw_MX l yH_ticket cH_ticket 4 (some .int) ({ frames := 6, cells := 1, slots := 9, locals := 90 }) B [.ref (hw_a B 0 0), .int (nI s), .int (nI w)] nb S z (hw_qp (.inl (some (.int (nI (nb 11))))) (hw_nb nb 11) (hs_giv (hw_sv S 9 s 4 (S 0 0 11)) (nb 11) 0 s (nI w) (-1) (if (0 : Int32) = 2 then 0 + 1 else 0))) := by
  refine hw_MX.of (by decide) (Nat.le_of_ble_eq_true rfl) ?_
  intro X fr hl hR G hr htab
  obtain ⟨hA, hF, ⟨hn9, hc9⟩, ⟨hn11, hc11⟩, ⟨nm, hnm1, hnm2⟩, hT, hSe, hTi, hU, hW0, hW⟩ := hI
  refine hr_aload_n G dH_ticket_0 rfl rfl ?_
  refine hr_iload_n G dH_ticket_1 rfl rfl ?_
  refine hr_callVs (k := 0) (i := 0) G rfl rfl (hA.lt (show 0 < hw_n0 0 by decide)) kH_139 iH_findSession vH_findSession (m_H_findSession_y _ _ _ _ _ hA hF s (nb 9) hc9 hn9 hs (hSe s hs).1) rfl rfl (Nat.le_of_ble_eq_true rfl) ⟨by rw [hR]; decide, by rw [hR]; decide⟩ ⟨by rw [hR]; decide, by rw [hR]; decide⟩ dH_ticket_2 ?_
  refine hr_astore_n (i := 3) G dH_ticket_5 rfl (by decide) ?_
  refine hr_aload_n G dH_ticket_6 rfl rfl ?_
  refine hr_ifnull G dH_ticket_7 ?_
  refine hr_aload_n G dH_ticket_10 rfl rfl ?_
  refine hr_iload_n G dH_ticket_11 rfl rfl ?_
  refine hr_callVs (k := 0) (i := 0) G rfl rfl (hA.lt (show 0 < hw_n0 0 by decide)) kH_120 iH_isEnabled vH_isEnabled (m_H_isEnabled _ _ _ _ _ hA hF (nI w)) rfl rfl (Nat.le_of_ble_eq_true rfl) ⟨by rw [hR]; decide, by rw [hR]; decide⟩ ⟨by rw [hR]; decide, by rw [hR]; decide⟩ dH_ticket_12 ?_
  refine hr_if_ne (tgt := 28) G dH_ticket_15 (by decide) (fun _ => ?_) (fun h => absurd h hv)
  refine hr_aload_n G dH_ticket_28 rfl rfl ?_
  refine hr_get (v := .int (S 9 s 5)) G fH_145 hs rfl dH_ticket_29 ?_
  refine hr_if_eq (tgt := 45) G dH_ticket_32 (by decide) (fun h => absurd h ho) (fun _ => ?_)
  refine hr_aload_n G dH_ticket_35 rfl rfl ?_
  refine hr_get (v := .int (S 0 0 9)) G fH_125 (hA.lt (show 0 < hw_n0 0 by decide)) rfl dH_ticket_36 ?_
  refine hr_sipush (v := 150) G dH_ticket_39 (by decide) ?_
  refine hr_icmp_lt (tgt := 55) G dH_ticket_42 (by decide) (fun _ => ?_) (fun h => absurd (show S 0 0 9 < 150 by rw [hc11]; exact (nI_ltI (b := 150) (by omega) (by decide)).mpr h150) h)
  refine hr_aload_n G dH_ticket_55 rfl rfl ?_
  refine hr_aload_n G dH_ticket_56 rfl rfl ?_
  refine hr_get (v := .int (S 0 0 11)) G fH_106 (hA.lt (show 0 < hw_n0 0 by decide)) rfl dH_ticket_57 ?_
  refine hr_put (x := (S 0 0 11)) G fH_150 hs rfl (rfl) rfl dH_ticket_60 ?_
  refine hr_aload_n G dH_ticket_63 rfl rfl ?_
  refine hr_iconst (v := 0) G dH_ticket_64 (by decide) ?_
  refine hr_aload_n G dH_ticket_65 rfl rfl ?_
  refine hr_iload_n G dH_ticket_66 rfl rfl ?_
  refine hr_null G dH_ticket_67 ?_
  refine hr_callVs (k := 0) (i := 0) G rfl rfl (hA.lt (show 0 < hw_n0 0 by decide)) kH_130 iH_giveTicket vH_giveTicket (m_H_giveTicket_n _ _ _ (hw_sv S 9 s 4 (S 0 0 11)) _ hA (hF.sv rfl) 0 s hs (by omega) (nI w) hc11 h150 hz) rfl rfl (Nat.le_of_ble_eq_true rfl) ⟨by rw [hR]; decide, by rw [hR]; decide⟩ ⟨by rw [hR]; decide, by rw [hR]; decide⟩ dH_ticket_68 ?_
  refine hr_get (v := .int (nI (nb 11))) G fH_138 hw_nbs (by show Value.int _ = Value.int _; rw [← hc11]; simp [hs_giv, tk_new, hw_sv, hw_nw]) dH_ticket_71 ?_
  exact hr_iret G hr hw_QX.of dH_ticket_74 ⟨rfl, rfl, fun _ _ _ _ _ => rfl, hT⟩
set_option maxRecDepth 100000 in
set_option maxHeartbeats 1000000 in
theorem m_H_proxy_a (l : Launch) (hst : l.stackTraces = false) (B : hw_B) (nb : Nat → Nat) (S : hw_St) (z : Nat) (x v : Int32) (hx : x < 0 ∨ S 0 0 9 ≤ x) (hI : ic nb S) : hw_MX l yH_proxy cH_proxy 4 (some .int) ({ frames := 6, cells := 1, slots := 9, locals := 90 }) B [.ref (hw_a B 0 0), .int x, .int v] nb S z (hw_qp (.inr "java/lang/IllegalArgumentException") nb S) := by
  refine hw_MX.of (by decide) (Nat.le_of_ble_eq_true rfl) ?_
  intro X fr hl hR G hr htab
  obtain ⟨hA, hF, ⟨hn9, hc9⟩, ⟨hn11, hc11⟩, ⟨nm, hnm1, hnm2⟩, hT, hSe, hTi, hU, hW0, hW⟩ := hI
  refine hr_aload_n G dH_proxy_0 rfl rfl ?_
  refine hr_iload_n G dH_proxy_1 rfl rfl ?_
  refine hr_callVs (k := 0) (i := 0) G rfl rfl (hA.lt (show 0 < hw_n0 0 by decide)) kH_153 iH_findTicket vH_findTicket (m_H_findTicket_n _ _ _ _ _ hA hF x hx) rfl rfl (Nat.le_of_ble_eq_true rfl) ⟨by rw [hR]; decide, by rw [hR]; decide⟩ ⟨by rw [hR]; decide, by rw [hR]; decide⟩ dH_proxy_2 ?_
  refine hr_astore_nN (i := 3) G dH_proxy_5 rfl (by decide) ?_
  refine hr_aload_nN G dH_proxy_6 rfl rfl ?_
  refine hr_ifnullN (tgt := 26) G dH_proxy_7 (by decide) ?_
  exact hr_throw (E := "java/lang/IllegalArgumentException") (names := ["java/lang/RuntimeException", "java/lang/Exception"]) (si := 11) G (by rw [hl]; exact hst) htab (by decide) (by decide) qH_51 in_IAE rfl at_IAE go_IAE dH_proxy_26 dH_proxy_29 dH_proxy_30 dH_proxy_32 dH_proxy_35 (by rw [hR]; decide) (by rw [hR]; decide) (by rw [hR]; decide) (by rw [hR]; decide) (by decide) (by decide) (fun _ _ => ⟨rfl, rfl, eqv.rf hT⟩)
set_option maxRecDepth 100000 in
set_option maxHeartbeats 1000000 in
theorem m_H_proxy_b (l : Launch) (hst : l.stackTraces = false) (B : hw_B) (nb : Nat → Nat) (S : hw_St) (z : Nat) (i : Nat) (v : Int32) (hi : i < nb 11) (hk : ¬ S 11 i 1 = 2) (hI : ic nb S) : hw_MX l yH_proxy cH_proxy 4 (some .int) ({ frames := 6, cells := 1, slots := 9, locals := 90 }) B [.ref (hw_a B 0 0), .int (nI i), .int v] nb S z (hw_qp (.inr "java/lang/IllegalArgumentException") nb S) := by
  refine hw_MX.of (by decide) (Nat.le_of_ble_eq_true rfl) ?_
  intro X fr hl hR G hr htab
  obtain ⟨hA, hF, ⟨hn9, hc9⟩, ⟨hn11, hc11⟩, ⟨nm, hnm1, hnm2⟩, hT, hSe, hTi, hU, hW0, hW⟩ := hI
  refine hr_aload_n G dH_proxy_0 rfl rfl ?_
  refine hr_iload_n G dH_proxy_1 rfl rfl ?_
  refine hr_callVs (k := 0) (i := 0) G rfl rfl (hA.lt (show 0 < hw_n0 0 by decide)) kH_153 iH_findTicket vH_findTicket (m_H_findTicket_y _ _ _ _ _ hA hF i (nb 11) hc11 hn11 hi (hTi i hi).1) rfl rfl (Nat.le_of_ble_eq_true rfl) ⟨by rw [hR]; decide, by rw [hR]; decide⟩ ⟨by rw [hR]; decide, by rw [hR]; decide⟩ dH_proxy_2 ?_
  refine hr_astore_n (i := 3) G dH_proxy_5 rfl (by decide) ?_
  refine hr_aload_n G dH_proxy_6 rfl rfl ?_
  refine hr_ifnull G dH_proxy_7 ?_
  refine hr_aload_n G dH_proxy_10 rfl rfl ?_
  refine hr_get (v := .int (S 11 i 1)) G fH_157 hi rfl dH_proxy_11 ?_
  refine hr_iconst (v := 2) G dH_proxy_14 (by decide) ?_
  refine hr_icmp_ne (tgt := 26) G dH_proxy_15 (by decide) (fun _ => ?_) (fun h => absurd h hk)
  exact hr_throw (E := "java/lang/IllegalArgumentException") (names := ["java/lang/RuntimeException", "java/lang/Exception"]) (si := 11) G (by rw [hl]; exact hst) htab (by decide) (by decide) qH_51 in_IAE rfl at_IAE go_IAE dH_proxy_26 dH_proxy_29 dH_proxy_30 dH_proxy_32 dH_proxy_35 (by rw [hR]; decide) (by rw [hR]; decide) (by rw [hR]; decide) (by rw [hR]; decide) (by decide) (by decide) (fun _ _ => ⟨rfl, rfl, eqv.rf hT⟩)
set_option maxRecDepth 100000 in
set_option maxHeartbeats 1000000 in
theorem m_H_proxy_c (l : Launch) (hst : l.stackTraces = false) (B : hw_B) (nb : Nat → Nat) (S : hw_St) (z : Nat) (i : Nat) (v : Int32) (hi : i < nb 11) (hk : S 11 i 1 = 2) (hv : hs_en S v = 0) (hI : ic nb S) : hw_MX l yH_proxy cH_proxy 4 (some .int) ({ frames := 6, cells := 1, slots := 9, locals := 90 }) B [.ref (hw_a B 0 0), .int (nI i), .int v] nb S z (hw_qp (.inr "java/lang/IllegalArgumentException") nb S) := by
  refine hw_MX.of (by decide) (Nat.le_of_ble_eq_true rfl) ?_
  intro X fr hl hR G hr htab
  obtain ⟨hA, hF, ⟨hn9, hc9⟩, ⟨hn11, hc11⟩, ⟨nm, hnm1, hnm2⟩, hT, hSe, hTi, hU, hW0, hW⟩ := hI
  refine hr_aload_n G dH_proxy_0 rfl rfl ?_
  refine hr_iload_n G dH_proxy_1 rfl rfl ?_
  refine hr_callVs (k := 0) (i := 0) G rfl rfl (hA.lt (show 0 < hw_n0 0 by decide)) kH_153 iH_findTicket vH_findTicket (m_H_findTicket_y _ _ _ _ _ hA hF i (nb 11) hc11 hn11 hi (hTi i hi).1) rfl rfl (Nat.le_of_ble_eq_true rfl) ⟨by rw [hR]; decide, by rw [hR]; decide⟩ ⟨by rw [hR]; decide, by rw [hR]; decide⟩ dH_proxy_2 ?_
  refine hr_astore_n (i := 3) G dH_proxy_5 rfl (by decide) ?_
  refine hr_aload_n G dH_proxy_6 rfl rfl ?_
  refine hr_ifnull G dH_proxy_7 ?_
  refine hr_aload_n G dH_proxy_10 rfl rfl ?_
  refine hr_get (v := .int (S 11 i 1)) G fH_157 hi rfl dH_proxy_11 ?_
  refine hr_iconst (v := 2) G dH_proxy_14 (by decide) ?_
  refine hr_icmp_ne (tgt := 26) G dH_proxy_15 (by decide) (fun h => absurd hk h) (fun _ => ?_)
  refine hr_aload_n G dH_proxy_18 rfl rfl ?_
  refine hr_iload_n G dH_proxy_19 rfl rfl ?_
  refine hr_callVs (k := 0) (i := 0) G rfl rfl (hA.lt (show 0 < hw_n0 0 by decide)) kH_120 iH_isEnabled vH_isEnabled (m_H_isEnabled _ _ _ _ _ hA hF v) rfl rfl (Nat.le_of_ble_eq_true rfl) ⟨by rw [hR]; decide, by rw [hR]; decide⟩ ⟨by rw [hR]; decide, by rw [hR]; decide⟩ dH_proxy_20 ?_
  refine hr_if_ne (tgt := 36) G dH_proxy_23 (by decide) (fun h => absurd hv h) (fun _ => ?_)
  exact hr_throw (E := "java/lang/IllegalArgumentException") (names := ["java/lang/RuntimeException", "java/lang/Exception"]) (si := 11) G (by rw [hl]; exact hst) htab (by decide) (by decide) qH_51 in_IAE rfl at_IAE go_IAE dH_proxy_26 dH_proxy_29 dH_proxy_30 dH_proxy_32 dH_proxy_35 (by rw [hR]; decide) (by rw [hR]; decide) (by rw [hR]; decide) (by rw [hR]; decide) (by decide) (by decide) (fun _ _ => ⟨rfl, rfl, eqv.rf hT⟩)
set_option maxRecDepth 100000 in
set_option maxHeartbeats 1000000 in
theorem m_H_proxy_d (l : Launch) (hst : l.stackTraces = false) (B : hw_B) (nb : Nat → Nat) (S : hw_St) (z : Nat) (i : Nat) (v : Int32) (hi : i < nb 11) (s : Nat) (hs : s < nb 9) (hts : S 11 i 2 = nI s) (hk : S 11 i 1 = 2) (hv : ¬ hs_en S v = 0) (hg : (tk_good S i s (S 0 0 11)) = 0) (hI : ic nb S) : hw_MX l yH_proxy cH_proxy 4 (some .int) ({ frames := 6, cells := 1, slots := 9, locals := 90 }) B [.ref (hw_a B 0 0), .int (nI i), .int v] nb S z (hw_qp (.inr "java/lang/IllegalStateException") nb S) := by
  refine hw_MX.of (by decide) (Nat.le_of_ble_eq_true rfl) ?_
  intro X fr hl hR G hr htab
  obtain ⟨hA, hF, ⟨hn9, hc9⟩, ⟨hn11, hc11⟩, ⟨nm, hnm1, hnm2⟩, hT, hSe, hTi, hU, hW0, hW⟩ := hI
  refine hr_aload_n G dH_proxy_0 rfl rfl ?_
  refine hr_iload_n G dH_proxy_1 rfl rfl ?_
  refine hr_callVs (k := 0) (i := 0) G rfl rfl (hA.lt (show 0 < hw_n0 0 by decide)) kH_153 iH_findTicket vH_findTicket (m_H_findTicket_y _ _ _ _ _ hA hF i (nb 11) hc11 hn11 hi (hTi i hi).1) rfl rfl (Nat.le_of_ble_eq_true rfl) ⟨by rw [hR]; decide, by rw [hR]; decide⟩ ⟨by rw [hR]; decide, by rw [hR]; decide⟩ dH_proxy_2 ?_
  refine hr_astore_n (i := 3) G dH_proxy_5 rfl (by decide) ?_
  refine hr_aload_n G dH_proxy_6 rfl rfl ?_
  refine hr_ifnull G dH_proxy_7 ?_
  refine hr_aload_n G dH_proxy_10 rfl rfl ?_
  refine hr_get (v := .int (S 11 i 1)) G fH_157 hi rfl dH_proxy_11 ?_
  refine hr_iconst (v := 2) G dH_proxy_14 (by decide) ?_
  refine hr_icmp_ne (tgt := 26) G dH_proxy_15 (by decide) (fun h => absurd hk h) (fun _ => ?_)
  refine hr_aload_n G dH_proxy_18 rfl rfl ?_
  refine hr_iload_n G dH_proxy_19 rfl rfl ?_
  refine hr_callVs (k := 0) (i := 0) G rfl rfl (hA.lt (show 0 < hw_n0 0 by decide)) kH_120 iH_isEnabled vH_isEnabled (m_H_isEnabled _ _ _ _ _ hA hF v) rfl rfl (Nat.le_of_ble_eq_true rfl) ⟨by rw [hR]; decide, by rw [hR]; decide⟩ ⟨by rw [hR]; decide, by rw [hR]; decide⟩ dH_proxy_20 ?_
  refine hr_if_ne (tgt := 36) G dH_proxy_23 (by decide) (fun _ => ?_) (fun h => absurd h hv)
  refine hr_aload_n G dH_proxy_36 rfl rfl ?_
  refine hr_aload_n G dH_proxy_37 rfl rfl ?_
  refine hr_get (v := .int (S 0 0 11)) G fH_106 (hA.lt (show 0 < hw_n0 0 by decide)) rfl dH_proxy_38 ?_
  refine hr_callVs (k := 11) (i := i) G rfl rfl hi kH_162 iK_isGood vK_isGood (m_K_isGood _ _ _ _ _ i s hi hs (by omega) hts (S 0 0 11)) rfl rfl (Nat.le_of_ble_eq_true rfl) ⟨by rw [hR]; decide, by rw [hR]; decide⟩ ⟨by rw [hR]; decide, by rw [hR]; decide⟩ dH_proxy_41 ?_
  refine hr_if_eq (tgt := 57) G dH_proxy_44 (by decide) (fun _ => ?_) (fun h => absurd hg h)
  exact hr_throw (E := "java/lang/IllegalStateException") (names := ["java/lang/RuntimeException", "java/lang/Exception"]) (si := 12) G (by rw [hl]; exact hst) htab (by decide) (by decide) qH_62 in_ISE rfl at_ISE go_ISE dH_proxy_57 dH_proxy_60 dH_proxy_61 dH_proxy_63 dH_proxy_66 (by rw [hR]; decide) (by rw [hR]; decide) (by rw [hR]; decide) (by rw [hR]; decide) (by decide) (by decide) (fun _ _ => ⟨rfl, rfl, eqv.rf hT⟩)
set_option maxRecDepth 100000 in
set_option maxHeartbeats 1000000 in
theorem m_H_proxy_e (l : Launch) (hst : l.stackTraces = false) (B : hw_B) (nb : Nat → Nat) (S : hw_St) (z : Nat) (i : Nat) (v : Int32) (hi : i < nb 11) (s : Nat) (hs : s < nb 9) (hts : S 11 i 2 = nI s) (hk : S 11 i 1 = 2) (hv : ¬ hs_en S v = 0) (hg : ¬ (tk_good S i s (S 0 0 11)) = 0) (h150 : nb 11 = 150) (hI : ic nb S) : hw_MX l yH_proxy cH_proxy 4 (some .int) ({ frames := 6, cells := 1, slots := 9, locals := 90 }) B [.ref (hw_a B 0 0), .int (nI i), .int v] nb S z (hw_qp (.inr "java/lang/IllegalStateException") nb S) := by
  refine hw_MX.of (by decide) (Nat.le_of_ble_eq_true rfl) ?_
  intro X fr hl hR G hr htab
  obtain ⟨hA, hF, ⟨hn9, hc9⟩, ⟨hn11, hc11⟩, ⟨nm, hnm1, hnm2⟩, hT, hSe, hTi, hU, hW0, hW⟩ := hI
  refine hr_aload_n G dH_proxy_0 rfl rfl ?_
  refine hr_iload_n G dH_proxy_1 rfl rfl ?_
  refine hr_callVs (k := 0) (i := 0) G rfl rfl (hA.lt (show 0 < hw_n0 0 by decide)) kH_153 iH_findTicket vH_findTicket (m_H_findTicket_y _ _ _ _ _ hA hF i (nb 11) hc11 hn11 hi (hTi i hi).1) rfl rfl (Nat.le_of_ble_eq_true rfl) ⟨by rw [hR]; decide, by rw [hR]; decide⟩ ⟨by rw [hR]; decide, by rw [hR]; decide⟩ dH_proxy_2 ?_
  refine hr_astore_n (i := 3) G dH_proxy_5 rfl (by decide) ?_
  refine hr_aload_n G dH_proxy_6 rfl rfl ?_
  refine hr_ifnull G dH_proxy_7 ?_
  refine hr_aload_n G dH_proxy_10 rfl rfl ?_
  refine hr_get (v := .int (S 11 i 1)) G fH_157 hi rfl dH_proxy_11 ?_
  refine hr_iconst (v := 2) G dH_proxy_14 (by decide) ?_
  refine hr_icmp_ne (tgt := 26) G dH_proxy_15 (by decide) (fun h => absurd hk h) (fun _ => ?_)
  refine hr_aload_n G dH_proxy_18 rfl rfl ?_
  refine hr_iload_n G dH_proxy_19 rfl rfl ?_
  refine hr_callVs (k := 0) (i := 0) G rfl rfl (hA.lt (show 0 < hw_n0 0 by decide)) kH_120 iH_isEnabled vH_isEnabled (m_H_isEnabled _ _ _ _ _ hA hF v) rfl rfl (Nat.le_of_ble_eq_true rfl) ⟨by rw [hR]; decide, by rw [hR]; decide⟩ ⟨by rw [hR]; decide, by rw [hR]; decide⟩ dH_proxy_20 ?_
  refine hr_if_ne (tgt := 36) G dH_proxy_23 (by decide) (fun _ => ?_) (fun h => absurd h hv)
  refine hr_aload_n G dH_proxy_36 rfl rfl ?_
  refine hr_aload_n G dH_proxy_37 rfl rfl ?_
  refine hr_get (v := .int (S 0 0 11)) G fH_106 (hA.lt (show 0 < hw_n0 0 by decide)) rfl dH_proxy_38 ?_
  refine hr_callVs (k := 11) (i := i) G rfl rfl hi kH_162 iK_isGood vK_isGood (m_K_isGood _ _ _ _ _ i s hi hs (by omega) hts (S 0 0 11)) rfl rfl (Nat.le_of_ble_eq_true rfl) ⟨by rw [hR]; decide, by rw [hR]; decide⟩ ⟨by rw [hR]; decide, by rw [hR]; decide⟩ dH_proxy_41 ?_
  refine hr_if_eq (tgt := 57) G dH_proxy_44 (by decide) (fun h => absurd h hg) (fun _ => ?_)
  refine hr_aload_n G dH_proxy_47 rfl rfl ?_
  refine hr_get (v := .int (S 0 0 9)) G fH_125 (hA.lt (show 0 < hw_n0 0 by decide)) rfl dH_proxy_48 ?_
  refine hr_sipush (v := 150) G dH_proxy_51 (by decide) ?_
  refine hr_icmp_lt (tgt := 67) G dH_proxy_54 (by decide) (fun h => absurd h (show ¬ S 0 0 9 < 150 by rw [hc11, h150]; decide)) (fun _ => ?_)
  exact hr_throw (E := "java/lang/IllegalStateException") (names := ["java/lang/RuntimeException", "java/lang/Exception"]) (si := 12) G (by rw [hl]; exact hst) htab (by decide) (by decide) qH_62 in_ISE rfl at_ISE go_ISE dH_proxy_57 dH_proxy_60 dH_proxy_61 dH_proxy_63 dH_proxy_66 (by rw [hR]; decide) (by rw [hR]; decide) (by rw [hR]; decide) (by rw [hR]; decide) (by decide) (by decide) (fun _ _ => ⟨rfl, rfl, eqv.rf hT⟩)
set_option maxRecDepth 100000 in
set_option maxHeartbeats 1000000 in
theorem m_H_proxy_f (l : Launch) (hst : l.stackTraces = false) (B : hw_B) (nb : Nat → Nat) (S : hw_St) (z : Nat) (i s w : Nat) (hi : i < nb 11) (hs : s < nb 9) (hw : w < 6) (hts : S 11 i 2 = nI s) (hk : S 11 i 1 = 2) (hv : ¬ hs_en S (nI w) = 0) (hg : ¬ (tk_good S i s (S 0 0 11)) = 0) (h150 : nb 11 < 150) (hI : ic nb S) (hz : hw_a B 11 (nb 11) = z) : hw_MX l yH_proxy cH_proxy 4 (some .int) ({ frames := 6, cells := 1, slots := 9, locals := 90 }) B [.ref (hw_a B 0 0), .int (nI i), .int (nI w)] nb S z (hw_qp (.inl (some (.int (nI (nb 11))))) (hw_nb nb 11) (hs_giv (hw_sv S 9 s 4 (S 0 0 11)) (nb 11) 1 s (nI w) (nI i) (if (1 : Int32) = 2 then S 11 i 6 + 1 else S 11 i 6))) := by
  refine hw_MX.of (by decide) (Nat.le_of_ble_eq_true rfl) ?_
  intro X fr hl hR G hr htab
  obtain ⟨hA, hF, ⟨hn9, hc9⟩, ⟨hn11, hc11⟩, ⟨nm, hnm1, hnm2⟩, hT, hSe, hTi, hU, hW0, hW⟩ := hI
  refine hr_aload_n G dH_proxy_0 rfl rfl ?_
  refine hr_iload_n G dH_proxy_1 rfl rfl ?_
  refine hr_callVs (k := 0) (i := 0) G rfl rfl (hA.lt (show 0 < hw_n0 0 by decide)) kH_153 iH_findTicket vH_findTicket (m_H_findTicket_y _ _ _ _ _ hA hF i (nb 11) hc11 hn11 hi (hTi i hi).1) rfl rfl (Nat.le_of_ble_eq_true rfl) ⟨by rw [hR]; decide, by rw [hR]; decide⟩ ⟨by rw [hR]; decide, by rw [hR]; decide⟩ dH_proxy_2 ?_
  refine hr_astore_n (i := 3) G dH_proxy_5 rfl (by decide) ?_
  refine hr_aload_n G dH_proxy_6 rfl rfl ?_
  refine hr_ifnull G dH_proxy_7 ?_
  refine hr_aload_n G dH_proxy_10 rfl rfl ?_
  refine hr_get (v := .int (S 11 i 1)) G fH_157 hi rfl dH_proxy_11 ?_
  refine hr_iconst (v := 2) G dH_proxy_14 (by decide) ?_
  refine hr_icmp_ne (tgt := 26) G dH_proxy_15 (by decide) (fun h => absurd hk h) (fun _ => ?_)
  refine hr_aload_n G dH_proxy_18 rfl rfl ?_
  refine hr_iload_n G dH_proxy_19 rfl rfl ?_
  refine hr_callVs (k := 0) (i := 0) G rfl rfl (hA.lt (show 0 < hw_n0 0 by decide)) kH_120 iH_isEnabled vH_isEnabled (m_H_isEnabled _ _ _ _ _ hA hF (nI w)) rfl rfl (Nat.le_of_ble_eq_true rfl) ⟨by rw [hR]; decide, by rw [hR]; decide⟩ ⟨by rw [hR]; decide, by rw [hR]; decide⟩ dH_proxy_20 ?_
  refine hr_if_ne (tgt := 36) G dH_proxy_23 (by decide) (fun _ => ?_) (fun h => absurd h hv)
  refine hr_aload_n G dH_proxy_36 rfl rfl ?_
  refine hr_aload_n G dH_proxy_37 rfl rfl ?_
  refine hr_get (v := .int (S 0 0 11)) G fH_106 (hA.lt (show 0 < hw_n0 0 by decide)) rfl dH_proxy_38 ?_
  refine hr_callVs (k := 11) (i := i) G rfl rfl hi kH_162 iK_isGood vK_isGood (m_K_isGood _ _ _ _ _ i s hi hs (by omega) hts (S 0 0 11)) rfl rfl (Nat.le_of_ble_eq_true rfl) ⟨by rw [hR]; decide, by rw [hR]; decide⟩ ⟨by rw [hR]; decide, by rw [hR]; decide⟩ dH_proxy_41 ?_
  refine hr_if_eq (tgt := 57) G dH_proxy_44 (by decide) (fun h => absurd h hg) (fun _ => ?_)
  refine hr_aload_n G dH_proxy_47 rfl rfl ?_
  refine hr_get (v := .int (S 0 0 9)) G fH_125 (hA.lt (show 0 < hw_n0 0 by decide)) rfl dH_proxy_48 ?_
  refine hr_sipush (v := 150) G dH_proxy_51 (by decide) ?_
  refine hr_icmp_lt (tgt := 67) G dH_proxy_54 (by decide) (fun _ => ?_) (fun h => absurd (show S 0 0 9 < 150 by rw [hc11]; exact (nI_ltI (b := 150) (by omega) (by decide)).mpr h150) h)
  refine hr_aload_n G dH_proxy_67 rfl rfl ?_
  refine hr_get (v := .ref (hw_a B 9 s)) G fH_167 hi (hw_rdy hts (by omega)) dH_proxy_68 ?_
  refine hr_aload_n G dH_proxy_71 rfl rfl ?_
  refine hr_get (v := .int (S 0 0 11)) G fH_106 (hA.lt (show 0 < hw_n0 0 by decide)) rfl dH_proxy_72 ?_
  refine hr_put (x := (S 0 0 11)) G fH_150 hs rfl (rfl) rfl dH_proxy_75 ?_
  refine hr_aload_n G dH_proxy_78 rfl rfl ?_
  refine hr_iconst (v := 1) G dH_proxy_79 (by decide) ?_
  refine hr_aload_n G dH_proxy_80 rfl rfl ?_
  refine hr_get (v := .ref (hw_a B 9 s)) G fH_167 hi (hw_rdy hts (by omega)) dH_proxy_81 ?_
  refine hr_iload_n G dH_proxy_84 rfl rfl ?_
  refine hr_aload_n G dH_proxy_85 rfl rfl ?_
  refine hr_callVs (k := 0) (i := 0) G rfl rfl (hA.lt (show 0 < hw_n0 0 by decide)) kH_130 iH_giveTicket vH_giveTicket (m_H_giveTicket_p _ _ _ (hw_sv S 9 s 4 (S 0 0 11)) _ hA (hF.sv rfl) 1 s hs (by omega) (nI w) hc11 h150 hz i hi) rfl rfl (Nat.le_of_ble_eq_true rfl) ⟨by rw [hR]; decide, by rw [hR]; decide⟩ ⟨by rw [hR]; decide, by rw [hR]; decide⟩ dH_proxy_86 ?_
  refine hr_get (v := .int (nI (nb 11))) G fH_138 hw_nbs (by show Value.int _ = Value.int _; rw [← hc11]; simp [hs_giv, tk_new, hw_sv, hw_nw]) dH_proxy_89 ?_
  exact hr_iret G hr hw_QX.of dH_proxy_92 ⟨rfl, rfl, fun _ _ _ _ _ => rfl, hT⟩
set_option maxRecDepth 100000 in
set_option maxHeartbeats 1000000 in
theorem m_H_logout_a (l : Launch) (hst : l.stackTraces = false) (B : hw_B) (nb : Nat → Nat) (S : hw_St) (z : Nat) (x : Int32) (hx : x < 0 ∨ S 0 0 8 ≤ x) (hI : ic nb S) : hw_MX l yH_logout cH_logout 3 (some .int) ({ frames := 6, cells := 1, slots := 6, locals := 100 }) B [.ref (hw_a B 0 0), .int x] nb S z (hw_qp (.inr "java/lang/IllegalArgumentException") nb S) := by
  refine hw_MX.of (by decide) (Nat.le_of_ble_eq_true rfl) ?_
  intro X fr hl hR G hr htab
  obtain ⟨hA, hF, ⟨hn9, hc9⟩, ⟨hn11, hc11⟩, ⟨nm, hnm1, hnm2⟩, hT, hSe, hTi, hU, hW0, hW⟩ := hI
  refine hr_aload_n G dH_logout_0 rfl rfl ?_
  refine hr_iload_n G dH_logout_1 rfl rfl ?_
  refine hr_callVs (k := 0) (i := 0) G rfl rfl (hA.lt (show 0 < hw_n0 0 by decide)) kH_139 iH_findSession vH_findSession (m_H_findSession_n _ _ _ _ _ hA hF x hx) rfl rfl (Nat.le_of_ble_eq_true rfl) ⟨by rw [hR]; decide, by rw [hR]; decide⟩ ⟨by rw [hR]; decide, by rw [hR]; decide⟩ dH_logout_2 ?_
  refine hr_astore_nN (i := 2) G dH_logout_5 rfl (by decide) ?_
  refine hr_aload_nN G dH_logout_6 rfl rfl ?_
  refine hr_ifnonnullN G dH_logout_7 ?_
  exact hr_throw (E := "java/lang/IllegalArgumentException") (names := ["java/lang/RuntimeException", "java/lang/Exception"]) (si := 26) G (by rw [hl]; exact hst) htab (by decide) (by decide) qH_51 in_IAE rfl at_IAE go_IAE dH_logout_10 dH_logout_13 dH_logout_14 dH_logout_16 dH_logout_19 (by rw [hR]; decide) (by rw [hR]; decide) (by rw [hR]; decide) (by rw [hR]; decide) (by decide) (by decide) (fun _ _ => ⟨rfl, rfl, eqv.rf hT⟩)
set_option maxRecDepth 100000 in
set_option maxHeartbeats 1000000 in
theorem m_H_logout_b (l : Launch) (hst : l.stackTraces = false) (B : hw_B) (nb : Nat → Nat) (S : hw_St) (z : Nat) (s : Nat) (hs : s < nb 9) (ho : S 9 s 5 = 0) (hI : ic nb S) : hw_MX l yH_logout cH_logout 3 (some .int) ({ frames := 6, cells := 1, slots := 6, locals := 100 }) B [.ref (hw_a B 0 0), .int (nI s)] nb S z (hw_qp (.inr "java/lang/IllegalStateException") nb S) := by
  refine hw_MX.of (by decide) (Nat.le_of_ble_eq_true rfl) ?_
  intro X fr hl hR G hr htab
  obtain ⟨hA, hF, ⟨hn9, hc9⟩, ⟨hn11, hc11⟩, ⟨nm, hnm1, hnm2⟩, hT, hSe, hTi, hU, hW0, hW⟩ := hI
  refine hr_aload_n G dH_logout_0 rfl rfl ?_
  refine hr_iload_n G dH_logout_1 rfl rfl ?_
  refine hr_callVs (k := 0) (i := 0) G rfl rfl (hA.lt (show 0 < hw_n0 0 by decide)) kH_139 iH_findSession vH_findSession (m_H_findSession_y _ _ _ _ _ hA hF s (nb 9) hc9 hn9 hs (hSe s hs).1) rfl rfl (Nat.le_of_ble_eq_true rfl) ⟨by rw [hR]; decide, by rw [hR]; decide⟩ ⟨by rw [hR]; decide, by rw [hR]; decide⟩ dH_logout_2 ?_
  refine hr_astore_n (i := 2) G dH_logout_5 rfl (by decide) ?_
  refine hr_aload_n G dH_logout_6 rfl rfl ?_
  refine hr_ifnonnull (tgt := 20) G dH_logout_7 (by decide) ?_
  refine hr_aload_n G dH_logout_20 rfl rfl ?_
  refine hr_get (v := .int (S 9 s 5)) G fH_145 hs rfl dH_logout_21 ?_
  refine hr_if_ne (tgt := 37) G dH_logout_24 (by decide) (fun h => absurd ho h) (fun _ => ?_)
  exact hr_throw (E := "java/lang/IllegalStateException") (names := ["java/lang/RuntimeException", "java/lang/Exception"]) (si := 27) G (by rw [hl]; exact hst) htab (by decide) (by decide) qH_62 in_ISE rfl at_ISE go_ISE dH_logout_27 dH_logout_30 dH_logout_31 dH_logout_33 dH_logout_36 (by rw [hR]; decide) (by rw [hR]; decide) (by rw [hR]; decide) (by rw [hR]; decide) (by decide) (by decide) (fun _ _ => ⟨rfl, rfl, eqv.rf hT⟩)
theorem ms_r.tx {S S' : hw_St} (h : ms_r S S') (hT : ∀ t, t < 18 → tx_ok S t) : ∀ t, t < 18 → tx_ok S' t := fun t ht => by
  obtain ⟨⟨n, h1, h2⟩, h3⟩ := hT t ht
  exact ⟨⟨n, h1, by rw [h.1 4 t 1 (by decide) (by omega)]; exact h2⟩, fun j => by rw [h.1 5 t j (by decide) (by omega)]; exact h3 j⟩
theorem ic_ms {nb : Nat → Nat} {S S' : hw_St} (hI : ic nb S) (h : ms_r S S') : ic nb S' := by
  refine ip.ic ⟨hI.ip.1, hI.ip.2.1, hI.ip.2.2.1, fun k i j => ?_⟩
  by_cases e : k = 12
  · subst e; exact ipp_12
  · by_cases e2 : k = 0 ∧ j = 10
    · obtain ⟨rfl, rfl⟩ := e2
      by_cases e3 : i = 0
      · subst e3; exact ipp_0_10 h.2
      · refine ⟨fun v hi => absurd hi (fun q => e3 (Nat.lt_one_iff.mp q)), fun e => absurd e.2.1 e3, fun e => absurd e.2.1 e3, fun e => absurd e.2.1 e3, fun e => (nomatch e.1), fun e => (nomatch e.1), fun e => (nomatch e.1), fun e => (nomatch e.1), fun e => (nomatch e.1), fun e => (nomatch e.1), fun e => (nomatch e.1), fun e => (nomatch e.1), fun e => (nomatch e.1)⟩
    · rw [h.1 k i j e e2]; exact hI.ip.2.2.2 k i j
theorem ic_end {nb : Nat → Nat} {S : hw_St} (hI : ic nb S) (s k : Nat) : ms_r (hw_sv S 9 s 5 0) (hs_endk s (hw_sv S 9 s 5 0) k) ∧ ic nb (hs_endk s (hw_sv S 9 s 5 0) k) := by
  have h1 : ic nb (hw_sv S 9 s 5 0) := ic_sv hI (ipp_9_5 (Or.inl rfl))
  have h2 : ms_r (hw_sv S 9 s 5 0) (hs_endk s (hw_sv S 9 s 5 0) k) := hs_endk_r h1.2.2.2.2.1 k
  exact ⟨h2, ic_ms h1 h2⟩
set_option maxRecDepth 100000 in
set_option maxHeartbeats 1000000 in
theorem m_H_logout_c (l : Launch) (hst : l.stackTraces = false) (B : hw_B) (nb : Nat → Nat) (S : hw_St) (z : Nat) (s : Nat) (hs : s < nb 9) (ho : ¬ S 9 s 5 = 0) (hI : ic nb S) : hw_MX l yH_logout cH_logout 3 (some .int) ({ frames := 6, cells := 1, slots := 6, locals := 100 }) B [.ref (hw_a B 0 0), .int (nI s)] nb S z (hw_qp (.inl (some (.int ((hs_endk s (hw_sv S 9 s 5 0) (nb 11)) 0 0 10 - S 0 0 10)))) nb (hs_endk s (hw_sv S 9 s 5 0) (nb 11))) := by
  refine hw_MX.of (by decide) (Nat.le_of_ble_eq_true rfl) ?_
  intro X fr hl hR G hr htab
  have hI0 := hI
  obtain ⟨hA, hF, ⟨hn9, hc9⟩, ⟨hn11, hc11⟩, ⟨nm, hnm1, hnm2⟩, hT, hSe, hTi, hU, hW0, hW⟩ := hI
  refine hr_aload_n G dH_logout_0 rfl rfl ?_
  refine hr_iload_n G dH_logout_1 rfl rfl ?_
  refine hr_callVs (k := 0) (i := 0) G rfl rfl (hA.lt (show 0 < hw_n0 0 by decide)) kH_139 iH_findSession vH_findSession (m_H_findSession_y _ _ _ _ _ hA hF s (nb 9) hc9 hn9 hs (hSe s hs).1) rfl rfl (Nat.le_of_ble_eq_true rfl) ⟨by rw [hR]; decide, by rw [hR]; decide⟩ ⟨by rw [hR]; decide, by rw [hR]; decide⟩ dH_logout_2 ?_
  refine hr_astore_n (i := 2) G dH_logout_5 rfl (by decide) ?_
  refine hr_aload_n G dH_logout_6 rfl rfl ?_
  refine hr_ifnonnull (tgt := 20) G dH_logout_7 (by decide) ?_
  refine hr_aload_n G dH_logout_20 rfl rfl ?_
  refine hr_get (v := .int (S 9 s 5)) G fH_145 hs rfl dH_logout_21 ?_
  refine hr_if_ne (tgt := 37) G dH_logout_24 (by decide) (fun _ => ?_) (fun h => absurd h ho)
  refine hr_aload_n G dH_logout_37 rfl rfl ?_
  refine hr_aload_n G dH_logout_38 rfl rfl ?_
  refine hr_callVs (k := 0) (i := 0) G rfl rfl (hA.lt (show 0 < hw_n0 0 by decide)) kH_195 iH_end vH_end (m_H_end _ _ _ _ _ s hI0 hs) rfl rfl (Nat.le_of_ble_eq_true rfl) ⟨by rw [hR]; decide, by rw [hR]; decide⟩ ⟨by rw [hR]; decide, by rw [hR]; decide⟩ dH_logout_39 ?_
  refine hr_wide (c' := 1) (sl' := 6) (Nat.le_of_ble_eq_true rfl) (Nat.le_of_ble_eq_true rfl) ?_
  exact hr_iret G hr hw_QX.of dH_logout_42 ⟨rfl, rfl, eqv.rf (ic_end hI0 s (nb 11)).2.2.2.2.2.2.1⟩
