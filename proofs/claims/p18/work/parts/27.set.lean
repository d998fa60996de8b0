/-! The calls that set. -/
/-- alike but for the characters of texts and the page's length -/
def eqv (S S' : hw_St) : Prop := (∀ k i j, ¬ k = 5 → ¬ (k = 4 ∧ i = 17 ∧ j = 1) → S' k i j = S k i j) ∧ ∀ t, t < 18 → tx_ok S' t
theorem eqv.rf {S : hw_St} (h : ∀ t, t < 18 → tx_ok S t) : eqv S S := ⟨fun _ _ _ _ _ => rfl, h⟩
def hw_qp (o : hw_O) (nb : Nat → Nat) (S : hw_St) : hw_T := fun oc nb' S' _ => oc = o ∧ nb' = nb ∧ eqv S S'
theorem eqv_add {S : hw_St} {n : Nat} {c : Int32} (hn : S 4 16 1 = nI n) (h : n < 8) (hc : ib_c c) (hT : ∀ t, t < 18 → tx_ok S t) : eqv (hw_sv S 4 16 1 (nI (n + 1))) (tx_add S 16 n c) := by
  have hr : tx_r 16 S (tx_add S 16 n c) := tx_r.add hn (Nat.le_of_lt h) hc (hT 16 (by decide)).2
  refine ⟨fun k i j a b => ?_, fun t ht => ?_⟩
  · unfold tx_add
    rw [if_pos (show n < hw_ln 5 16 from h)]
    unfold hw_sv
    split
    · rfl
    · rw [if_neg (fun e => a e.1)]
  · by_cases e : t = 16
    · subst e; exact hr.2
    · exact hr.ot e (hT t ht)
def hs_en (S : hw_St) (x : Int32) : Int32 := if x < 0 ∨ 6 ≤ x then 0 else hs_fl S x.toNatClampNeg 1
theorem hs_en_y {S : hw_St} {w : Nat} (h : w < 6) : hs_en S (nI w) = hs_fl S w 1 := by
  unfold hs_en
  rw [if_neg, nI_clamp (by omega)]
  rintro (q | q)
  · exact nI_pos (by omega) q
  · exact nI_ge (b := 6) h (by decide) q
theorem m_H_isEnabled (l : Launch) (B : hw_B) (nb : Nat → Nat) (S : hw_St) (z : Nat) (hA : hw_al nb) (hF : hw_Fx S) (x : Int32) : hw_M l yH_isEnabled cH_isEnabled 2 (some .boolean) ({ frames := 2, cells := 0, slots := 0, locals := 42 }) B [.ref (hw_a B 0 0), .int x] nb S z (hw_p (.inl (some (.int (hs_en S x)))) nb S z) := by
  rcases ib_rng x 6 (by decide) with ⟨w, hw, rfl⟩ | h
  · rw [hs_en_y hw]
    exact m_H_isEnabled_y l B nb S z hA hF w hw
  · have e : hs_en S x = 0 := by unfold hs_en; exact if_pos h
    rw [e]
    exact m_H_isEnabled_n l B nb S z hA x h
set_option maxRecDepth 100000 in
set_option maxHeartbeats 1000000 in
theorem m_H_letter_a (l : Launch) (hst : l.stackTraces = false) (B : hw_B) (nb : Nat → Nat) (S : hw_St) (z : Nat) (x : Int32) (hx : x < 32 ∨ ¬ x ≤ 126) (hI : ic nb S) : hw_MX l yH_letter cH_letter 2 (some .int) ({ frames := 6, cells := 1, slots := 6, locals := 90 }) B [.ref (hw_a B 0 0), .int x] nb S z (hw_qp (.inr "java/lang/IllegalArgumentException") nb S) := by
  refine hw_MX.of (by decide) (Nat.le_of_ble_eq_true rfl) ?_
  intro X fr hl hR G hr htab
  obtain ⟨hA, hF, ⟨hn9, hc9⟩, ⟨hn11, hc11⟩, ⟨nm, hnm1, hnm2⟩, hT, hSe, hTi, hU, hW0, hW⟩ := hI
  refine hr_iload_n G dH_letter_0 rfl rfl ?_
  refine hr_bipush (v := 32) G dH_letter_1 (by decide) ?_
  refine hr_icmp_lt (tgt := 12) G dH_letter_3 (by decide) (fun h3 => ?_) (fun h3 => ?_)
  · skip
    exact hr_throw (E := "java/lang/IllegalArgumentException") (names := ["java/lang/RuntimeException", "java/lang/Exception"]) (si := 0) G (by rw [hl]; exact hst) htab (by decide) (by decide) qH_51 in_IAE rfl at_IAE go_IAE dH_letter_12 dH_letter_15 dH_letter_16 dH_letter_18 dH_letter_21 (by rw [hR]; decide) (by rw [hR]; decide) (by rw [hR]; decide) (by rw [hR]; decide) (by decide) (by decide) (fun _ _ => ⟨rfl, rfl, eqv.rf hT⟩)
  · skip
    refine hr_iload_n G dH_letter_6 rfl rfl ?_
    refine hr_bipush (v := 126) G dH_letter_7 (by decide) ?_
    refine hr_icmp_le (tgt := 22) G dH_letter_9 (by decide) (fun h => absurd h (hx.resolve_left h3)) (fun _ => ?_)
    exact hr_throw (E := "java/lang/IllegalArgumentException") (names := ["java/lang/RuntimeException", "java/lang/Exception"]) (si := 0) G (by rw [hl]; exact hst) htab (by decide) (by decide) qH_51 in_IAE rfl at_IAE go_IAE dH_letter_12 dH_letter_15 dH_letter_16 dH_letter_18 dH_letter_21 (by rw [hR]; decide) (by rw [hR]; decide) (by rw [hR]; decide) (by rw [hR]; decide) (by decide) (by decide) (fun _ _ => ⟨rfl, rfl, eqv.rf hT⟩)
set_option maxRecDepth 100000 in
set_option maxHeartbeats 1000000 in
theorem m_H_letter_b (l : Launch) (hst : l.stackTraces = false) (B : hw_B) (nb : Nat → Nat) (S : hw_St) (z : Nat) (x : Int32) (hx1 : ¬ x < 32) (hx2 : x ≤ 126) (hn : ¬ S 4 16 1 < 8) (hI : ic nb S) : hw_MX l yH_letter cH_letter 2 (some .int) ({ frames := 6, cells := 1, slots := 6, locals := 90 }) B [.ref (hw_a B 0 0), .int x] nb S z (hw_qp (.inr "java/lang/IllegalStateException") nb S) := by
  refine hw_MX.of (by decide) (Nat.le_of_ble_eq_true rfl) ?_
  intro X fr hl hR G hr htab
  obtain ⟨hA, hF, ⟨hn9, hc9⟩, ⟨hn11, hc11⟩, ⟨nm, hnm1, hnm2⟩, hT, hSe, hTi, hU, hW0, hW⟩ := hI
  refine hr_iload_n G dH_letter_0 rfl rfl ?_
  refine hr_bipush (v := 32) G dH_letter_1 (by decide) ?_
  refine hr_icmp_lt (tgt := 12) G dH_letter_3 (by decide) (fun h => absurd h hx1) (fun _ => ?_)
  refine hr_iload_n G dH_letter_6 rfl rfl ?_
  refine hr_bipush (v := 126) G dH_letter_7 (by decide) ?_
  refine hr_icmp_le (tgt := 22) G dH_letter_9 (by decide) (fun _ => ?_) (fun h => absurd hx2 h)
  refine hr_aload_n G dH_letter_22 rfl rfl ?_
  refine hr_get (v := .ref (hw_a B 4 16)) G fH_43 (hA.lt (show 0 < hw_n0 0 by decide)) (hw_rfx hF (by decide) rfl (by decide)) dH_letter_23 ?_
  refine hr_get (v := .int (S 4 16 1)) G fH_58 (hA.lt (show 16 < hw_n0 4 by decide)) rfl dH_letter_26 ?_
  refine hr_bipush (v := 8) G dH_letter_29 (by decide) ?_
  refine hr_icmp_lt (tgt := 44) G dH_letter_31 (by decide) (fun h => absurd h hn) (fun _ => ?_)
  exact hr_throw (E := "java/lang/IllegalStateException") (names := ["java/lang/RuntimeException", "java/lang/Exception"]) (si := 1) G (by rw [hl]; exact hst) htab (by decide) (by decide) qH_62 in_ISE rfl at_ISE go_ISE dH_letter_34 dH_letter_37 dH_letter_38 dH_letter_40 dH_letter_43 (by rw [hR]; decide) (by rw [hR]; decide) (by rw [hR]; decide) (by rw [hR]; decide) (by decide) (by decide) (fun _ _ => ⟨rfl, rfl, eqv.rf hT⟩)
set_option maxRecDepth 100000 in
set_option maxHeartbeats 1000000 in
theorem m_H_letter_c (l : Launch) (hst : l.stackTraces = false) (B : hw_B) (nb : Nat → Nat) (S : hw_St) (z : Nat) (x : Int32) (hx1 : ¬ x < 32) (hx2 : x ≤ 126) (n : Nat) (hn : S 4 16 1 = nI n) (hn8 : n < 8) (hI : ic nb S) : hw_MX l yH_letter cH_letter 2 (some .int) ({ frames := 6, cells := 1, slots := 6, locals := 90 }) B [.ref (hw_a B 0 0), .int x] nb S z (hw_qp (.inl (some (.int (nI (n + 1))))) nb (hw_sv S 4 16 1 (nI (n + 1)))) := by
  refine hw_MX.of (by decide) (Nat.le_of_ble_eq_true rfl) ?_
  intro X fr hl hR G hr htab
  obtain ⟨hA, hF, ⟨hn9, hc9⟩, ⟨hn11, hc11⟩, ⟨nm, hnm1, hnm2⟩, hT, hSe, hTi, hU, hW0, hW⟩ := hI
  refine hr_iload_n G dH_letter_0 rfl rfl ?_
  refine hr_bipush (v := 32) G dH_letter_1 (by decide) ?_
  refine hr_icmp_lt (tgt := 12) G dH_letter_3 (by decide) (fun h => absurd h hx1) (fun _ => ?_)
  refine hr_iload_n G dH_letter_6 rfl rfl ?_
  refine hr_bipush (v := 126) G dH_letter_7 (by decide) ?_
  refine hr_icmp_le (tgt := 22) G dH_letter_9 (by decide) (fun _ => ?_) (fun h => absurd hx2 h)
  refine hr_aload_n G dH_letter_22 rfl rfl ?_
  refine hr_get (v := .ref (hw_a B 4 16)) G fH_43 (hA.lt (show 0 < hw_n0 0 by decide)) (hw_rfx hF (by decide) rfl (by decide)) dH_letter_23 ?_
  refine hr_get (v := .int (S 4 16 1)) G fH_58 (hA.lt (show 16 < hw_n0 4 by decide)) rfl dH_letter_26 ?_
  refine hr_bipush (v := 8) G dH_letter_29 (by decide) ?_
  refine hr_icmp_lt (tgt := 44) G dH_letter_31 (by decide) (fun _ => ?_) (fun h => absurd (show S 4 16 1 < 8 by rw [hn]; exact (nI_ltI (by omega) (by decide)).mpr hn8) h)
  refine hr_aload_n G dH_letter_44 rfl rfl ?_
  refine hr_get (v := .ref (hw_a B 4 16)) G fH_43 (hA.lt (show 0 < hw_n0 0 by decide)) (hw_rfx hF (by decide) rfl (by decide)) dH_letter_45 ?_
  refine hr_iload_n G dH_letter_48 rfl rfl ?_
  refine hr_i2c G dH_letter_49 ?_
  refine hr_callVn (k := 4) (i := 16) G rfl rfl (hA.lt (show 16 < hw_n0 4 by decide)) kH_67 iT_add vT_add (m_T_add _ _ _ _ _ 16 hA hF (by decide) n (x.toUInt32 % 65536).toInt32 hn (Nat.le_of_lt hn8) (pk_nc _)) rfl rfl (Nat.le_of_ble_eq_true rfl) ⟨by rw [hR]; decide, by rw [hR]; decide⟩ ⟨by rw [hR]; decide, by rw [hR]; decide⟩ dH_letter_50 ?_
  refine hr_aload_n G dH_letter_53 rfl rfl ?_
  refine hr_get (v := .ref (hw_a B 4 16)) G fH_43 (hA.lt (show 0 < hw_n0 0 by decide)) (hw_rfx ((tx_r.add hn (Nat.le_of_lt hn8) (pk_nc x) (hT 16 (by decide)).2).fx hF) (by decide) rfl (by decide)) dH_letter_54 ?_
  refine hr_get (v := .int ((tx_add S 16 n (x.toUInt32 % 65536).toInt32) 4 16 1)) G fH_58 (hA.lt (show 16 < hw_n0 4 by decide)) rfl dH_letter_57 ?_
  refine hr_wide (c' := 1) (sl' := 6) (Nat.le_of_ble_eq_true rfl) (Nat.le_of_ble_eq_true rfl) ?_
  exact hr_iret G hr hw_QX.of dH_letter_60 ⟨by rw [tx_add_len (show n < hw_ln 5 16 from hn8)], rfl, eqv_add hn hn8 (pk_nc _) hT⟩
set_option maxRecDepth 100000 in
set_option maxHeartbeats 1000000 in
theorem m_H_text_a (l : Launch) (hst : l.stackTraces = false) (B : hw_B) (nb : Nat → Nat) (S : hw_St) (z : Nat) (x y : Int32) (hx : x < 0 ∨ 4 ≤ x) (hI : ic nb S) : hw_MX l yH_text cH_text 5 (some .int) ({ frames := 6, cells := 1, slots := 6, locals := 90 }) B [.ref (hw_a B 0 0), .int x, .int y] nb S z (hw_qp (.inr "java/lang/IllegalArgumentException") nb S) := by
  refine hw_MX.of (by decide) (Nat.le_of_ble_eq_true rfl) ?_
  intro X fr hl hR G hr htab
  obtain ⟨hA, hF, ⟨hn9, hc9⟩, ⟨hn11, hc11⟩, ⟨nm, hnm1, hnm2⟩, hT, hSe, hTi, hU, hW0, hW⟩ := hI
  refine hr_aload_n G dH_text_0 rfl rfl ?_
  refine hr_iload_n G dH_text_1 rfl rfl ?_
  refine hr_callVs (k := 0) (i := 0) G rfl rfl (hA.lt (show 0 < hw_n0 0 by decide)) kH_71 iH_findUser vH_findUser (m_H_findUser_n _ _ _ _ _ x hx) rfl rfl (Nat.le_of_ble_eq_true rfl) ⟨by rw [hR]; decide, by rw [hR]; decide⟩ ⟨by rw [hR]; decide, by rw [hR]; decide⟩ dH_text_2 ?_
  refine hr_astore_nN (i := 3) G dH_text_5 rfl (by decide) ?_
  refine hr_aload_nN G dH_text_6 rfl rfl ?_
  refine hr_ifnullN (tgt := 19) G dH_text_7 (by decide) ?_
  exact hr_throw (E := "java/lang/IllegalArgumentException") (names := ["java/lang/RuntimeException", "java/lang/Exception"]) (si := 2) G (by rw [hl]; exact hst) htab (by decide) (by decide) qH_51 in_IAE rfl at_IAE go_IAE dH_text_19 dH_text_22 dH_text_23 dH_text_25 dH_text_28 (by rw [hR]; decide) (by rw [hR]; decide) (by rw [hR]; decide) (by rw [hR]; decide) (by decide) (by decide) (fun _ _ => ⟨rfl, rfl, eqv.rf hT⟩)
set_option maxRecDepth 100000 in
set_option maxHeartbeats 1000000 in
theorem m_H_text_b (l : Launch) (hst : l.stackTraces = false) (B : hw_B) (nb : Nat → Nat) (S : hw_St) (z : Nat) (u : Nat) (y : Int32) (hu : u < 4) (hy : y < 0 ∨ ¬ y ≤ 3) (hI : ic nb S) : hw_MX l yH_text cH_text 5 (some .int) ({ frames := 6, cells := 1, slots := 6, locals := 90 }) B [.ref (hw_a B 0 0), .int (nI u), .int y] nb S z (hw_qp (.inr "java/lang/IllegalArgumentException") nb S) := by
  refine hw_MX.of (by decide) (Nat.le_of_ble_eq_true rfl) ?_
  intro X fr hl hR G hr htab
  obtain ⟨hA, hF, ⟨hn9, hc9⟩, ⟨hn11, hc11⟩, ⟨nm, hnm1, hnm2⟩, hT, hSe, hTi, hU, hW0, hW⟩ := hI
  refine hr_aload_n G dH_text_0 rfl rfl ?_
  refine hr_iload_n G dH_text_1 rfl rfl ?_
  refine hr_callVs (k := 0) (i := 0) G rfl rfl (hA.lt (show 0 < hw_n0 0 by decide)) kH_71 iH_findUser vH_findUser (m_H_findUser_y _ _ _ _ _ hA hF u hu) rfl rfl (Nat.le_of_ble_eq_true rfl) ⟨by rw [hR]; decide, by rw [hR]; decide⟩ ⟨by rw [hR]; decide, by rw [hR]; decide⟩ dH_text_2 ?_
  refine hr_astore_n (i := 3) G dH_text_5 rfl (by decide) ?_
  refine hr_aload_n G dH_text_6 rfl rfl ?_
  refine hr_ifnull G dH_text_7 ?_
  refine hr_iload_n G dH_text_10 rfl rfl ?_
  refine hr_if_lt (tgt := 19) G dH_text_11 (by decide) (fun h11 => ?_) (fun h11 => ?_)
  · skip
    exact hr_throw (E := "java/lang/IllegalArgumentException") (names := ["java/lang/RuntimeException", "java/lang/Exception"]) (si := 2) G (by rw [hl]; exact hst) htab (by decide) (by decide) qH_51 in_IAE rfl at_IAE go_IAE dH_text_19 dH_text_22 dH_text_23 dH_text_25 dH_text_28 (by rw [hR]; decide) (by rw [hR]; decide) (by rw [hR]; decide) (by rw [hR]; decide) (by decide) (by decide) (fun _ _ => ⟨rfl, rfl, eqv.rf hT⟩)
  · skip
    refine hr_iload_n G dH_text_14 rfl rfl ?_
    refine hr_iconst (v := 3) G dH_text_15 (by decide) ?_
    refine hr_icmp_le (tgt := 29) G dH_text_16 (by decide) (fun h => absurd h (hy.resolve_left h11)) (fun _ => ?_)
    exact hr_throw (E := "java/lang/IllegalArgumentException") (names := ["java/lang/RuntimeException", "java/lang/Exception"]) (si := 2) G (by rw [hl]; exact hst) htab (by decide) (by decide) qH_51 in_IAE rfl at_IAE go_IAE dH_text_19 dH_text_22 dH_text_23 dH_text_25 dH_text_28 (by rw [hR]; decide) (by rw [hR]; decide) (by rw [hR]; decide) (by rw [hR]; decide) (by decide) (by decide) (fun _ _ => ⟨rfl, rfl, eqv.rf hT⟩)
theorem eqv_text {S S1 : hw_St} {t n : Nat} (ht : t < 16) (h : tx_r t S S1) (hn : S1 4 t 1 = nI n) (hT : ∀ t, t < 18 → tx_ok S t) : eqv (hw_sv (hw_sv S 4 t 1 (nI n)) 4 16 1 0) (hw_sv S1 4 16 1 0) := by
  have h2 : tx_r 16 S1 (hw_sv S1 4 16 1 0) := tx_r.len 0 (Nat.zero_le _) (h.ot (by omega) (hT 16 (by decide))).2
  refine ⟨fun k i j a b => ?_, fun t' ht' => ?_⟩
  · by_cases e : k = 4 ∧ i = 16 ∧ j = 1
    · obtain ⟨rfl, rfl, rfl⟩ := e
      rw [hw_sv_same, hw_sv_same]
    · by_cases e2 : k = 4 ∧ i = t ∧ j = 1
      · obtain ⟨rfl, rfl, rfl⟩ := e2
        unfold hw_sv
        rw [if_neg e, if_neg e, if_pos ⟨rfl, rfl, rfl⟩]; exact hn
      · unfold hw_sv
        rw [if_neg e, if_neg e, if_neg e2]
        exact h.1 k i j (fun q => a q.1) e2
  · by_cases e : t' = 16
    · subst e; exact h2.2
    · refine h2.ot e ?_
      by_cases e2 : t' = t
      · subst e2; exact h.2
      · exact h.ot e2 (hT t' ht')
theorem hw_ln8 {t : Nat} (h : t < 17) : hw_ln 5 t = 8 := by
  rcases (show t = 0 ∨ t = 1 ∨ t = 2 ∨ t = 3 ∨ t = 4 ∨ t = 5 ∨ t = 6 ∨ t = 7 ∨ t = 8 ∨ t = 9 ∨ t = 10 ∨ t = 11 ∨ t = 12 ∨ t = 13 ∨ t = 14 ∨ t = 15 ∨ t = 16 by omega) with rfl | rfl | rfl | rfl | rfl | rfl | rfl | rfl | rfl | rfl | rfl | rfl | rfl | rfl | rfl | rfl | rfl <;> rfl
set_option maxRecDepth 100000 in
set_option maxHeartbeats 1000000 in
theorem m_H_text_c (l : Launch) (hst : l.stackTraces = false) (B : hw_B) (nb : Nat → Nat) (S : hw_St) (z : Nat) (u j n : Nat) (hu : u < 4) (hj : j < 4) (hn : S 4 16 1 = nI n) (hn8 : n ≤ 8) (hI : ic nb S) : hw_MX l yH_text cH_text 5 (some .int) ({ frames := 6, cells := 1, slots := 6, locals := 90 }) B [.ref (hw_a B 0 0), .int (nI u), .int (nI j)] nb S z (hw_qp (.inl (some (.int (nI n)))) nb (hw_sv (hw_sv S 4 (4 * u + j) 1 (nI n)) 4 16 1 0)) := by
  refine hw_MX.of (by decide) (Nat.le_of_ble_eq_true rfl) ?_
  intro X fr hl hR G hr htab
  obtain ⟨hA, hF, ⟨hn9, hc9⟩, ⟨hn11, hc11⟩, ⟨nm, hnm1, hnm2⟩, hT, hSe, hTi, hU, hW0, hW⟩ := hI
  refine hr_aload_n G dH_text_0 rfl rfl ?_
  refine hr_iload_n G dH_text_1 rfl rfl ?_
  refine hr_callVs (k := 0) (i := 0) G rfl rfl (hA.lt (show 0 < hw_n0 0 by decide)) kH_71 iH_findUser vH_findUser (m_H_findUser_y _ _ _ _ _ hA hF u hu) rfl rfl (Nat.le_of_ble_eq_true rfl) ⟨by rw [hR]; decide, by rw [hR]; decide⟩ ⟨by rw [hR]; decide, by rw [hR]; decide⟩ dH_text_2 ?_
  refine hr_astore_n (i := 3) G dH_text_5 rfl (by decide) ?_
  refine hr_aload_n G dH_text_6 rfl rfl ?_
  refine hr_ifnull G dH_text_7 ?_
  refine hr_iload_n G dH_text_10 rfl rfl ?_
  refine hr_if_lt (tgt := 19) G dH_text_11 (by decide) (fun h => absurd h (nI_pos (by omega))) (fun _ => ?_)
  refine hr_iload_n G dH_text_14 rfl rfl ?_
  refine hr_iconst (v := 3) G dH_text_15 (by decide) ?_
  refine hr_icmp_le (tgt := 29) G dH_text_16 (by decide) (fun _ => ?_) (fun h => absurd (show nI j ≤ 3 from nI_le (b := 3) (by omega) (by decide)) h)
  refine hr_aload_n G dH_text_29 rfl rfl ?_
  refine hr_get (v := .ref (hw_a B 3 u)) G fH_77 (hA.lt hu) (hw_rfx hF hu rfl (by omega)) dH_text_30 ?_
  refine hr_iload_n G dH_text_33 rfl rfl ?_
  refine hr_aald (n := j) (v := .ref (hw_a B 4 (4 * u + j))) G rfl (by decide) rfl (hA.lt hu) rfl (show j < 4 by omega) (hw_rfx hF hu rfl (by omega)) dH_text_34 ?_
  refine hr_astore (i := 4) G dH_text_35 (by decide) ?_
  refine hr_aload G dH_text_37 rfl ?_
  refine hr_aload_n G dH_text_39 rfl rfl ?_
  refine hr_get (v := .ref (hw_a B 4 16)) G fH_43 (hA.lt (show 0 < hw_n0 0 by decide)) (hw_rfx hF (by decide) rfl (by decide)) dH_text_40 ?_
  refine hr_callV (k := 4) (i := 4 * u + j) (ci := 2) (T := FT) (N := 2) G rfl rfl (hA.lt (show 4 * u + j < 18 by omega)) kH_81 iT_become vT_become (m_T_become _ _ _ _ _ (4 * u + j) hA hF (by omega) (hT _ (by omega)) 16 n (by decide) (by omega) hn hn8 (hT 16 (by decide)).2 (by rw [hw_ln8 (by omega)]; exact hn8)) rfl rfl (Nat.le_of_ble_eq_true rfl) ⟨by rw [hR]; decide, by rw [hR]; decide⟩ ⟨by rw [hR]; decide, by rw [hR]; decide⟩ dH_text_43 (fun r nb2 S2 z2 hp => ?_)
  obtain ⟨hr1, rfl, ⟨hr2, hr3⟩, rfl⟩ := hp
  obtain rfl := Sum.inl.inj hr1
  have hF2 := hr2.fx hF
  refine hr_aload_n G dH_text_46 rfl rfl ?_
  refine hr_get (v := .ref (hw_a B 4 16)) G fH_43 (hA.lt (show 0 < hw_n0 0 by decide)) (hw_rfx hF2 (by decide) rfl (by decide)) dH_text_47 ?_
  refine hr_callVn (k := 4) (i := 16) G rfl rfl (hA.lt (show 16 < hw_n0 4 by decide)) kH_85 iT_clear vT_clear (m_T_clear _ _ _ _ _ 16 hA hF2 (by decide)) rfl rfl (Nat.le_of_ble_eq_true rfl) ⟨by rw [hR]; decide, by rw [hR]; decide⟩ ⟨by rw [hR]; decide, by rw [hR]; decide⟩ dH_text_50 ?_
  refine hr_aload G dH_text_53 rfl ?_
  refine hr_get (v := .int (nI n)) G fH_58 (hA.lt (show 4 * u + j < 18 by omega)) (by show Value.int _ = Value.int _; rw [← hr3]; unfold hw_sv; rw [if_neg (by omega)]) dH_text_55 ?_
  refine hr_wide (c' := 1) (sl' := 6) (Nat.le_of_ble_eq_true rfl) (Nat.le_of_ble_eq_true rfl) ?_
  exact hr_iret G hr hw_QX.of dH_text_58 ⟨rfl, rfl, eqv_text (by omega) hr2 hr3 hT⟩
set_option maxRecDepth 100000 in
set_option maxHeartbeats 1000000 in
theorem m_H_password_a (l : Launch) (hst : l.stackTraces = false) (B : hw_B) (nb : Nat → Nat) (S : hw_St) (z : Nat) (x y : Int32) (hx : x < 0 ∨ 4 ≤ x) (hI : ic nb S) : hw_MX l yH_password cH_password 4 (some .boolean) ({ frames := 6, cells := 1, slots := 6, locals := 90 }) B [.ref (hw_a B 0 0), .int x, .int y] nb S z (hw_qp (.inr "java/lang/IllegalArgumentException") nb S) := by
  refine hw_MX.of (by decide) (Nat.le_of_ble_eq_true rfl) ?_
  intro X fr hl hR G hr htab
  obtain ⟨hA, hF, ⟨hn9, hc9⟩, ⟨hn11, hc11⟩, ⟨nm, hnm1, hnm2⟩, hT, hSe, hTi, hU, hW0, hW⟩ := hI
  refine hr_aload_n G dH_password_0 rfl rfl ?_
  refine hr_iload_n G dH_password_1 rfl rfl ?_
  refine hr_callVs (k := 0) (i := 0) G rfl rfl (hA.lt (show 0 < hw_n0 0 by decide)) kH_71 iH_findUser vH_findUser (m_H_findUser_n _ _ _ _ _ x hx) rfl rfl (Nat.le_of_ble_eq_true rfl) ⟨by rw [hR]; decide, by rw [hR]; decide⟩ ⟨by rw [hR]; decide, by rw [hR]; decide⟩ dH_password_2 ?_
  refine hr_astore_nN (i := 3) G dH_password_5 rfl (by decide) ?_
  refine hr_aload_nN G dH_password_6 rfl rfl ?_
  refine hr_ifnonnullN G dH_password_7 ?_
  exact hr_throw (E := "java/lang/IllegalArgumentException") (names := ["java/lang/RuntimeException", "java/lang/Exception"]) (si := 3) G (by rw [hl]; exact hst) htab (by decide) (by decide) qH_51 in_IAE rfl at_IAE go_IAE dH_password_10 dH_password_13 dH_password_14 dH_password_16 dH_password_19 (by rw [hR]; decide) (by rw [hR]; decide) (by rw [hR]; decide) (by rw [hR]; decide) (by decide) (by decide) (fun _ _ => ⟨rfl, rfl, eqv.rf hT⟩)
set_option maxRecDepth 100000 in
set_option maxHeartbeats 1000000 in
theorem m_H_password_c (l : Launch) (hst : l.stackTraces = false) (B : hw_B) (nb : Nat → Nat) (S : hw_St) (z : Nat) (u : Nat) (y : Int32) (hu : u < 4) (hI : ic nb S) : hw_MX l yH_password cH_password 4 (some .boolean) ({ frames := 6, cells := 1, slots := 6, locals := 90 }) B [.ref (hw_a B 0 0), .int (nI u), .int y] nb S z (hw_qp (.inl (some (.int 1))) nb (hw_sv (hw_sv (hw_sv S 2 u 3 y) 2 u 2 1) 2 u 4 0)) := by
  refine hw_MX.of (by decide) (Nat.le_of_ble_eq_true rfl) ?_
  intro X fr hl hR G hr htab
  obtain ⟨hA, hF, ⟨hn9, hc9⟩, ⟨hn11, hc11⟩, ⟨nm, hnm1, hnm2⟩, hT, hSe, hTi, hU, hW0, hW⟩ := hI
  refine hr_aload_n G dH_password_0 rfl rfl ?_
  refine hr_iload_n G dH_password_1 rfl rfl ?_
  refine hr_callVs (k := 0) (i := 0) G rfl rfl (hA.lt (show 0 < hw_n0 0 by decide)) kH_71 iH_findUser vH_findUser (m_H_findUser_y _ _ _ _ _ hA hF u hu) rfl rfl (Nat.le_of_ble_eq_true rfl) ⟨by rw [hR]; decide, by rw [hR]; decide⟩ ⟨by rw [hR]; decide, by rw [hR]; decide⟩ dH_password_2 ?_
  refine hr_astore_n (i := 3) G dH_password_5 rfl (by decide) ?_
  refine hr_aload_n G dH_password_6 rfl rfl ?_
  refine hr_ifnonnull (tgt := 20) G dH_password_7 (by decide) ?_
  refine hr_aload_n G dH_password_20 rfl rfl ?_
  refine hr_iload_n G dH_password_21 rfl rfl ?_
  refine hr_callVn (k := 2) (i := u) G rfl rfl (hA.lt hu) kH_90 iU_setWord vU_setWord (m_U_setWord _ _ _ _ _ u hA hu y) rfl rfl (Nat.le_of_ble_eq_true rfl) ⟨by rw [hR]; decide, by rw [hR]; decide⟩ ⟨by rw [hR]; decide, by rw [hR]; decide⟩ dH_password_22 ?_
  refine hr_iconst (v := 1) G dH_password_25 (by decide) ?_
  refine hr_wide (c' := 1) (sl' := 6) (Nat.le_of_ble_eq_true rfl) (Nat.le_of_ble_eq_true rfl) ?_
  exact hr_zret G hr (rfl) hw_QX.of dH_password_26 ⟨rfl, rfl, fun _ _ _ _ _ => rfl, hT⟩
set_option maxRecDepth 100000 in
set_option maxHeartbeats 1000000 in
theorem m_H_service_a (l : Launch) (hst : l.stackTraces = false) (B : hw_B) (nb : Nat → Nat) (S : hw_St) (z : Nat) (x y : Int32) (hx : x < 0 ∨ 6 ≤ x) (hI : ic nb S) : hw_MX l yH_service cH_service 4 (some .int) ({ frames := 6, cells := 1, slots := 6, locals := 90 }) B [.ref (hw_a B 0 0), .int x, .int y] nb S z (hw_qp (.inr "java/lang/IllegalArgumentException") nb S) := by
  refine hw_MX.of (by decide) (Nat.le_of_ble_eq_true rfl) ?_
  intro X fr hl hR G hr htab
  obtain ⟨hA, hF, ⟨hn9, hc9⟩, ⟨hn11, hc11⟩, ⟨nm, hnm1, hnm2⟩, hT, hSe, hTi, hU, hW0, hW⟩ := hI
  refine hr_iload_n G dH_service_0 rfl rfl ?_
  refine hr_callSs G kH_93 sH_isService (m_H_isService_n _ _ _ _ _ x hx) rfl rfl (Nat.le_of_ble_eq_true rfl) ⟨by rw [hR]; decide, by rw [hR]; decide⟩ ⟨by rw [hR]; decide, by rw [hR]; decide⟩ dH_service_1 ?_
  refine hr_if_eq (tgt := 17) G dH_service_4 (by decide) (fun _ => ?_) (fun h => absurd (by decide) h)
  exact hr_throw (E := "java/lang/IllegalArgumentException") (names := ["java/lang/RuntimeException", "java/lang/Exception"]) (si := 4) G (by rw [hl]; exact hst) htab (by decide) (by decide) qH_51 in_IAE rfl at_IAE go_IAE dH_service_17 dH_service_20 dH_service_21 dH_service_23 dH_service_26 (by rw [hR]; decide) (by rw [hR]; decide) (by rw [hR]; decide) (by rw [hR]; decide) (by decide) (by decide) (fun _ _ => ⟨rfl, rfl, eqv.rf hT⟩)
set_option maxRecDepth 100000 in
set_option maxHeartbeats 1000000 in
theorem m_H_service_b (l : Launch) (hst : l.stackTraces = false) (B : hw_B) (nb : Nat → Nat) (S : hw_St) (z : Nat) (w : Nat) (y : Int32) (hw : w < 6) (hy : y < 0 ∨ ¬ y ≤ 63) (hI : ic nb S) : hw_MX l yH_service cH_service 4 (some .int) ({ frames := 6, cells := 1, slots := 6, locals := 90 }) B [.ref (hw_a B 0 0), .int (nI w), .int y] nb S z (hw_qp (.inr "java/lang/IllegalArgumentException") nb S) := by
  refine hw_MX.of (by decide) (Nat.le_of_ble_eq_true rfl) ?_
  intro X fr hl hR G hr htab
  obtain ⟨hA, hF, ⟨hn9, hc9⟩, ⟨hn11, hc11⟩, ⟨nm, hnm1, hnm2⟩, hT, hSe, hTi, hU, hW0, hW⟩ := hI
  refine hr_iload_n G dH_service_0 rfl rfl ?_
  refine hr_callSs G kH_93 sH_isService (m_H_isService_y _ _ _ _ _ w hw) rfl rfl (Nat.le_of_ble_eq_true rfl) ⟨by rw [hR]; decide, by rw [hR]; decide⟩ ⟨by rw [hR]; decide, by rw [hR]; decide⟩ dH_service_1 ?_
  refine hr_if_eq (tgt := 17) G dH_service_4 (by decide) (fun h => absurd h (by decide)) (fun _ => ?_)
  refine hr_iload_n G dH_service_7 rfl rfl ?_
  refine hr_if_lt (tgt := 17) G dH_service_8 (by decide) (fun h8 => ?_) (fun h8 => ?_)
  · skip
    exact hr_throw (E := "java/lang/IllegalArgumentException") (names := ["java/lang/RuntimeException", "java/lang/Exception"]) (si := 4) G (by rw [hl]; exact hst) htab (by decide) (by decide) qH_51 in_IAE rfl at_IAE go_IAE dH_service_17 dH_service_20 dH_service_21 dH_service_23 dH_service_26 (by rw [hR]; decide) (by rw [hR]; decide) (by rw [hR]; decide) (by rw [hR]; decide) (by decide) (by decide) (fun _ _ => ⟨rfl, rfl, eqv.rf hT⟩)
  · skip
    refine hr_iload_n G dH_service_11 rfl rfl ?_
    refine hr_bipush (v := 63) G dH_service_12 (by decide) ?_
    refine hr_icmp_le (tgt := 27) G dH_service_14 (by decide) (fun h => absurd h (hy.resolve_left h8)) (fun _ => ?_)
    exact hr_throw (E := "java/lang/IllegalArgumentException") (names := ["java/lang/RuntimeException", "java/lang/Exception"]) (si := 4) G (by rw [hl]; exact hst) htab (by decide) (by decide) qH_51 in_IAE rfl at_IAE go_IAE dH_service_17 dH_service_20 dH_service_21 dH_service_23 dH_service_26 (by rw [hR]; decide) (by rw [hR]; decide) (by rw [hR]; decide) (by rw [hR]; decide) (by decide) (by decide) (fun _ _ => ⟨rfl, rfl, eqv.rf hT⟩)
set_option maxRecDepth 100000 in
set_option maxHeartbeats 1000000 in
theorem m_H_service_c (l : Launch) (hst : l.stackTraces = false) (B : hw_B) (nb : Nat → Nat) (S : hw_St) (z : Nat) (w : Nat) (y : Int32) (hw : w < 6) (hy1 : ¬ y < 0) (hy2 : y ≤ 63) (hI : ic nb S) : hw_MX l yH_service cH_service 4 (some .int) ({ frames := 6, cells := 1, slots := 6, locals := 90 }) B [.ref (hw_a B 0 0), .int (nI w), .int y] nb S z (hw_qp (.inl (some (.int (S 6 0 w)))) nb (hw_sv S 6 0 w y)) := by
  refine hw_MX.of (by decide) (Nat.le_of_ble_eq_true rfl) ?_
  intro X fr hl hR G hr htab
  obtain ⟨hA, hF, ⟨hn9, hc9⟩, ⟨hn11, hc11⟩, ⟨nm, hnm1, hnm2⟩, hT, hSe, hTi, hU, hW0, hW⟩ := hI
  refine hr_iload_n G dH_service_0 rfl rfl ?_
  refine hr_callSs G kH_93 sH_isService (m_H_isService_y _ _ _ _ _ w hw) rfl rfl (Nat.le_of_ble_eq_true rfl) ⟨by rw [hR]; decide, by rw [hR]; decide⟩ ⟨by rw [hR]; decide, by rw [hR]; decide⟩ dH_service_1 ?_
  refine hr_if_eq (tgt := 17) G dH_service_4 (by decide) (fun h => absurd h (by decide)) (fun _ => ?_)
  refine hr_iload_n G dH_service_7 rfl rfl ?_
  refine hr_if_lt (tgt := 17) G dH_service_8 (by decide) (fun h => absurd h hy1) (fun _ => ?_)
  refine hr_iload_n G dH_service_11 rfl rfl ?_
  refine hr_bipush (v := 63) G dH_service_12 (by decide) ?_
  refine hr_icmp_le (tgt := 27) G dH_service_14 (by decide) (fun _ => ?_) (fun h => absurd hy2 h)
  refine hr_aload_n G dH_service_27 rfl rfl ?_
  refine hr_get (v := .ref (hw_a B 6 0)) G fH_15 (hA.lt (show 0 < hw_n0 0 by decide)) (hw_rfx hF (by decide) rfl (by decide)) dH_service_28 ?_
  refine hr_iload_n G dH_service_31 rfl rfl ?_
  refine hr_iald (n := w) (v := .int (S 6 0 w)) G rfl (by decide) rfl (hA.lt (show 0 < hw_n0 6 by decide)) rfl (show w < 6 from hw) rfl dH_service_32 ?_
  refine hr_istore_n (i := 3) G dH_service_33 rfl (by decide) ?_
  refine hr_aload_n G dH_service_34 rfl rfl ?_
  refine hr_get (v := .ref (hw_a B 6 0)) G fH_15 (hA.lt (show 0 < hw_n0 0 by decide)) (hw_rfx hF (by decide) rfl (by decide)) dH_service_35 ?_
  refine hr_iload_n G dH_service_38 rfl rfl ?_
  refine hr_iload_n G dH_service_39 rfl rfl ?_
  refine hr_iast (n := w) (y := y) G rfl (by decide) rfl (hA.lt (show 0 < hw_n0 6 by decide)) rfl (show w < 6 from hw) rfl dH_service_40 ?_
  refine hr_iload_n G dH_service_41 rfl rfl ?_
  refine hr_wide (c' := 1) (sl' := 6) (Nat.le_of_ble_eq_true rfl) (Nat.le_of_ble_eq_true rfl) ?_
  exact hr_iret G hr hw_QX.of dH_service_42 ⟨rfl, rfl, fun _ _ _ _ _ => rfl, hT⟩
set_option maxRecDepth 100000 in
set_option maxHeartbeats 1000000 in
theorem m_H_callback_a (l : Launch) (hst : l.stackTraces = false) (B : hw_B) (nb : Nat → Nat) (S : hw_St) (z : Nat) (x y : Int32) (hx : x < 1 ∨ ¬ x ≤ 5) (hI : ic nb S) : hw_MX l yH_callback cH_callback 4 (some .boolean) ({ frames := 6, cells := 1, slots := 6, locals := 90 }) B [.ref (hw_a B 0 0), .int x, .int y] nb S z (hw_qp (.inr "java/lang/IllegalArgumentException") nb S) := by
  refine hw_MX.of (by decide) (Nat.le_of_ble_eq_true rfl) ?_
  intro X fr hl hR G hr htab
  obtain ⟨hA, hF, ⟨hn9, hc9⟩, ⟨hn11, hc11⟩, ⟨nm, hnm1, hnm2⟩, hT, hSe, hTi, hU, hW0, hW⟩ := hI
  refine hr_iload_n G dH_callback_0 rfl rfl ?_
  refine hr_iconst (v := 1) G dH_callback_1 (by decide) ?_
  refine hr_icmp_lt (tgt := 10) G dH_callback_2 (by decide) (fun h2 => ?_) (fun h2 => ?_)
  · skip
    exact hr_throw (E := "java/lang/IllegalArgumentException") (names := ["java/lang/RuntimeException", "java/lang/Exception"]) (si := 5) G (by rw [hl]; exact hst) htab (by decide) (by decide) qH_51 in_IAE rfl at_IAE go_IAE dH_callback_10 dH_callback_13 dH_callback_14 dH_callback_16 dH_callback_19 (by rw [hR]; decide) (by rw [hR]; decide) (by rw [hR]; decide) (by rw [hR]; decide) (by decide) (by decide) (fun _ _ => ⟨rfl, rfl, eqv.rf hT⟩)
  · skip
    refine hr_iload_n G dH_callback_5 rfl rfl ?_
    refine hr_iconst (v := 5) G dH_callback_6 (by decide) ?_
    refine hr_icmp_le (tgt := 20) G dH_callback_7 (by decide) (fun h => absurd h (hx.resolve_left h2)) (fun _ => ?_)
    exact hr_throw (E := "java/lang/IllegalArgumentException") (names := ["java/lang/RuntimeException", "java/lang/Exception"]) (si := 5) G (by rw [hl]; exact hst) htab (by decide) (by decide) qH_51 in_IAE rfl at_IAE go_IAE dH_callback_10 dH_callback_13 dH_callback_14 dH_callback_16 dH_callback_19 (by rw [hR]; decide) (by rw [hR]; decide) (by rw [hR]; decide) (by rw [hR]; decide) (by decide) (by decide) (fun _ _ => ⟨rfl, rfl, eqv.rf hT⟩)
set_option maxRecDepth 100000 in
set_option maxHeartbeats 1000000 in
theorem m_H_callback_c (l : Launch) (hst : l.stackTraces = false) (B : hw_B) (nb : Nat → Nat) (S : hw_St) (z : Nat) (c : Nat) (y : Int32) (hc : c < 6) (hc1 : 1 ≤ c) (hy : ib_b y) (hI : ic nb S) : hw_MX l yH_callback cH_callback 4 (some .boolean) ({ frames := 6, cells := 1, slots := 6, locals := 90 }) B [.ref (hw_a B 0 0), .int (nI c), .int y] nb S z (hw_qp (.inl (some (.int (S 7 0 c)))) nb (hw_sv S 7 0 c y)) := by
  refine hw_MX.of (by decide) (Nat.le_of_ble_eq_true rfl) ?_
  intro X fr hl hR G hr htab
  obtain ⟨hA, hF, ⟨hn9, hc9⟩, ⟨hn11, hc11⟩, ⟨nm, hnm1, hnm2⟩, hT, hSe, hTi, hU, hW0, hW⟩ := hI
  refine hr_iload_n G dH_callback_0 rfl rfl ?_
  refine hr_iconst (v := 1) G dH_callback_1 (by decide) ?_
  refine hr_icmp_lt (tgt := 10) G dH_callback_2 (by decide) (fun h => absurd h (show ¬ nI c < 1 from fun q => absurd ((nI_ltI (b := 1) (by omega) (by decide)).mp q) (by omega))) (fun _ => ?_)
  refine hr_iload_n G dH_callback_5 rfl rfl ?_
  refine hr_iconst (v := 5) G dH_callback_6 (by decide) ?_
  refine hr_icmp_le (tgt := 20) G dH_callback_7 (by decide) (fun _ => ?_) (fun h => absurd (show nI c ≤ 5 from nI_le (b := 5) (by omega) (by decide)) h)
  refine hr_aload_n G dH_callback_20 rfl rfl ?_
  refine hr_get (v := .ref (hw_a B 7 0)) G fH_19 (hA.lt (show 0 < hw_n0 0 by decide)) (hw_rfx hF (by decide) rfl (by decide)) dH_callback_21 ?_
  refine hr_iload_n G dH_callback_24 rfl rfl ?_
  refine hr_zald (n := c) (v := .int (S 7 0 c)) G rfl (by decide) rfl (hA.lt (show 0 < hw_n0 7 by decide)) rfl (show c < 6 from hc) rfl dH_callback_25 ?_
  refine hr_istore_n (i := 3) G dH_callback_26 rfl (by decide) ?_
  refine hr_aload_n G dH_callback_27 rfl rfl ?_
  refine hr_get (v := .ref (hw_a B 7 0)) G fH_19 (hA.lt (show 0 < hw_n0 0 by decide)) (hw_rfx hF (by decide) rfl (by decide)) dH_callback_28 ?_
  refine hr_iload_n G dH_callback_31 rfl rfl ?_
  refine hr_iload_n G dH_callback_32 rfl rfl ?_
  refine hr_zast (n := c) (y := y) G rfl (by decide) rfl (hA.lt (show 0 < hw_n0 7 by decide)) rfl (show c < 6 from hc) rfl (ib_01 hy) dH_callback_33 ?_
  refine hr_iload_n G dH_callback_34 rfl rfl ?_
  refine hr_wide (c' := 1) (sl' := 6) (Nat.le_of_ble_eq_true rfl) (Nat.le_of_ble_eq_true rfl) ?_
  exact hr_zret G hr (ib_01 (hW c hc)) hw_QX.of dH_callback_35 ⟨rfl, rfl, fun _ _ _ _ _ => rfl, hT⟩
