/-! The invariant; the calls that only read. -/
def ib_b (x : Int32) : Prop := x = 0 ∨ x = 1

def tx_ok (S : hw_St) (t : Nat) : Prop := (∃ n, n ≤ hw_ln 5 t ∧ S 4 t 1 = nI n) ∧ ∀ j, ib_c (S 5 t j)
def se_ok (S : hw_St) (i : Nat) : Prop := S 8 0 i = nI i ∧ S 9 i 0 = nI i ∧ (∃ u, u < 4 ∧ S 9 i 1 = nI u) ∧ ib_b (S 9 i 3) ∧ ib_b (S 9 i 5)
def ti_ok (nb : Nat → Nat) (S : hw_St) (i : Nat) : Prop := S 10 0 i = nI i ∧ S 11 i 0 = nI i ∧ (∃ s, s < nb 9 ∧ S 11 i 2 = nI s) ∧ (S 11 i 5 = -1 ∨ ∃ p, p < i ∧ S 11 i 5 = nI p) ∧ ib_b (S 11 i 7) ∧ ib_b (S 11 i 8) ∧ (∃ w, w < 6 ∧ S 11 i 3 = nI w) ∧ (S 11 i 1 = 0 ∨ S 11 i 1 = 1 ∨ S 11 i 1 = 2)
def us_ok (S : hw_St) (u : Nat) : Prop := ib_b (S 2 u 2) ∧ ∃ n, n ≤ 3 ∧ S 2 u 4 = nI n
/-- what holds of the house between calls -/
def ic (nb : Nat → Nat) (S : hw_St) : Prop := hw_al nb ∧ hw_Fx S ∧ (nb 9 ≤ 40 ∧ S 0 0 8 = nI (nb 9)) ∧ (nb 11 ≤ 150 ∧ S 0 0 9 = nI (nb 11)) ∧ (∃ m, m ≤ 150 ∧ S 0 0 10 = nI m) ∧ (∀ t, t < 18 → tx_ok S t) ∧ (∀ i, i < nb 9 → se_ok S i) ∧ (∀ i, i < nb 11 → ti_ok nb S i) ∧ (∀ u, u < 4 → us_ok S u) ∧ (S 7 0 0 = 0 ∧ ∀ k, k < 6 → ib_b (S 7 0 k))
theorem ib_sw {x : Int32} (n : Nat) (hn : n < 2 ^ 31) (h : ∀ k, k ≤ n → ¬ x = nI k) : x.toInt < 0 ∨ (n : Int) < x.toInt := by
  by_cases h0 : x < 0
  · exact Or.inl (by simpa using Int32.lt_iff_toInt_lt.mp h0)
  · obtain ⟨j, hj, rfl⟩ := nI_of h0
    rw [nI_toInt hj]
    exact Or.inr (by have : ¬ j ≤ n := fun q => h j q rfl; omega)
theorem ib_sw4 {x : Int32} (h0 : ¬ x = 0) (h1 : ¬ x = 1) (h2 : ¬ x = 2) (h3 : ¬ x = 3) (h4 : ¬ x = 4) : x.toInt < 0 ∨ (4 : Int) < x.toInt := ib_sw 4 (by decide) fun k hk => by
  rcases (show k = 0 ∨ k = 1 ∨ k = 2 ∨ k = 3 ∨ k = 4 by omega) with rfl | rfl | rfl | rfl | rfl <;> assumption
theorem ib_sw7 {x : Int32} (h0 : ¬ x = 0) (h1 : ¬ x = 1) (h2 : ¬ x = 2) (h3 : ¬ x = 3) (h4 : ¬ x = 4) (h5 : ¬ x = 5) (h6 : ¬ x = 6) (h7 : ¬ x = 7) : x.toInt < 0 ∨ (7 : Int) < x.toInt := ib_sw 7 (by decide) fun k hk => by
  rcases (show k = 0 ∨ k = 1 ∨ k = 2 ∨ k = 3 ∨ k = 4 ∨ k = 5 ∨ k = 6 ∨ k = 7 by omega) with rfl | rfl | rfl | rfl | rfl | rfl | rfl | rfl <;> assumption
def ib_o (x : Int32) : Int32 := if x = 0 then 0 else 1
set_option maxRecDepth 100000 in
set_option maxHeartbeats 1000000 in
theorem m_T_at (l : Launch) (B : hw_B) (nb : Nat → Nat) (S : hw_St) (z : Nat) (t : Nat) (hA : hw_al nb) (hF : hw_Fx S) (ht : t < 18) (x : Int32) (hI : tx_ok S t) : hw_M l yT_at cT_at 2 (some .int) ({ frames := 0, cells := 0, slots := 0, locals := 0 }) B [.ref (hw_a B 4 t), .int x] nb S z ((fun oc nb' S' z' => (∃ r, oc = .inl (some (.int r))) ∧ nb' = nb ∧ S' = S ∧ z' = z)) := by
  refine hw_M.of (by decide) (Nat.le_of_ble_eq_true rfl) ?_
  intro X fr hl hR G hr hnm
  obtain ⟨⟨n, hle, hn⟩, -⟩ := hI
  refine hr_iload_n G dT_at_0 rfl rfl ?_
  refine hr_if_lt (tgt := 21) G dT_at_1 (by decide) (fun h1 => ?_) (fun h1 => ?_)
  · skip
    refine hr_iconst (v := -1) G dT_at_21 (by decide) ?_
    exact hr_iret G hr (fun _ h => h) dT_at_22 ⟨⟨_, rfl⟩, rfl, rfl, rfl⟩
  · skip
    refine hr_iload_n G dT_at_4 rfl rfl ?_
    refine hr_aload_n G dT_at_5 rfl rfl ?_
    refine hr_get (v := .int (S 4 t 1)) G fT_15 (hA.lt ht) rfl dT_at_6 ?_
    refine hr_icmp_ge (tgt := 21) G dT_at_9 (by decide) (fun h9 => ?_) (fun h9 => ?_)
    · skip
      refine hr_iconst (v := -1) G dT_at_21 (by decide) ?_
      exact hr_iret G hr (fun _ h => h) dT_at_22 ⟨⟨_, rfl⟩, rfl, rfl, rfl⟩
    · skip
      rw [hn] at h9
      obtain ⟨j, hj, rfl⟩ := nI_of h1
      have hjn : j < n := Nat.not_le.mp fun q => h9 (nI_le q (by omega))
      refine hr_aload_n G dT_at_12 rfl rfl ?_
      refine hr_get (v := .ref (hw_a B 5 t)) G fT_9 (hA.lt ht) (hw_rfx hF ht rfl (by omega)) dT_at_13 ?_
      refine hr_iload_n G dT_at_16 rfl rfl ?_
      refine hr_cald (n := j) (v := .int (S 5 t j)) G rfl (by decide) rfl (hA.lt ht) rfl (by omega) rfl dT_at_17 ?_
      refine hr_goto (tgt := 22) G dT_at_18 (by decide) ?_
      exact hr_iret G hr (fun _ h => h) dT_at_22 ⟨⟨_, rfl⟩, rfl, rfl, rfl⟩

set_option maxRecDepth 100000 in
set_option maxHeartbeats 1000000 in
theorem m_H_wrongTries_y (l : Launch) (B : hw_B) (nb : Nat → Nat) (S : hw_St) (z : Nat) (hA : hw_al nb) (hF : hw_Fx S) (u : Nat) (hu : u < 4) : hw_M l yH_wrongTries cH_wrongTries 3 (some .int) ({ frames := 1, cells := 0, slots := 0, locals := 21 }) B [.ref (hw_a B 0 0), .int (nI u)] nb S z (hw_p (.inl (some (.int (S 2 u 4)))) nb S z) := by
  refine hw_M.of (by decide) (Nat.le_of_ble_eq_true rfl) ?_
  intro X fr hl hR G hr hnm
  refine hr_aload_n G dH_wrongTries_0 rfl rfl ?_
  refine hr_iload_n G dH_wrongTries_1 rfl rfl ?_
  refine hr_callVs (k := 0) (i := 0) G rfl rfl (hA.lt (show 0 < hw_n0 0 by decide)) kH_71 iH_findUser vH_findUser (m_H_findUser_y _ _ _ _ _ hA hF u hu) rfl rfl (Nat.le_of_ble_eq_true rfl) ⟨by rw [hR]; decide, by rw [hR]; decide⟩ ⟨by rw [hR]; decide, by rw [hR]; decide⟩ dH_wrongTries_2 ?_
  refine hr_astore_n (i := 2) G dH_wrongTries_5 rfl (by decide) ?_
  refine hr_aload_n G dH_wrongTries_6 rfl rfl ?_
  refine hr_ifnonnull (tgt := 14) G dH_wrongTries_7 (by decide) ?_
  refine hr_aload_n G dH_wrongTries_14 rfl rfl ?_
  refine hr_get (v := .int (S 2 u 4)) G fH_245 (hA.lt hu) rfl dH_wrongTries_15 ?_
  exact hr_iret G hr (fun _ h => h) dH_wrongTries_18 hw_pi
set_option maxRecDepth 100000 in
set_option maxHeartbeats 1000000 in
theorem m_H_wrongTries_n (l : Launch) (B : hw_B) (nb : Nat → Nat) (S : hw_St) (z : Nat) (hA : hw_al nb) (x : Int32) (hx : x < 0 ∨ 4 ≤ x) : hw_M l yH_wrongTries cH_wrongTries 3 (some .int) ({ frames := 1, cells := 0, slots := 0, locals := 21 }) B [.ref (hw_a B 0 0), .int x] nb S z (hw_p (.inl (some (.int (-1)))) nb S z) := by
  refine hw_M.of (by decide) (Nat.le_of_ble_eq_true rfl) ?_
  intro X fr hl hR G hr hnm
  refine hr_aload_n G dH_wrongTries_0 rfl rfl ?_
  refine hr_iload_n G dH_wrongTries_1 rfl rfl ?_
  refine hr_callVs (k := 0) (i := 0) G rfl rfl (hA.lt (show 0 < hw_n0 0 by decide)) kH_71 iH_findUser vH_findUser (m_H_findUser_n _ _ _ _ _ x hx) rfl rfl (Nat.le_of_ble_eq_true rfl) ⟨by rw [hR]; decide, by rw [hR]; decide⟩ ⟨by rw [hR]; decide, by rw [hR]; decide⟩ dH_wrongTries_2 ?_
  refine hr_astore_nN (i := 2) G dH_wrongTries_5 rfl (by decide) ?_
  refine hr_aload_nN G dH_wrongTries_6 rfl rfl ?_
  refine hr_ifnonnullN G dH_wrongTries_7 ?_
  refine hr_iconst (v := -1) G dH_wrongTries_10 (by decide) ?_
  refine hr_goto (tgt := 18) G dH_wrongTries_11 (by decide) ?_
  exact hr_iret G hr (fun _ h => h) dH_wrongTries_18 hw_pi
set_option maxRecDepth 100000 in
set_option maxHeartbeats 1000000 in
theorem m_H_message (l : Launch) (B : hw_B) (nb : Nat → Nat) (S : hw_St) (z : Nat) (x : Int32) (hI : ic nb S) : hw_M l yH_message cH_message 2 (some .int) ({ frames := 0, cells := 0, slots := 0, locals := 0 }) B [.ref (hw_a B 0 0), .int x] nb S z (hw_p (.inl (some (.int (if x < 0 then -1 else if S 0 0 10 ≤ x then -1 else S 12 0 x.toNatClampNeg)))) nb S z) := by
  refine hw_M.of (by decide) (Nat.le_of_ble_eq_true rfl) ?_
  intro X fr hl hR G hr hnm
  obtain ⟨hA, hF, ⟨hn9, hc9⟩, ⟨hn11, hc11⟩, ⟨nm, hnm1, hnm2⟩, hT, hSe, hTi, hU, hW0, hW⟩ := hI
  refine hr_iload_n G dH_message_0 rfl rfl ?_
  refine hr_if_lt (tgt := 21) G dH_message_1 (by decide) (fun h1 => ?_) (fun h1 => ?_)
  · skip
    refine hr_iconst (v := -1) G dH_message_21 (by decide) ?_
    exact hr_iret G hr (fun _ h => h) dH_message_22 ⟨by simp only [h1, ↓reduceIte, eq_self, true_or, or_true, or_self], rfl, (by first | rfl | simp only [h1, ↓reduceIte, eq_self, true_or, or_true, or_self]), rfl⟩
  · skip
    refine hr_iload_n G dH_message_4 rfl rfl ?_
    refine hr_aload_n G dH_message_5 rfl rfl ?_
    refine hr_get (v := .int (S 0 0 10)) G fH_239 (hA.lt (show 0 < hw_n0 0 by decide)) rfl dH_message_6 ?_
    refine hr_icmp_ge (tgt := 21) G dH_message_9 (by decide) (fun h9 => ?_) (fun h9 => ?_)
    · skip
      refine hr_iconst (v := -1) G dH_message_21 (by decide) ?_
      exact hr_iret G hr (fun _ h => h) dH_message_22 ⟨by simp only [h1, h9, ↓reduceIte, eq_self, true_or, or_true, or_self], rfl, (by first | rfl | simp only [h1, h9, ↓reduceIte, eq_self, true_or, or_true, or_self]), rfl⟩
    · skip
      obtain ⟨j, hj, hxj⟩ := nI_of h1
      have hjn : j < nm := Nat.not_le.mp fun q => h9 (by rw [hnm2, hxj]; exact nI_le q (by omega))
      refine hr_aload_n G dH_message_12 rfl rfl ?_
      refine hr_get (v := .ref (hw_a B 12 0)) G fH_35 (hA.lt (show 0 < hw_n0 0 by decide)) (hw_rfx hF (by decide) rfl (by decide)) dH_message_13 ?_
      refine hr_iload_n G dH_message_16 rfl rfl ?_
      refine hr_iald (n := j) (v := .int (S 12 0 j)) G rfl (by decide) rfl (hA.lt (show 0 < hw_n0 12 by decide)) hxj (show j < 150 by omega) rfl dH_message_17 ?_
      refine hr_goto (tgt := 22) G dH_message_18 (by decide) ?_
      exact hr_iret G hr (fun _ h => h) dH_message_22 ⟨by rw [if_neg h1, if_neg h9, hxj, nI_clamp (by omega)], rfl, rfl, rfl⟩
def hs_house (S : hw_St) (x : Int32) : Int32 := if x = 0 then S 0 0 11 else if x = 1 then S 0 0 8 else if x = 2 then S 0 0 9 else if x = 3 then S 0 0 10 else S 4 16 1
set_option maxRecDepth 100000 in
set_option maxHeartbeats 1000000 in
theorem m_H_house_y (l : Launch) (B : hw_B) (nb : Nat → Nat) (S : hw_St) (z : Nat) (x : Int32) (hI : ic nb S) (hx : x = 0 ∨ x = 1 ∨ x = 2 ∨ x = 3 ∨ x = 4) : hw_M l yH_house cH_house 2 (some .int) ({ frames := 2, cells := 0, slots := 0, locals := 43 }) B [.ref (hw_a B 0 0), .int x] nb S z (hw_p (.inl (some (.int (hs_house S x)))) nb S z) := by
  refine hw_M.of (by decide) (Nat.le_of_ble_eq_true rfl) ?_
  intro X fr hl hR G hr hnm
  obtain ⟨hA, hF, ⟨hn9, hc9⟩, ⟨hn11, hc11⟩, ⟨nm, hnm1, hnm2⟩, hT, hSe, hTi, hU, hW0, hW⟩ := hI
  refine hr_iload_n G dH_house_0 rfl rfl ?_
  by_cases e0 : x = 0
  · subst e0
    refine hr_tblIn (off := 35) (tgt := 36) G dH_house_1 (by decide) (by decide) (by decide) (by decide) ?_
    refine hr_aload_n G dH_house_36 rfl rfl ?_
    refine hr_get (v := .int (S 0 0 11)) G fH_106 (hA.lt (show 0 < hw_n0 0 by decide)) rfl dH_house_37 ?_
    exact hr_iret G hr (fun _ h => h) dH_house_40 ⟨by first | rfl | (simp only [hs_house, ↓reduceIte, eq_self, true_or, or_true, or_self]; done) | (simp only [hs_house, ↓reduceIte, eq_self, true_or, or_true, or_self]; rfl), rfl, rfl, rfl⟩
  by_cases e1 : x = 1
  · subst e1
    refine hr_tblIn (off := 40) (tgt := 41) G dH_house_1 (by decide) (by decide) (by decide) (by decide) ?_
    refine hr_aload_n G dH_house_41 rfl rfl ?_
    refine hr_get (v := .int (S 0 0 8)) G fH_101 (hA.lt (show 0 < hw_n0 0 by decide)) rfl dH_house_42 ?_
    exact hr_iret G hr (fun _ h => h) dH_house_45 ⟨by first | rfl | (simp only [hs_house, e0, ↓reduceIte, eq_self, true_or, or_true, or_self]; done) | (simp only [hs_house, e0, ↓reduceIte, eq_self, true_or, or_true, or_self]; rfl), rfl, rfl, rfl⟩
  by_cases e2 : x = 2
  · subst e2
    refine hr_tblIn (off := 45) (tgt := 46) G dH_house_1 (by decide) (by decide) (by decide) (by decide) ?_
    refine hr_aload_n G dH_house_46 rfl rfl ?_
    refine hr_get (v := .int (S 0 0 9)) G fH_125 (hA.lt (show 0 < hw_n0 0 by decide)) rfl dH_house_47 ?_
    exact hr_iret G hr (fun _ h => h) dH_house_50 ⟨by first | rfl | (simp only [hs_house, e0, e1, ↓reduceIte, eq_self, true_or, or_true, or_self]; done) | (simp only [hs_house, e0, e1, ↓reduceIte, eq_self, true_or, or_true, or_self]; rfl), rfl, rfl, rfl⟩
  by_cases e3 : x = 3
  · subst e3
    refine hr_tblIn (off := 50) (tgt := 51) G dH_house_1 (by decide) (by decide) (by decide) (by decide) ?_
    refine hr_aload_n G dH_house_51 rfl rfl ?_
    refine hr_get (v := .int (S 0 0 10)) G fH_239 (hA.lt (show 0 < hw_n0 0 by decide)) rfl dH_house_52 ?_
    exact hr_iret G hr (fun _ h => h) dH_house_55 ⟨by first | rfl | (simp only [hs_house, e0, e1, e2, ↓reduceIte, eq_self, true_or, or_true, or_self]; done) | (simp only [hs_house, e0, e1, e2, ↓reduceIte, eq_self, true_or, or_true, or_self]; rfl), rfl, rfl, rfl⟩
  by_cases e4 : x = 4
  · subst e4
    refine hr_tblIn (off := 55) (tgt := 56) G dH_house_1 (by decide) (by decide) (by decide) (by decide) ?_
    refine hr_aload_n G dH_house_56 rfl rfl ?_
    refine hr_get (v := .ref (hw_a B 4 16)) G fH_43 (hA.lt (show 0 < hw_n0 0 by decide)) (hw_rfx hF (by decide) rfl (by decide)) dH_house_57 ?_
    refine hr_get (v := .int (S 4 16 1)) G fH_58 (hA.lt (show 16 < hw_n0 4 by decide)) rfl dH_house_60 ?_
    exact hr_iret G hr (fun _ h => h) dH_house_63 ⟨by first | rfl | (simp only [hs_house, e0, e1, e2, e3, ↓reduceIte, eq_self, true_or, or_true, or_self]; done) | (simp only [hs_house, e0, e1, e2, e3, ↓reduceIte, eq_self, true_or, or_true, or_self]; rfl), rfl, rfl, rfl⟩
  refine hr_tblOut (tgt := 64) G dH_house_1 (ib_sw4 e0 e1 e2 e3 e4) (by decide) ?_
  refine hr_aload_n G dH_house_64 rfl rfl ?_
  refine hr_iload_n G dH_house_65 rfl rfl ?_
  refine hr_iconst (v := 5) G dH_house_66 (by decide) ?_
  refine hr_isub G dH_house_67 ?_
  exact absurd hx (by simp only [e0, e1, e2, e3, e4, or_self, not_false_eq_true])
set_option maxRecDepth 100000 in
set_option maxHeartbeats 1000000 in
theorem m_H_house_u (l : Launch) (B : hw_B) (nb : Nat → Nat) (S : hw_St) (z : Nat) (hA : hw_al nb) (hF : hw_Fx S) (x : Int32) (u : Nat) (hu : u < 4) (hx : x - 5 = nI u) (e0 : ¬ x = 0) (e1 : ¬ x = 1) (e2 : ¬ x = 2) (e3 : ¬ x = 3) (e4 : ¬ x = 4) : hw_M l yH_house cH_house 2 (some .int) ({ frames := 2, cells := 0, slots := 0, locals := 43 }) B [.ref (hw_a B 0 0), .int x] nb S z (hw_p (.inl (some (.int (S 2 u 4)))) nb S z) := by
  refine hw_M.of (by decide) (Nat.le_of_ble_eq_true rfl) ?_
  intro X fr hl hR G hr hnm
  refine hr_iload_n G dH_house_0 rfl rfl ?_
  refine hr_tblOut (tgt := 64) G dH_house_1 (ib_sw4 e0 e1 e2 e3 e4) (by decide) ?_
  refine hr_aload_n G dH_house_64 rfl rfl ?_
  refine hr_iload_n G dH_house_65 rfl rfl ?_
  refine hr_iconst (v := 5) G dH_house_66 (by decide) ?_
  refine hr_isub G dH_house_67 ?_
  rw [hx]
  refine hr_callVs (k := 0) (i := 0) G rfl rfl (hA.lt (show 0 < hw_n0 0 by decide)) kH_242 iH_wrongTries vH_wrongTries (m_H_wrongTries_y _ _ _ _ _ hA hF u hu) rfl rfl (Nat.le_of_ble_eq_true rfl) ⟨by rw [hR]; decide, by rw [hR]; decide⟩ ⟨by rw [hR]; decide, by rw [hR]; decide⟩ dH_house_68 ?_
  exact hr_iret G hr (fun _ h => h) dH_house_71 hw_pi
set_option maxRecDepth 100000 in
set_option maxHeartbeats 1000000 in
theorem m_H_house_n (l : Launch) (B : hw_B) (nb : Nat → Nat) (S : hw_St) (z : Nat) (hA : hw_al nb) (x : Int32) (hx : x - 5 < 0 ∨ 4 ≤ x - 5) (e0 : ¬ x = 0) (e1 : ¬ x = 1) (e2 : ¬ x = 2) (e3 : ¬ x = 3) (e4 : ¬ x = 4) : hw_M l yH_house cH_house 2 (some .int) ({ frames := 2, cells := 0, slots := 0, locals := 43 }) B [.ref (hw_a B 0 0), .int x] nb S z (hw_p (.inl (some (.int (-1)))) nb S z) := by
  refine hw_M.of (by decide) (Nat.le_of_ble_eq_true rfl) ?_
  intro X fr hl hR G hr hnm
  refine hr_iload_n G dH_house_0 rfl rfl ?_
  refine hr_tblOut (tgt := 64) G dH_house_1 (ib_sw4 e0 e1 e2 e3 e4) (by decide) ?_
  refine hr_aload_n G dH_house_64 rfl rfl ?_
  refine hr_iload_n G dH_house_65 rfl rfl ?_
  refine hr_iconst (v := 5) G dH_house_66 (by decide) ?_
  refine hr_isub G dH_house_67 ?_
  refine hr_callVs (k := 0) (i := 0) G rfl rfl (hA.lt (show 0 < hw_n0 0 by decide)) kH_242 iH_wrongTries vH_wrongTries (m_H_wrongTries_n _ _ _ _ _ hA (x - 5) hx) rfl rfl (Nat.le_of_ble_eq_true rfl) ⟨by rw [hR]; decide, by rw [hR]; decide⟩ ⟨by rw [hR]; decide, by rw [hR]; decide⟩ dH_house_68 ?_
  exact hr_iret G hr (fun _ h => h) dH_house_71 hw_pi
def hs_ses (S : hw_St) (i : Nat) (x : Int32) : Int32 := if x = 0 then S 9 i 1 else if x = 1 then ib_o (S 9 i 5) else if x = 2 then S 9 i 2 else if x = 3 then S 9 i 4 else if x = 4 then ib_o (S 9 i 3) else -1
set_option maxRecDepth 100000 in
set_option maxHeartbeats 1000000 in
theorem m_H_session_y (l : Launch) (B : hw_B) (nb : Nat → Nat) (S : hw_St) (z : Nat) (i : Nat) (x : Int32) (hI : ic nb S) (hi : i < nb 9) : hw_M l yH_session cH_session 4 (some .int) ({ frames := 1, cells := 0, slots := 0, locals := 21 }) B [.ref (hw_a B 0 0), .int (nI i), .int x] nb S z (hw_p (.inl (some (.int (hs_ses S i x)))) nb S z) := by
  refine hw_M.of (by decide) (Nat.le_of_ble_eq_true rfl) ?_
  intro X fr hl hR G hr hnm
  obtain ⟨hA, hF, ⟨hn9, hc9⟩, ⟨hn11, hc11⟩, ⟨nm, hnm1, hnm2⟩, hT, hSe, hTi, hU, hW0, hW⟩ := hI
  obtain ⟨hs1, hs2, ⟨u, hu, hs4⟩, hs5, hs6⟩ := hSe i hi
  refine hr_aload_n G dH_session_0 rfl rfl ?_
  refine hr_iload_n G dH_session_1 rfl rfl ?_
  refine hr_callVs (k := 0) (i := 0) G rfl rfl (hA.lt (show 0 < hw_n0 0 by decide)) kH_139 iH_findSession vH_findSession (m_H_findSession_y _ _ _ _ _ hA hF i (nb 9) hc9 hn9 hi hs1) rfl rfl (Nat.le_of_ble_eq_true rfl) ⟨by rw [hR]; decide, by rw [hR]; decide⟩ ⟨by rw [hR]; decide, by rw [hR]; decide⟩ dH_session_2 ?_
  refine hr_astore_n (i := 3) G dH_session_5 rfl (by decide) ?_
  refine hr_aload_n G dH_session_6 rfl rfl ?_
  refine hr_ifnonnull (tgt := 12) G dH_session_7 (by decide) ?_
  refine hr_iload_n G dH_session_12 rfl rfl ?_
  by_cases e0 : x = 0
  · subst e0
    refine hr_tblIn (off := 35) (tgt := 48) G dH_session_13 (by decide) (by decide) (by decide) (by decide) ?_
    refine hr_aload_n G dH_session_48 rfl rfl ?_
    refine hr_get (v := .ref (hw_a B 2 u)) G fH_211 hi (hw_rdy hs4 (by omega)) dH_session_49 ?_
    refine hr_get (v := .int (S 2 u 0)) G fH_215 (hA.lt hu) rfl dH_session_52 ?_
    exact hr_iret G hr (fun _ h => h) dH_session_55 ⟨by rw [hF 2 u 0 u hu rfl, ← hs4]; rfl, rfl, rfl, rfl⟩
  by_cases e1 : x = 1
  · subst e1
    refine hr_tblIn (off := 43) (tgt := 56) G dH_session_13 (by decide) (by decide) (by decide) (by decide) ?_
    refine hr_aload_n G dH_session_56 rfl rfl ?_
    refine hr_get (v := .int (S 9 i 5)) G fH_145 hi rfl dH_session_57 ?_
    refine hr_callSs G kH_216 sH_oneIf (m_H_oneIf _ _ _ _ _ (S 9 i 5)) rfl rfl (Nat.le_of_ble_eq_true rfl) ⟨by rw [hR]; decide, by rw [hR]; decide⟩ ⟨by rw [hR]; decide, by rw [hR]; decide⟩ dH_session_60 ?_
    exact hr_iret G hr (fun _ h => h) dH_session_63 ⟨by first | rfl | (simp only [hs_ses, ib_o, e0, ↓reduceIte, eq_self, true_or, or_true, or_self]; done) | (simp only [hs_ses, ib_o, e0, ↓reduceIte, eq_self, true_or, or_true, or_self]; rfl), rfl, rfl, rfl⟩
  by_cases e2 : x = 2
  · subst e2
    refine hr_tblIn (off := 51) (tgt := 64) G dH_session_13 (by decide) (by decide) (by decide) (by decide) ?_
    refine hr_aload_n G dH_session_64 rfl rfl ?_
    refine hr_get (v := .int (S 9 i 2)) G fH_220 hi rfl dH_session_65 ?_
    exact hr_iret G hr (fun _ h => h) dH_session_68 ⟨by first | rfl | (simp only [hs_ses, ib_o, e0, e1, ↓reduceIte, eq_self, true_or, or_true, or_self]; done) | (simp only [hs_ses, ib_o, e0, e1, ↓reduceIte, eq_self, true_or, or_true, or_self]; rfl), rfl, rfl, rfl⟩
  by_cases e3 : x = 3
  · subst e3
    refine hr_tblIn (off := 56) (tgt := 69) G dH_session_13 (by decide) (by decide) (by decide) (by decide) ?_
    refine hr_aload_n G dH_session_69 rfl rfl ?_
    refine hr_get (v := .int (S 9 i 4)) G fH_150 hi rfl dH_session_70 ?_
    exact hr_iret G hr (fun _ h => h) dH_session_73 ⟨by first | rfl | (simp only [hs_ses, ib_o, e0, e1, e2, ↓reduceIte, eq_self, true_or, or_true, or_self]; done) | (simp only [hs_ses, ib_o, e0, e1, e2, ↓reduceIte, eq_self, true_or, or_true, or_self]; rfl), rfl, rfl, rfl⟩
  by_cases e4 : x = 4
  · subst e4
    refine hr_tblIn (off := 61) (tgt := 74) G dH_session_13 (by decide) (by decide) (by decide) (by decide) ?_
    refine hr_aload_n G dH_session_74 rfl rfl ?_
    refine hr_get (v := .int (S 9 i 3)) G fH_223 hi rfl dH_session_75 ?_
    refine hr_callSs G kH_216 sH_oneIf (m_H_oneIf _ _ _ _ _ (S 9 i 3)) rfl rfl (Nat.le_of_ble_eq_true rfl) ⟨by rw [hR]; decide, by rw [hR]; decide⟩ ⟨by rw [hR]; decide, by rw [hR]; decide⟩ dH_session_78 ?_
    exact hr_iret G hr (fun _ h => h) dH_session_81 ⟨by first | rfl | (simp only [hs_ses, ib_o, e0, e1, e2, e3, ↓reduceIte, eq_self, true_or, or_true, or_self]; done) | (simp only [hs_ses, ib_o, e0, e1, e2, e3, ↓reduceIte, eq_self, true_or, or_true, or_self]; rfl), rfl, rfl, rfl⟩
  refine hr_tblOut (tgt := 82) G dH_session_13 (ib_sw4 e0 e1 e2 e3 e4) (by decide) ?_
  refine hr_iconst (v := -1) G dH_session_82 (by decide) ?_
  exact hr_iret G hr (fun _ h => h) dH_session_83 ⟨by first | rfl | (simp only [hs_ses, ib_o, e0, e1, e2, e3, e4, ↓reduceIte, eq_self, true_or, or_true, or_self]; done) | (simp only [hs_ses, ib_o, e0, e1, e2, e3, e4, ↓reduceIte, eq_self, true_or, or_true, or_self]; rfl), rfl, rfl, rfl⟩
set_option maxRecDepth 100000 in
set_option maxHeartbeats 1000000 in
theorem m_H_session_n (l : Launch) (B : hw_B) (nb : Nat → Nat) (S : hw_St) (z : Nat) (hA : hw_al nb) (hF : hw_Fx S) (x y : Int32) (hx : x < 0 ∨ (S 0 0 8) ≤ x) : hw_M l yH_session cH_session 4 (some .int) ({ frames := 1, cells := 0, slots := 0, locals := 21 }) B [.ref (hw_a B 0 0), .int x, .int y] nb S z (hw_p (.inl (some (.int (-1)))) nb S z) := by
  refine hw_M.of (by decide) (Nat.le_of_ble_eq_true rfl) ?_
  intro X fr hl hR G hr hnm
  refine hr_aload_n G dH_session_0 rfl rfl ?_
  refine hr_iload_n G dH_session_1 rfl rfl ?_
  refine hr_callVs (k := 0) (i := 0) G rfl rfl (hA.lt (show 0 < hw_n0 0 by decide)) kH_139 iH_findSession vH_findSession (m_H_findSession_n _ _ _ _ _ hA hF x hx) rfl rfl (Nat.le_of_ble_eq_true rfl) ⟨by rw [hR]; decide, by rw [hR]; decide⟩ ⟨by rw [hR]; decide, by rw [hR]; decide⟩ dH_session_2 ?_
  refine hr_astore_nN (i := 3) G dH_session_5 rfl (by decide) ?_
  refine hr_aload_nN G dH_session_6 rfl rfl ?_
  refine hr_ifnonnullN G dH_session_7 ?_
  refine hr_iconst (v := -1) G dH_session_10 (by decide) ?_
  exact hr_iret G hr (fun _ h => h) dH_session_11 hw_pi
def hs_abt (S : hw_St) (i s : Nat) (x : Int32) : Int32 := if x = 0 then S 11 i 1 else if x = 1 then ib_o (tk_good S i s (S 0 0 11)) else if x = 2 then S 11 i 2 else if x = 3 then S 11 i 3 else if x = 4 then S 11 i 4 else if x = 5 then ib_o (S 11 i 7) else if x = 6 then S 11 i 5 else if x = 7 then S 11 i 6 else -1
set_option maxRecDepth 100000 in
set_option maxHeartbeats 1000000 in
theorem m_H_about_y (l : Launch) (B : hw_B) (nb : Nat → Nat) (S : hw_St) (z : Nat) (i : Nat) (x : Int32) (s : Nat) (hI : ic nb S) (hi : i < nb 11) (hs : s < nb 9) (hts : S 11 i 2 = nI s) : hw_M l yH_about cH_about 4 (some .int) ({ frames := 1, cells := 0, slots := 0, locals := 22 }) B [.ref (hw_a B 0 0), .int (nI i), .int x] nb S z (hw_p (.inl (some (.int (hs_abt S i s x)))) nb S z) := by
  refine hw_M.of (by decide) (Nat.le_of_ble_eq_true rfl) ?_
  intro X fr hl hR G hr hnm
  obtain ⟨hA, hF, ⟨hn9, hc9⟩, ⟨hn11, hc11⟩, ⟨nm, hnm1, hnm2⟩, hT, hSe, hTi, hU, hW0, hW⟩ := hI
  obtain ⟨ht1, ht2, -, ht4, ht5, ht6, ht7, ht8⟩ := hTi i hi
  refine hr_aload_n G dH_about_0 rfl rfl ?_
  refine hr_iload_n G dH_about_1 rfl rfl ?_
  refine hr_callVs (k := 0) (i := 0) G rfl rfl (hA.lt (show 0 < hw_n0 0 by decide)) kH_153 iH_findTicket vH_findTicket (m_H_findTicket_y _ _ _ _ _ hA hF i (nb 11) hc11 hn11 hi ht1) rfl rfl (Nat.le_of_ble_eq_true rfl) ⟨by rw [hR]; decide, by rw [hR]; decide⟩ ⟨by rw [hR]; decide, by rw [hR]; decide⟩ dH_about_2 ?_
  refine hr_astore_n (i := 3) G dH_about_5 rfl (by decide) ?_
  refine hr_aload_n G dH_about_6 rfl rfl ?_
  refine hr_ifnonnull (tgt := 12) G dH_about_7 (by decide) ?_
  refine hr_iload_n G dH_about_12 rfl rfl ?_
  by_cases e0 : x = 0
  · subst e0
    refine hr_tblIn (off := 47) (tgt := 60) G dH_about_13 (by decide) (by decide) (by decide) (by decide) ?_
    refine hr_aload_n G dH_about_60 rfl rfl ?_
    refine hr_get (v := .int (S 11 i 1)) G fH_157 hi rfl dH_about_61 ?_
    exact hr_iret G hr (fun _ h => h) dH_about_64 ⟨by first | rfl | (simp only [hs_abt, ib_o, ↓reduceIte, eq_self, true_or, or_true, or_self]; done) | (simp only [hs_abt, ib_o, ↓reduceIte, eq_self, true_or, or_true, or_self]; rfl), rfl, rfl, rfl⟩
  by_cases e1 : x = 1
  · subst e1
    refine hr_tblIn (off := 52) (tgt := 65) G dH_about_13 (by decide) (by decide) (by decide) (by decide) ?_
    refine hr_aload_n G dH_about_65 rfl rfl ?_
    refine hr_aload_n G dH_about_66 rfl rfl ?_
    refine hr_get (v := .int (S 0 0 11)) G fH_106 (hA.lt (show 0 < hw_n0 0 by decide)) rfl dH_about_67 ?_
    refine hr_callVs (k := 11) (i := i) G rfl rfl hi kH_162 iK_isGood vK_isGood (m_K_isGood _ _ _ _ _ i s hi hs (by omega) hts (S 0 0 11)) rfl rfl (Nat.le_of_ble_eq_true rfl) ⟨by rw [hR]; decide, by rw [hR]; decide⟩ ⟨by rw [hR]; decide, by rw [hR]; decide⟩ dH_about_70 ?_
    refine hr_callSs G kH_216 sH_oneIf (m_H_oneIf _ _ _ _ _ (tk_good S i s (S 0 0 11))) rfl rfl (Nat.le_of_ble_eq_true rfl) ⟨by rw [hR]; decide, by rw [hR]; decide⟩ ⟨by rw [hR]; decide, by rw [hR]; decide⟩ dH_about_73 ?_
    exact hr_iret G hr (fun _ h => h) dH_about_76 ⟨by first | rfl | (simp only [hs_abt, ib_o, e0, ↓reduceIte, eq_self, true_or, or_true, or_self]; done) | (simp only [hs_abt, ib_o, e0, ↓reduceIte, eq_self, true_or, or_true, or_self]; rfl), rfl, rfl, rfl⟩
  by_cases e2 : x = 2
  · subst e2
    refine hr_tblIn (off := 64) (tgt := 77) G dH_about_13 (by decide) (by decide) (by decide) (by decide) ?_
    refine hr_aload_n G dH_about_77 rfl rfl ?_
    refine hr_get (v := .ref (hw_a B 9 s)) G fH_167 hi (hw_rdy hts (by omega)) dH_about_78 ?_
    refine hr_get (v := .int (S 9 s 0)) G fH_117 hs rfl dH_about_81 ?_
    exact hr_iret G hr (fun _ h => h) dH_about_84 ⟨by rw [(hSe s hs).2.1, ← hts]; rfl, rfl, rfl, rfl⟩
  by_cases e3 : x = 3
  · subst e3
    refine hr_tblIn (off := 72) (tgt := 85) G dH_about_13 (by decide) (by decide) (by decide) (by decide) ?_
    refine hr_aload_n G dH_about_85 rfl rfl ?_
    refine hr_get (v := .int (S 11 i 3)) G fH_226 hi rfl dH_about_86 ?_
    exact hr_iret G hr (fun _ h => h) dH_about_89 ⟨by first | rfl | (simp only [hs_abt, ib_o, e0, e1, e2, ↓reduceIte, eq_self, true_or, or_true, or_self]; done) | (simp only [hs_abt, ib_o, e0, e1, e2, ↓reduceIte, eq_self, true_or, or_true, or_self]; rfl), rfl, rfl, rfl⟩
  by_cases e4 : x = 4
  · subst e4
    refine hr_tblIn (off := 77) (tgt := 90) G dH_about_13 (by decide) (by decide) (by decide) (by decide) ?_
    refine hr_aload_n G dH_about_90 rfl rfl ?_
    refine hr_get (v := .int (S 11 i 4)) G fH_229 hi rfl dH_about_91 ?_
    exact hr_iret G hr (fun _ h => h) dH_about_94 ⟨by first | rfl | (simp only [hs_abt, ib_o, e0, e1, e2, e3, ↓reduceIte, eq_self, true_or, or_true, or_self]; done) | (simp only [hs_abt, ib_o, e0, e1, e2, e3, ↓reduceIte, eq_self, true_or, or_true, or_self]; rfl), rfl, rfl, rfl⟩
  by_cases e5 : x = 5
  · subst e5
    refine hr_tblIn (off := 82) (tgt := 95) G dH_about_13 (by decide) (by decide) (by decide) (by decide) ?_
    refine hr_aload_n G dH_about_95 rfl rfl ?_
    refine hr_get (v := .int (S 11 i 7)) G fH_134 hi rfl dH_about_96 ?_
    refine hr_callSs G kH_216 sH_oneIf (m_H_oneIf _ _ _ _ _ (S 11 i 7)) rfl rfl (Nat.le_of_ble_eq_true rfl) ⟨by rw [hR]; decide, by rw [hR]; decide⟩ ⟨by rw [hR]; decide, by rw [hR]; decide⟩ dH_about_99 ?_
    exact hr_iret G hr (fun _ h => h) dH_about_102 ⟨by first | rfl | (simp only [hs_abt, ib_o, e0, e1, e2, e3, e4, ↓reduceIte, eq_self, true_or, or_true, or_self]; done) | (simp only [hs_abt, ib_o, e0, e1, e2, e3, e4, ↓reduceIte, eq_self, true_or, or_true, or_self]; rfl), rfl, rfl, rfl⟩
  by_cases e6 : x = 6
  · subst e6
    refine hr_tblIn (off := 90) (tgt := 103) G dH_about_13 (by decide) (by decide) (by decide) (by decide) ?_
    rcases ht4 with hp | ⟨p, hp1, hp2⟩
    · skip
      refine hr_aload_n G dH_about_103 rfl rfl ?_
      refine hr_get (v := .null) G fH_232 hi (hw_rdz (show S 11 i 5 < 0 by rw [hp]; decide)) dH_about_104 ?_
      refine hr_ifnonnullN G dH_about_107 ?_
      refine hr_iconst (v := -1) G dH_about_110 (by decide) ?_
      refine hr_goto (tgt := 121) G dH_about_111 (by decide) ?_
      exact hr_iret G hr (fun _ h => h) dH_about_121 ⟨by rw [show hs_abt S i s 6 = S 11 i 5 from rfl, hp], rfl, rfl, rfl⟩
    · skip
      refine hr_aload_n G dH_about_103 rfl rfl ?_
      refine hr_get (v := .ref (hw_a B 11 p)) G fH_232 hi (hw_rdy hp2 (by omega)) dH_about_104 ?_
      refine hr_ifnonnull (tgt := 114) G dH_about_107 (by decide) ?_
      refine hr_aload_n G dH_about_114 rfl rfl ?_
      refine hr_get (v := .ref (hw_a B 11 p)) G fH_232 hi (hw_rdy hp2 (by omega)) dH_about_115 ?_
      refine hr_get (v := .int (S 11 p 0)) G fH_138 (show p < nb 11 by omega) rfl dH_about_118 ?_
      exact hr_iret G hr (fun _ h => h) dH_about_121 ⟨by rw [(hTi p (by omega)).2.1, ← hp2]; rfl, rfl, rfl, rfl⟩
  by_cases e7 : x = 7
  · subst e7
    refine hr_tblIn (off := 109) (tgt := 122) G dH_about_13 (by decide) (by decide) (by decide) (by decide) ?_
    refine hr_aload_n G dH_about_122 rfl rfl ?_
    refine hr_get (v := .int (S 11 i 6)) G fH_236 hi rfl dH_about_123 ?_
    exact hr_iret G hr (fun _ h => h) dH_about_126 ⟨by first | rfl | (simp only [hs_abt, ib_o, e0, e1, e2, e3, e4, e5, e6, ↓reduceIte, eq_self, true_or, or_true, or_self]; done) | (simp only [hs_abt, ib_o, e0, e1, e2, e3, e4, e5, e6, ↓reduceIte, eq_self, true_or, or_true, or_self]; rfl), rfl, rfl, rfl⟩
  refine hr_tblOut (tgt := 127) G dH_about_13 (ib_sw7 e0 e1 e2 e3 e4 e5 e6 e7) (by decide) ?_
  refine hr_iconst (v := -1) G dH_about_127 (by decide) ?_
  exact hr_iret G hr (fun _ h => h) dH_about_128 ⟨by first | rfl | (simp only [hs_abt, ib_o, e0, e1, e2, e3, e4, e5, e6, e7, ↓reduceIte, eq_self, true_or, or_true, or_self]; done) | (simp only [hs_abt, ib_o, e0, e1, e2, e3, e4, e5, e6, e7, ↓reduceIte, eq_self, true_or, or_true, or_self]; rfl), rfl, rfl, rfl⟩
set_option maxRecDepth 100000 in
set_option maxHeartbeats 1000000 in
theorem m_H_about_n (l : Launch) (B : hw_B) (nb : Nat → Nat) (S : hw_St) (z : Nat) (hA : hw_al nb) (hF : hw_Fx S) (x y : Int32) (hx : x < 0 ∨ (S 0 0 9) ≤ x) : hw_M l yH_about cH_about 4 (some .int) ({ frames := 1, cells := 0, slots := 0, locals := 22 }) B [.ref (hw_a B 0 0), .int x, .int y] nb S z (hw_p (.inl (some (.int (-1)))) nb S z) := by
  refine hw_M.of (by decide) (Nat.le_of_ble_eq_true rfl) ?_
  intro X fr hl hR G hr hnm
  refine hr_aload_n G dH_about_0 rfl rfl ?_
  refine hr_iload_n G dH_about_1 rfl rfl ?_
  refine hr_callVs (k := 0) (i := 0) G rfl rfl (hA.lt (show 0 < hw_n0 0 by decide)) kH_153 iH_findTicket vH_findTicket (m_H_findTicket_n _ _ _ _ _ hA hF x hx) rfl rfl (Nat.le_of_ble_eq_true rfl) ⟨by rw [hR]; decide, by rw [hR]; decide⟩ ⟨by rw [hR]; decide, by rw [hR]; decide⟩ dH_about_2 ?_
  refine hr_astore_nN (i := 3) G dH_about_5 rfl (by decide) ?_
  refine hr_aload_nN G dH_about_6 rfl rfl ?_
  refine hr_ifnonnullN G dH_about_7 ?_
  refine hr_iconst (v := -1) G dH_about_10 (by decide) ?_
  exact hr_iret G hr (fun _ h => h) dH_about_11 hw_pi
def tk_jrest (S : hw_St) (i s : Nat) (x y t : Int32) : Int32 := if tk_good S i s t = 0 then 3 else if S 11 i 3 = x then (if y &&& 1 = 0 then 0 else if S 11 i 7 = 0 then 5 else 0) else 4
def tk_judge (S : hw_St) (i s : Nat) (x y t : Int32) : Int32 := if S 11 i 1 = 2 then 2 else if S 11 i 1 = 1 then (if y &&& 2 = 0 then 2 else tk_jrest S i s x y t) else tk_jrest S i s x y t
set_option maxRecDepth 100000 in
set_option maxHeartbeats 1000000 in
theorem m_K_judge (l : Launch) (B : hw_B) (nb : Nat → Nat) (S : hw_St) (z : Nat) (i s : Nat) (hi : i < nb 11) (hs : s < nb 9) (h31 : s < 2 ^ 31) (hS : S 11 i 2 = nI s) (x y t : Int32) : hw_M l yK_judge cK_judge 4 (some .int) ({ frames := 1, cells := 0, slots := 0, locals := 22 }) B [.ref (hw_a B 11 i), .int x, .int y, .int t] nb S z (hw_p (.inl (some (.int (tk_judge S i s x y t)))) nb S z) := by
  refine hw_M.of (by decide) (Nat.le_of_ble_eq_true rfl) ?_
  intro X fr hl hR G hr hnm
  refine hr_aload_n G dK_judge_0 rfl rfl ?_
  refine hr_get (v := .int (S 11 i 1)) G fK_15 hi rfl dK_judge_1 ?_
  refine hr_iconst (v := 2) G dK_judge_4 (by decide) ?_
  refine hr_icmp_eq (tgt := 22) G dK_judge_5 (by decide) (fun h5 => ?_) (fun h5 => ?_)
  · skip
    refine hr_iconst (v := 2) G dK_judge_22 (by decide) ?_
    exact hr_iret G hr (fun _ h => h) dK_judge_23 ⟨by first | rfl | (simp only [tk_judge, tk_jrest, h5, ↓reduceIte, eq_self, true_or, or_true, or_self]; done) | (simp only [tk_judge, tk_jrest, h5, ↓reduceIte, eq_self, true_or, or_true, or_self]; rfl), rfl, rfl, rfl⟩
  · skip
    refine hr_aload_n G dK_judge_8 rfl rfl ?_
    refine hr_get (v := .int (S 11 i 1)) G fK_15 hi rfl dK_judge_9 ?_
    refine hr_iconst (v := 1) G dK_judge_12 (by decide) ?_
    refine hr_icmp_ne (tgt := 24) G dK_judge_13 (by decide) (fun h13 => ?_) (fun h13 => ?_)
    · skip
      refine hr_aload_n G dK_judge_24 rfl rfl ?_
      refine hr_iload_n G dK_judge_25 rfl rfl ?_
      refine hr_callVs (k := 11) (i := i) G rfl rfl hi kK_44 iK_isGood vK_isGood (m_K_isGood _ _ _ _ _ i s hi hs h31 hS t) rfl rfl (Nat.le_of_ble_eq_true rfl) ⟨by rw [hR]; decide, by rw [hR]; decide⟩ ⟨by rw [hR]; decide, by rw [hR]; decide⟩ dK_judge_26 ?_
      refine hr_if_ne (tgt := 34) G dK_judge_29 (by decide) (fun h29 => ?_) (fun h29 => ?_)
      · skip
        refine hr_aload_n G dK_judge_34 rfl rfl ?_
        refine hr_get (v := .int (S 11 i 3)) G fK_22 hi rfl dK_judge_35 ?_
        refine hr_iload_n G dK_judge_38 rfl rfl ?_
        refine hr_icmp_eq (tgt := 44) G dK_judge_39 (by decide) (fun h39 => ?_) (fun h39 => ?_)
        · skip
          refine hr_iload_n G dK_judge_44 rfl rfl ?_
          refine hr_iconst (v := 1) G dK_judge_45 (by decide) ?_
          refine hr_iand G dK_judge_46 ?_
          refine hr_if_eq (tgt := 59) G dK_judge_47 (by decide) (fun h47 => ?_) (fun h47 => ?_)
          · skip
            refine hr_iconst (v := 0) G dK_judge_59 (by decide) ?_
            exact hr_iret G hr (fun _ h => h) dK_judge_60 ⟨by first | rfl | (simp only [tk_judge, tk_jrest, h5, h13, h29, h39, h47, ↓reduceIte, eq_self, true_or, or_true, or_self]; done) | (simp only [tk_judge, tk_jrest, h5, h13, h29, h39, h47, ↓reduceIte, eq_self, true_or, or_true, or_self]; rfl), rfl, rfl, rfl⟩
          · skip
            refine hr_aload_n G dK_judge_50 rfl rfl ?_
            refine hr_get (v := .int (S 11 i 7)) G fK_48 hi rfl dK_judge_51 ?_
            refine hr_if_ne (tgt := 59) G dK_judge_54 (by decide) (fun h54 => ?_) (fun h54 => ?_)
            · skip
              refine hr_iconst (v := 0) G dK_judge_59 (by decide) ?_
              exact hr_iret G hr (fun _ h => h) dK_judge_60 ⟨by first | rfl | (simp only [tk_judge, tk_jrest, h5, h13, h29, h39, h47, h54, ↓reduceIte, eq_self, true_or, or_true, or_self]; done) | (simp only [tk_judge, tk_jrest, h5, h13, h29, h39, h47, h54, ↓reduceIte, eq_self, true_or, or_true, or_self]; rfl), rfl, rfl, rfl⟩
            · skip
              refine hr_iconst (v := 5) G dK_judge_57 (by decide) ?_
              exact hr_iret G hr (fun _ h => h) dK_judge_58 ⟨by first | rfl | (simp only [tk_judge, tk_jrest, h5, h13, h29, h39, h47, h54, ↓reduceIte, eq_self, true_or, or_true, or_self]; done) | (simp only [tk_judge, tk_jrest, h5, h13, h29, h39, h47, h54, ↓reduceIte, eq_self, true_or, or_true, or_self]; rfl), rfl, rfl, rfl⟩
        · skip
          refine hr_iconst (v := 4) G dK_judge_42 (by decide) ?_
          exact hr_iret G hr (fun _ h => h) dK_judge_43 ⟨by first | rfl | (simp only [tk_judge, tk_jrest, h5, h13, h29, h39, ↓reduceIte, eq_self, true_or, or_true, or_self]; done) | (simp only [tk_judge, tk_jrest, h5, h13, h29, h39, ↓reduceIte, eq_self, true_or, or_true, or_self]; rfl), rfl, rfl, rfl⟩
      · skip
        refine hr_iconst (v := 3) G dK_judge_32 (by decide) ?_
        exact hr_iret G hr (fun _ h => h) dK_judge_33 ⟨by first | rfl | (simp only [tk_judge, tk_jrest, h5, h13, h29, ↓reduceIte, eq_self, true_or, or_true, or_self]; done) | (simp only [tk_judge, tk_jrest, h5, h13, h29, ↓reduceIte, eq_self, true_or, or_true, or_self]; rfl), rfl, rfl, rfl⟩
    · skip
      refine hr_iload_n G dK_judge_16 rfl rfl ?_
      refine hr_iconst (v := 2) G dK_judge_17 (by decide) ?_
      refine hr_iand G dK_judge_18 ?_
      refine hr_if_ne (tgt := 24) G dK_judge_19 (by decide) (fun h19 => ?_) (fun h19 => ?_)
      · skip
        refine hr_aload_n G dK_judge_24 rfl rfl ?_
        refine hr_iload_n G dK_judge_25 rfl rfl ?_
        refine hr_callVs (k := 11) (i := i) G rfl rfl hi kK_44 iK_isGood vK_isGood (m_K_isGood _ _ _ _ _ i s hi hs h31 hS t) rfl rfl (Nat.le_of_ble_eq_true rfl) ⟨by rw [hR]; decide, by rw [hR]; decide⟩ ⟨by rw [hR]; decide, by rw [hR]; decide⟩ dK_judge_26 ?_
        refine hr_if_ne (tgt := 34) G dK_judge_29 (by decide) (fun h29 => ?_) (fun h29 => ?_)
        · skip
          refine hr_aload_n G dK_judge_34 rfl rfl ?_
          refine hr_get (v := .int (S 11 i 3)) G fK_22 hi rfl dK_judge_35 ?_
          refine hr_iload_n G dK_judge_38 rfl rfl ?_
          refine hr_icmp_eq (tgt := 44) G dK_judge_39 (by decide) (fun h39 => ?_) (fun h39 => ?_)
          · skip
            refine hr_iload_n G dK_judge_44 rfl rfl ?_
            refine hr_iconst (v := 1) G dK_judge_45 (by decide) ?_
            refine hr_iand G dK_judge_46 ?_
            refine hr_if_eq (tgt := 59) G dK_judge_47 (by decide) (fun h47 => ?_) (fun h47 => ?_)
            · skip
              refine hr_iconst (v := 0) G dK_judge_59 (by decide) ?_
              exact hr_iret G hr (fun _ h => h) dK_judge_60 ⟨by first | rfl | (simp only [tk_judge, tk_jrest, h5, h13, h19, h29, h39, h47, ↓reduceIte, eq_self, true_or, or_true, or_self]; done) | (simp only [tk_judge, tk_jrest, h5, h13, h19, h29, h39, h47, ↓reduceIte, eq_self, true_or, or_true, or_self]; rfl), rfl, rfl, rfl⟩
            · skip
              refine hr_aload_n G dK_judge_50 rfl rfl ?_
              refine hr_get (v := .int (S 11 i 7)) G fK_48 hi rfl dK_judge_51 ?_
              refine hr_if_ne (tgt := 59) G dK_judge_54 (by decide) (fun h54 => ?_) (fun h54 => ?_)
              · skip
                refine hr_iconst (v := 0) G dK_judge_59 (by decide) ?_
                exact hr_iret G hr (fun _ h => h) dK_judge_60 ⟨by first | rfl | (simp only [tk_judge, tk_jrest, h5, h13, h19, h29, h39, h47, h54, ↓reduceIte, eq_self, true_or, or_true, or_self]; done) | (simp only [tk_judge, tk_jrest, h5, h13, h19, h29, h39, h47, h54, ↓reduceIte, eq_self, true_or, or_true, or_self]; rfl), rfl, rfl, rfl⟩
              · skip
                refine hr_iconst (v := 5) G dK_judge_57 (by decide) ?_
                exact hr_iret G hr (fun _ h => h) dK_judge_58 ⟨by first | rfl | (simp only [tk_judge, tk_jrest, h5, h13, h19, h29, h39, h47, h54, ↓reduceIte, eq_self, true_or, or_true, or_self]; done) | (simp only [tk_judge, tk_jrest, h5, h13, h19, h29, h39, h47, h54, ↓reduceIte, eq_self, true_or, or_true, or_self]; rfl), rfl, rfl, rfl⟩
          · skip
            refine hr_iconst (v := 4) G dK_judge_42 (by decide) ?_
            exact hr_iret G hr (fun _ h => h) dK_judge_43 ⟨by first | rfl | (simp only [tk_judge, tk_jrest, h5, h13, h19, h29, h39, ↓reduceIte, eq_self, true_or, or_true, or_self]; done) | (simp only [tk_judge, tk_jrest, h5, h13, h19, h29, h39, ↓reduceIte, eq_self, true_or, or_true, or_self]; rfl), rfl, rfl, rfl⟩
        · skip
          refine hr_iconst (v := 3) G dK_judge_32 (by decide) ?_
          exact hr_iret G hr (fun _ h => h) dK_judge_33 ⟨by first | rfl | (simp only [tk_judge, tk_jrest, h5, h13, h19, h29, ↓reduceIte, eq_self, true_or, or_true, or_self]; done) | (simp only [tk_judge, tk_jrest, h5, h13, h19, h29, ↓reduceIte, eq_self, true_or, or_true, or_self]; rfl), rfl, rfl, rfl⟩
      · skip
        refine hr_iconst (v := 2) G dK_judge_22 (by decide) ?_
        exact hr_iret G hr (fun _ h => h) dK_judge_23 ⟨by first | rfl | (simp only [tk_judge, tk_jrest, h5, h13, h19, ↓reduceIte, eq_self, true_or, or_true, or_self]; done) | (simp only [tk_judge, tk_jrest, h5, h13, h19, ↓reduceIte, eq_self, true_or, or_true, or_self]; rfl), rfl, rfl, rfl⟩
