/-! The reference: leaves. -/
def md_in (v lo hi : Int32) : Int32 := if v < lo then 0 else if hi < v then 0 else 1
set_option maxRecDepth 100000 in
set_option maxHeartbeats 1000000 in
theorem m_M_within (l : Launch) (B : hw_B) (nb : Nat → Nat) (S : hw_St) (z : Nat) (v lo hi : Int32) : hw_M l yM_within cM_within 3 (some .boolean) ({ frames := 0, cells := 0, slots := 0, locals := 0 }) B [.int v, .int lo, .int hi] nb S z (hw_p (.inl (some (.int (md_in v lo hi)))) nb S z) := by
  refine hw_M.of (by decide) (Nat.le_of_ble_eq_true rfl) ?_
  intro X fr hl hR G hr hnm
  refine hr_iload_n G dM_within_0 rfl rfl ?_
  refine hr_iload_n G dM_within_1 rfl rfl ?_
  refine hr_icmp_lt (tgt := 14) G dM_within_2 (by decide) (fun h2 => ?_) (fun h2 => ?_)
  · skip
    refine hr_iconst (v := 0) G dM_within_14 (by decide) ?_
    exact hr_zret G hr (rfl) (fun _ h => h) dM_within_15 ⟨by simp only [md_in, h2, ↓reduceIte, eq_self, true_or, or_true, or_self], rfl, (by first | rfl | simp only [md_in, h2, ↓reduceIte, eq_self, true_or, or_true, or_self]), rfl⟩
  · skip
    refine hr_iload_n G dM_within_5 rfl rfl ?_
    refine hr_iload_n G dM_within_6 rfl rfl ?_
    refine hr_icmp_gt (tgt := 14) G dM_within_7 (by decide) (fun h7 => ?_) (fun h7 => ?_)
    · skip
      refine hr_iconst (v := 0) G dM_within_14 (by decide) ?_
      exact hr_zret G hr (rfl) (fun _ h => h) dM_within_15 ⟨by simp only [md_in, h2, h7, ↓reduceIte, eq_self, true_or, or_true, or_self], rfl, (by first | rfl | simp only [md_in, h2, h7, ↓reduceIte, eq_self, true_or, or_true, or_self]), rfl⟩
    · skip
      refine hr_iconst (v := 1) G dM_within_10 (by decide) ?_
      refine hr_goto (tgt := 15) G dM_within_11 (by decide) ?_
      exact hr_zret G hr (rfl) (fun _ h => h) dM_within_15 ⟨by simp only [md_in, h2, h7, ↓reduceIte, eq_self, true_or, or_true, or_self], rfl, (by first | rfl | simp only [md_in, h2, h7, ↓reduceIte, eq_self, true_or, or_true, or_self]), rfl⟩
theorem md_in_y {x lo hi : Int32} (h1 : ¬ x < lo) (h2 : x ≤ hi) : md_in x lo hi = 1 := by
  unfold md_in; rw [if_neg h1, if_neg (Int32.not_lt.mpr h2)]
theorem md_in_n {x lo hi : Int32} (h : x < lo ∨ ¬ x ≤ hi) : md_in x lo hi = 0 := by
  unfold md_in
  split
  · rfl
  · rename_i q
    rw [if_pos (Int32.not_le.mp (h.resolve_left q))]
theorem m_within_y (l : Launch) (B : hw_B) (nb : Nat → Nat) (S : hw_St) (z : Nat) (v lo hi : Int32) (h1 : ¬ v < lo) (h2 : v ≤ hi) : hw_M l yM_within cM_within 3 (some .boolean) ({ frames := 0, cells := 0, slots := 0, locals := 0 }) B [.int v, .int lo, .int hi] nb S z (hw_p (.inl (some (.int 1))) nb S z) := by
  have := m_M_within l B nb S z v lo hi
  rw [md_in_y h1 h2] at this; exact this
theorem m_within_n (l : Launch) (B : hw_B) (nb : Nat → Nat) (S : hw_St) (z : Nat) (v lo hi : Int32) (h : v < lo ∨ ¬ v ≤ hi) : hw_M l yM_within cM_within 3 (some .boolean) ({ frames := 0, cells := 0, slots := 0, locals := 0 }) B [.int v, .int lo, .int hi] nb S z (hw_p (.inl (some (.int 0))) nb S z) := by
  have := m_M_within l B nb S z v lo hi
  rw [md_in_n h] at this; exact this
def md_fl (x : Int32) : Int32 := if x - x / 2 * 2 = 1 then 1 else 0
def md_en (S : hw_St) (x : Int32) : Int32 := if x < 0 ∨ 6 ≤ x then 0 else md_fl (S 28 0 x.toNatClampNeg)
set_option maxRecDepth 100000 in
set_option maxHeartbeats 1000000 in
theorem m_M_enabled_y (l : Launch) (B : hw_B) (nb : Nat → Nat) (S : hw_St) (z : Nat) (hA : hw_al nb) (hF : hw_Fx S) (w : Nat) (hw : w < 6) : hw_M l yM_enabled cM_enabled 2 (some .boolean) ({ frames := 1, cells := 0, slots := 0, locals := 22 }) B [.ref (hw_a B 20 0), .int (nI w)] nb S z (hw_p (.inl (some (.int (md_fl (S 28 0 w))))) nb S z) := by
  refine hw_M.of (by decide) (Nat.le_of_ble_eq_true rfl) ?_
  intro X fr hl hR G hr hnm
  refine hr_iload_n G dM_enabled_0 rfl rfl ?_
  refine hr_iconst (v := 0) G dM_enabled_1 (by decide) ?_
  refine hr_iconst (v := 5) G dM_enabled_2 (by decide) ?_
  refine hr_callSs G kM_90 sM_within (m_within_y _ _ _ _ _ (nI w) 0 5 (nI_pos (by omega)) (show nI w ≤ 5 from nI_le (b := 5) (by omega) (by decide))) rfl rfl (Nat.le_of_ble_eq_true rfl) ⟨by rw [hR]; decide, by rw [hR]; decide⟩ ⟨by rw [hR]; decide, by rw [hR]; decide⟩ dM_enabled_3 ?_
  refine hr_if_eq (tgt := 25) G dM_enabled_6 (by decide) (fun h => absurd h (by decide)) (fun _ => ?_)
  refine hr_aload_n G dM_enabled_9 rfl rfl ?_
  refine hr_get (v := .ref (hw_a B 28 0)) G fM_32 (hA.lt (show 0 < hw_n0 20 by decide)) (hw_rfx hF (by decide) rfl (by decide)) dM_enabled_10 ?_
  refine hr_iload_n G dM_enabled_13 rfl rfl ?_
  refine hr_iald (n := w) (v := .int (S 28 0 w)) G rfl (by decide) rfl (hA.lt (show 0 < hw_n0 28 by decide)) rfl (show w < 6 from hw) rfl dM_enabled_14 ?_
  refine hr_iconst (v := 2) G dM_enabled_15 (by decide) ?_
  refine hr_irem G dM_enabled_16 (by decide) ?_
  refine hr_iconst (v := 1) G dM_enabled_17 (by decide) ?_
  refine hr_icmp_ne (tgt := 25) G dM_enabled_18 (by decide) (fun h18 => ?_) (fun h18 => ?_)
  · skip
    refine hr_iconst (v := 0) G dM_enabled_25 (by decide) ?_
    exact hr_zret G hr (rfl) (fun _ h => h) dM_enabled_26 ⟨by simp only [md_fl, h18, ↓reduceIte, eq_self, true_or, or_true, or_self], rfl, (by first | rfl | simp only [md_fl, h18, ↓reduceIte, eq_self, true_or, or_true, or_self]), rfl⟩
  · skip
    refine hr_iconst (v := 1) G dM_enabled_21 (by decide) ?_
    refine hr_goto (tgt := 26) G dM_enabled_22 (by decide) ?_
    exact hr_zret G hr (rfl) (fun _ h => h) dM_enabled_26 ⟨by simp only [md_fl, h18, ↓reduceIte, eq_self, true_or, or_true, or_self], rfl, (by first | rfl | simp only [md_fl, h18, ↓reduceIte, eq_self, true_or, or_true, or_self]), rfl⟩
set_option maxRecDepth 100000 in
set_option maxHeartbeats 1000000 in
theorem m_M_enabled_n (l : Launch) (B : hw_B) (nb : Nat → Nat) (S : hw_St) (z : Nat) (hA : hw_al nb) (hF : hw_Fx S) (x : Int32) (hx : x < 0 ∨ 6 ≤ x) : hw_M l yM_enabled cM_enabled 2 (some .boolean) ({ frames := 1, cells := 0, slots := 0, locals := 22 }) B [.ref (hw_a B 20 0), .int x] nb S z (hw_p (.inl (some (.int 0))) nb S z) := by
  refine hw_M.of (by decide) (Nat.le_of_ble_eq_true rfl) ?_
  intro X fr hl hR G hr hnm
  refine hr_iload_n G dM_enabled_0 rfl rfl ?_
  refine hr_iconst (v := 0) G dM_enabled_1 (by decide) ?_
  refine hr_iconst (v := 5) G dM_enabled_2 (by decide) ?_
  refine hr_callSs G kM_90 sM_within (m_within_n _ _ _ _ _ x 0 5 (hx.imp id fun q h => absurd (Int32.le_trans q h) (by decide))) rfl rfl (Nat.le_of_ble_eq_true rfl) ⟨by rw [hR]; decide, by rw [hR]; decide⟩ ⟨by rw [hR]; decide, by rw [hR]; decide⟩ dM_enabled_3 ?_
  refine hr_if_eq (tgt := 25) G dM_enabled_6 (by decide) (fun _ => ?_) (fun h => absurd (by decide) h)
  refine hr_iconst (v := 0) G dM_enabled_25 (by decide) ?_
  exact hr_zret G hr (rfl) (fun _ h => h) dM_enabled_26 hw_pi
theorem md_en_y {S : hw_St} {w : Nat} (h : w < 6) : md_en S (nI w) = md_fl (S 28 0 w) := by
  unfold md_en
  rw [if_neg, nI_clamp (by omega)]
  rintro (q | q)
  · exact nI_pos (by omega) q
  · exact nI_ge (b := 6) h (by decide) q
theorem m_M_enabled (l : Launch) (B : hw_B) (nb : Nat → Nat) (S : hw_St) (z : Nat) (hA : hw_al nb) (hF : hw_Fx S) (x : Int32) : hw_M l yM_enabled cM_enabled 2 (some .boolean) ({ frames := 1, cells := 0, slots := 0, locals := 22 }) B [.ref (hw_a B 20 0), .int x] nb S z (hw_p (.inl (some (.int (md_en S x)))) nb S z) := by
  rcases ib_rng x 6 (by decide) with ⟨w, hw, rfl⟩ | h
  · rw [md_en_y hw]
    exact m_M_enabled_y l B nb S z hA hF w hw
  · have e : md_en S x = 0 := by unfold md_en; exact if_pos h
    rw [e]
    exact m_M_enabled_n l B nb S z hA hF x h
def md_cnt (S : hw_St) (u : Nat) : Int32 := if S 26 0 u = 3 then (if S 20 0 1 - S 27 0 u ≤ 20 then S 26 0 u else 0) else S 26 0 u
def md_good (S : hw_St) (t s : Nat) : Int32 := if S 41 0 t = 0 then (if S 34 0 s = 0 then (if (if S 35 0 t = 2 then (60 : Int32) else 10) < S 20 0 1 - S 38 0 t then 0 else 1) else 0) else 0
set_option maxRecDepth 100000 in
set_option maxHeartbeats 1000000 in
theorem m_M_counting (l : Launch) (B : hw_B) (nb : Nat → Nat) (S : hw_St) (z : Nat) (hA : hw_al nb) (hF : hw_Fx S) (u : Nat) (hu : u < 4) : hw_M l yM_counting cM_counting 2 (some .int) ({ frames := 0, cells := 0, slots := 0, locals := 0 }) B [.ref (hw_a B 20 0), .int (nI u)] nb S z (hw_p (.inl (some (.int (md_cnt S u)))) nb S z) := by
  refine hw_M.of (by decide) (Nat.le_of_ble_eq_true rfl) ?_
  intro X fr hl hR G hr hnm
  refine hr_aload_n G dM_counting_0 rfl rfl ?_
  refine hr_get (v := .ref (hw_a B 26 0)) G fM_26 (hA.lt (show 0 < hw_n0 20 by decide)) (hw_rfx hF (by decide) rfl (by decide)) dM_counting_1 ?_
  refine hr_iload_n G dM_counting_4 rfl rfl ?_
  refine hr_iald (n := u) (v := .int (S 26 0 u)) G rfl (by decide) rfl (hA.lt (show 0 < hw_n0 26 by decide)) rfl (show u < 4 from hu) rfl dM_counting_5 ?_
  refine hr_iconst (v := 3) G dM_counting_6 (by decide) ?_
  refine hr_icmp_ne (tgt := 30) G dM_counting_7 (by decide) (fun h7 => ?_) (fun h7 => ?_)
  · skip
    refine hr_aload_n G dM_counting_30 rfl rfl ?_
    refine hr_get (v := .ref (hw_a B 26 0)) G fM_26 (hA.lt (show 0 < hw_n0 20 by decide)) (hw_rfx hF (by decide) rfl (by decide)) dM_counting_31 ?_
    refine hr_iload_n G dM_counting_34 rfl rfl ?_
    refine hr_iald (n := u) (v := .int (S 26 0 u)) G rfl (by decide) rfl (hA.lt (show 0 < hw_n0 26 by decide)) rfl (show u < 4 from hu) rfl dM_counting_35 ?_
    exact hr_iret G hr (fun _ h => h) dM_counting_36 ⟨by simp only [md_cnt, h7, ↓reduceIte, eq_self, true_or, or_true, or_self], rfl, (by first | rfl | simp only [md_cnt, h7, ↓reduceIte, eq_self, true_or, or_true, or_self]), rfl⟩
  · skip
    refine hr_aload_n G dM_counting_10 rfl rfl ?_
    refine hr_get (v := .int (S 20 0 1)) G fM_97 (hA.lt (show 0 < hw_n0 20 by decide)) rfl dM_counting_11 ?_
    refine hr_aload_n G dM_counting_14 rfl rfl ?_
    refine hr_get (v := .ref (hw_a B 27 0)) G fM_29 (hA.lt (show 0 < hw_n0 20 by decide)) (hw_rfx hF (by decide) rfl (by decide)) dM_counting_15 ?_
    refine hr_iload_n G dM_counting_18 rfl rfl ?_
    refine hr_iald (n := u) (v := .int (S 27 0 u)) G rfl (by decide) rfl (hA.lt (show 0 < hw_n0 27 by decide)) rfl (show u < 4 from hu) rfl dM_counting_19 ?_
    refine hr_isub G dM_counting_20 ?_
    refine hr_bipush (v := 20) G dM_counting_21 (by decide) ?_
    refine hr_icmp_le (tgt := 30) G dM_counting_23 (by decide) (fun h23 => ?_) (fun h23 => ?_)
    · skip
      refine hr_aload_n G dM_counting_30 rfl rfl ?_
      refine hr_get (v := .ref (hw_a B 26 0)) G fM_26 (hA.lt (show 0 < hw_n0 20 by decide)) (hw_rfx hF (by decide) rfl (by decide)) dM_counting_31 ?_
      refine hr_iload_n G dM_counting_34 rfl rfl ?_
      refine hr_iald (n := u) (v := .int (S 26 0 u)) G rfl (by decide) rfl (hA.lt (show 0 < hw_n0 26 by decide)) rfl (show u < 4 from hu) rfl dM_counting_35 ?_
      exact hr_iret G hr (fun _ h => h) dM_counting_36 ⟨by simp only [md_cnt, h7, h23, ↓reduceIte, eq_self, true_or, or_true, or_self], rfl, (by first | rfl | simp only [md_cnt, h7, h23, ↓reduceIte, eq_self, true_or, or_true, or_self]), rfl⟩
    · skip
      refine hr_iconst (v := 0) G dM_counting_26 (by decide) ?_
      refine hr_goto (tgt := 36) G dM_counting_27 (by decide) ?_
      exact hr_iret G hr (fun _ h => h) dM_counting_36 ⟨by simp only [md_cnt, h7, h23, ↓reduceIte, eq_self, true_or, or_true, or_self], rfl, (by first | rfl | simp only [md_cnt, h7, h23, ↓reduceIte, eq_self, true_or, or_true, or_self]), rfl⟩
set_option maxRecDepth 100000 in
set_option maxHeartbeats 1000000 in
theorem m_M_good (l : Launch) (B : hw_B) (nb : Nat → Nat) (S : hw_St) (z : Nat) (hA : hw_al nb) (hF : hw_Fx S) (t s : Nat) (ht : t < 150) (hs : s < 40) (hts : S 36 0 t = nI s) : hw_M l yM_good cM_good 3 (some .boolean) ({ frames := 0, cells := 0, slots := 0, locals := 0 }) B [.ref (hw_a B 20 0), .int (nI t)] nb S z (hw_p (.inl (some (.int (md_good S t s)))) nb S z) := by
  refine hw_M.of (by decide) (Nat.le_of_ble_eq_true rfl) ?_
  intro X fr hl hR G hr hnm
  refine hr_aload_n G dM_good_0 rfl rfl ?_
  refine hr_get (v := .ref (hw_a B 35 0)) G fM_53 (hA.lt (show 0 < hw_n0 20 by decide)) (hw_rfx hF (by decide) rfl (by decide)) dM_good_1 ?_
  refine hr_iload_n G dM_good_4 rfl rfl ?_
  refine hr_iald (n := t) (v := .int (S 35 0 t)) G rfl (by decide) rfl (hA.lt (show 0 < hw_n0 35 by decide)) rfl (show t < 150 by omega) rfl dM_good_5 ?_
  refine hr_iconst (v := 2) G dM_good_6 (by decide) ?_
  refine hr_icmp_ne (tgt := 15) G dM_good_7 (by decide) (fun h7 => ?_) (fun h7 => ?_)
  · skip
    refine hr_bipush (v := 10) G dM_good_15 (by decide) ?_
    refine hr_istore_n (i := 2) G dM_good_17 rfl (by decide) ?_
    refine hr_aload_n G dM_good_18 rfl rfl ?_
    refine hr_get (v := .ref (hw_a B 41 0)) G fM_71 (hA.lt (show 0 < hw_n0 20 by decide)) (hw_rfx hF (by decide) rfl (by decide)) dM_good_19 ?_
    refine hr_iload_n G dM_good_22 rfl rfl ?_
    refine hr_zald (n := t) (v := .int (S 41 0 t)) G rfl (by decide) rfl (hA.lt (show 0 < hw_n0 41 by decide)) rfl (show t < 150 by omega) rfl dM_good_23 ?_
    refine hr_if_ne (tgt := 60) G dM_good_24 (by decide) (fun h24 => ?_) (fun h24 => ?_)
    · skip
      refine hr_iconst (v := 0) G dM_good_60 (by decide) ?_
      exact hr_zret G hr (rfl) (fun _ h => h) dM_good_61 ⟨by simp only [md_good, h7, h24, ↓reduceIte, eq_self, true_or, or_true, or_self], rfl, (by first | rfl | simp only [md_good, h7, h24, ↓reduceIte, eq_self, true_or, or_true, or_self]), rfl⟩
    · skip
      refine hr_aload_n G dM_good_27 rfl rfl ?_
      refine hr_get (v := .ref (hw_a B 34 0)) G fM_50 (hA.lt (show 0 < hw_n0 20 by decide)) (hw_rfx hF (by decide) rfl (by decide)) dM_good_28 ?_
      refine hr_aload_n G dM_good_31 rfl rfl ?_
      refine hr_get (v := .ref (hw_a B 36 0)) G fM_56 (hA.lt (show 0 < hw_n0 20 by decide)) (hw_rfx hF (by decide) rfl (by decide)) dM_good_32 ?_
      refine hr_iload_n G dM_good_35 rfl rfl ?_
      refine hr_iald (n := t) (v := .int (S 36 0 t)) G rfl (by decide) rfl (hA.lt (show 0 < hw_n0 36 by decide)) rfl (show t < 150 by omega) rfl dM_good_36 ?_
      refine hr_zald (n := s) (v := .int (S 34 0 s)) G rfl (by decide) rfl (hA.lt (show 0 < hw_n0 34 by decide)) hts (show s < 40 by omega) rfl dM_good_37 ?_
      refine hr_if_ne (tgt := 60) G dM_good_38 (by decide) (fun h38 => ?_) (fun h38 => ?_)
      · skip
        refine hr_iconst (v := 0) G dM_good_60 (by decide) ?_
        exact hr_zret G hr (rfl) (fun _ h => h) dM_good_61 ⟨by simp only [md_good, h7, h24, h38, ↓reduceIte, eq_self, true_or, or_true, or_self], rfl, (by first | rfl | simp only [md_good, h7, h24, h38, ↓reduceIte, eq_self, true_or, or_true, or_self]), rfl⟩
      · skip
        refine hr_aload_n G dM_good_41 rfl rfl ?_
        refine hr_get (v := .int (S 20 0 1)) G fM_97 (hA.lt (show 0 < hw_n0 20 by decide)) rfl dM_good_42 ?_
        refine hr_aload_n G dM_good_45 rfl rfl ?_
        refine hr_get (v := .ref (hw_a B 38 0)) G fM_62 (hA.lt (show 0 < hw_n0 20 by decide)) (hw_rfx hF (by decide) rfl (by decide)) dM_good_46 ?_
        refine hr_iload_n G dM_good_49 rfl rfl ?_
        refine hr_iald (n := t) (v := .int (S 38 0 t)) G rfl (by decide) rfl (hA.lt (show 0 < hw_n0 38 by decide)) rfl (show t < 150 by omega) rfl dM_good_50 ?_
        refine hr_isub G dM_good_51 ?_
        refine hr_iload_n G dM_good_52 rfl rfl ?_
        refine hr_icmp_gt (tgt := 60) G dM_good_53 (by decide) (fun h53 => ?_) (fun h53 => ?_)
        · skip
          refine hr_iconst (v := 0) G dM_good_60 (by decide) ?_
          exact hr_zret G hr (rfl) (fun _ h => h) dM_good_61 ⟨by simp only [md_good, h7, h24, h38, h53, ↓reduceIte, eq_self, true_or, or_true, or_self], rfl, (by first | rfl | simp only [md_good, h7, h24, h38, h53, ↓reduceIte, eq_self, true_or, or_true, or_self]), rfl⟩
        · skip
          refine hr_iconst (v := 1) G dM_good_56 (by decide) ?_
          refine hr_goto (tgt := 61) G dM_good_57 (by decide) ?_
          exact hr_zret G hr (rfl) (fun _ h => h) dM_good_61 ⟨by simp only [md_good, h7, h24, h38, h53, ↓reduceIte, eq_self, true_or, or_true, or_self], rfl, (by first | rfl | simp only [md_good, h7, h24, h38, h53, ↓reduceIte, eq_self, true_or, or_true, or_self]), rfl⟩
  · skip
    refine hr_bipush (v := 60) G dM_good_10 (by decide) ?_
    refine hr_goto (tgt := 17) G dM_good_12 (by decide) ?_
    refine hr_istore_n (i := 2) G dM_good_17 rfl (by decide) ?_
    refine hr_aload_n G dM_good_18 rfl rfl ?_
    refine hr_get (v := .ref (hw_a B 41 0)) G fM_71 (hA.lt (show 0 < hw_n0 20 by decide)) (hw_rfx hF (by decide) rfl (by decide)) dM_good_19 ?_
    refine hr_iload_n G dM_good_22 rfl rfl ?_
    refine hr_zald (n := t) (v := .int (S 41 0 t)) G rfl (by decide) rfl (hA.lt (show 0 < hw_n0 41 by decide)) rfl (show t < 150 by omega) rfl dM_good_23 ?_
    refine hr_if_ne (tgt := 60) G dM_good_24 (by decide) (fun h24 => ?_) (fun h24 => ?_)
    · skip
      refine hr_iconst (v := 0) G dM_good_60 (by decide) ?_
      exact hr_zret G hr (rfl) (fun _ h => h) dM_good_61 ⟨by simp only [md_good, h7, h24, ↓reduceIte, eq_self, true_or, or_true, or_self], rfl, (by first | rfl | simp only [md_good, h7, h24, ↓reduceIte, eq_self, true_or, or_true, or_self]), rfl⟩
    · skip
      refine hr_aload_n G dM_good_27 rfl rfl ?_
      refine hr_get (v := .ref (hw_a B 34 0)) G fM_50 (hA.lt (show 0 < hw_n0 20 by decide)) (hw_rfx hF (by decide) rfl (by decide)) dM_good_28 ?_
      refine hr_aload_n G dM_good_31 rfl rfl ?_
      refine hr_get (v := .ref (hw_a B 36 0)) G fM_56 (hA.lt (show 0 < hw_n0 20 by decide)) (hw_rfx hF (by decide) rfl (by decide)) dM_good_32 ?_
      refine hr_iload_n G dM_good_35 rfl rfl ?_
      refine hr_iald (n := t) (v := .int (S 36 0 t)) G rfl (by decide) rfl (hA.lt (show 0 < hw_n0 36 by decide)) rfl (show t < 150 by omega) rfl dM_good_36 ?_
      refine hr_zald (n := s) (v := .int (S 34 0 s)) G rfl (by decide) rfl (hA.lt (show 0 < hw_n0 34 by decide)) hts (show s < 40 by omega) rfl dM_good_37 ?_
      refine hr_if_ne (tgt := 60) G dM_good_38 (by decide) (fun h38 => ?_) (fun h38 => ?_)
      · skip
        refine hr_iconst (v := 0) G dM_good_60 (by decide) ?_
        exact hr_zret G hr (rfl) (fun _ h => h) dM_good_61 ⟨by simp only [md_good, h7, h24, h38, ↓reduceIte, eq_self, true_or, or_true, or_self], rfl, (by first | rfl | simp only [md_good, h7, h24, h38, ↓reduceIte, eq_self, true_or, or_true, or_self]), rfl⟩
      · skip
        refine hr_aload_n G dM_good_41 rfl rfl ?_
        refine hr_get (v := .int (S 20 0 1)) G fM_97 (hA.lt (show 0 < hw_n0 20 by decide)) rfl dM_good_42 ?_
        refine hr_aload_n G dM_good_45 rfl rfl ?_
        refine hr_get (v := .ref (hw_a B 38 0)) G fM_62 (hA.lt (show 0 < hw_n0 20 by decide)) (hw_rfx hF (by decide) rfl (by decide)) dM_good_46 ?_
        refine hr_iload_n G dM_good_49 rfl rfl ?_
        refine hr_iald (n := t) (v := .int (S 38 0 t)) G rfl (by decide) rfl (hA.lt (show 0 < hw_n0 38 by decide)) rfl (show t < 150 by omega) rfl dM_good_50 ?_
        refine hr_isub G dM_good_51 ?_
        refine hr_iload_n G dM_good_52 rfl rfl ?_
        refine hr_icmp_gt (tgt := 60) G dM_good_53 (by decide) (fun h53 => ?_) (fun h53 => ?_)
        · skip
          refine hr_iconst (v := 0) G dM_good_60 (by decide) ?_
          exact hr_zret G hr (rfl) (fun _ h => h) dM_good_61 ⟨by simp only [md_good, h7, h24, h38, h53, ↓reduceIte, eq_self, true_or, or_true, or_self], rfl, (by first | rfl | simp only [md_good, h7, h24, h38, h53, ↓reduceIte, eq_self, true_or, or_true, or_self]), rfl⟩
        · skip
          refine hr_iconst (v := 1) G dM_good_56 (by decide) ?_
          refine hr_goto (tgt := 61) G dM_good_57 (by decide) ?_
          exact hr_zret G hr (rfl) (fun _ h => h) dM_good_61 ⟨by simp only [md_good, h7, h24, h38, h53, ↓reduceIte, eq_self, true_or, or_true, or_self], rfl, (by first | rfl | simp only [md_good, h7, h24, h38, h53, ↓reduceIte, eq_self, true_or, or_true, or_self]), rfl⟩
def md_giv (S : hw_St) (n : Nat) (k s w f p : Int32) : hw_St := hw_sv (hw_sv (hw_sv (hw_sv (hw_sv (hw_sv (hw_sv (hw_sv S 35 0 n k) 36 0 n s) 37 0 n w) 38 0 n (S 20 0 1)) 39 0 n f) 40 0 n p) 41 0 n 0) 20 0 18 (S 20 0 18 + 1)
theorem md_giv_fx {S : hw_St} {n : Nat} {k s w f p : Int32} (h : hw_Fx S) : hw_Fx (md_giv S n k s w f p) := (((((((h.sv rfl).sv rfl).sv rfl).sv rfl).sv rfl).sv rfl).sv rfl).sv rfl
theorem nI_p1 (n : Nat) : nI n + 1 - 1 = nI n := by rw [← nI_succ, nI_pred]
set_option maxRecDepth 100000 in
set_option maxHeartbeats 1000000 in
theorem m_M_give (l : Launch) (B : hw_B) (nb : Nat → Nat) (S : hw_St) (z : Nat) (hA : hw_al nb) (hF : hw_Fx S) (n : Nat) (hn : n < 150) (hc : S 20 0 18 = nI n) (k s w f p : Int32) (hf : ib_b f) : hw_M l yM_give cM_give 6 (some .int) ({ frames := 0, cells := 0, slots := 0, locals := 0 }) B [.ref (hw_a B 20 0), .int k, .int s, .int w, .int f, .int p] nb S z (hw_p (.inl (some (.int (nI n)))) nb (md_giv S n k s w f p) z) := by
  refine hw_M.of (by decide) (Nat.le_of_ble_eq_true rfl) ?_
  intro X fr hl hR G hr hnm
  refine hr_aload_n G dM_give_0 rfl rfl ?_
  refine hr_get (v := .ref (hw_a B 35 0)) G fM_53 (hA.lt (show 0 < hw_n0 20 by decide)) (hw_rfx hF (by decide) rfl (by decide)) dM_give_1 ?_
  refine hr_aload_n G dM_give_4 rfl rfl ?_
  refine hr_get (v := .int (S 20 0 18)) G fM_111 (hA.lt (show 0 < hw_n0 20 by decide)) rfl dM_give_5 ?_
  refine hr_iload_n G dM_give_8 rfl rfl ?_
  refine hr_iast (n := n) (y := k) G rfl (by decide) rfl (hA.lt (show 0 < hw_n0 35 by decide)) hc (show n < 150 from hn) rfl dM_give_9 ?_
  refine hr_aload_n G dM_give_10 rfl rfl ?_
  refine hr_get (v := .ref (hw_a B 36 0)) G fM_56 (hA.lt (show 0 < hw_n0 20 by decide)) (hw_rfx (hF.sv rfl) (by decide) rfl (by decide)) dM_give_11 ?_
  refine hr_aload_n G dM_give_14 rfl rfl ?_
  refine hr_get (v := .int (S 20 0 18)) G fM_111 (hA.lt (show 0 < hw_n0 20 by decide)) rfl dM_give_15 ?_
  refine hr_iload_n G dM_give_18 rfl rfl ?_
  refine hr_iast (n := n) (y := s) G rfl (by decide) rfl (hA.lt (show 0 < hw_n0 36 by decide)) hc (show n < 150 from hn) rfl dM_give_19 ?_
  refine hr_aload_n G dM_give_20 rfl rfl ?_
  refine hr_get (v := .ref (hw_a B 37 0)) G fM_59 (hA.lt (show 0 < hw_n0 20 by decide)) (hw_rfx ((hF.sv rfl).sv rfl) (by decide) rfl (by decide)) dM_give_21 ?_
  refine hr_aload_n G dM_give_24 rfl rfl ?_
  refine hr_get (v := .int (S 20 0 18)) G fM_111 (hA.lt (show 0 < hw_n0 20 by decide)) rfl dM_give_25 ?_
  refine hr_iload_n G dM_give_28 rfl rfl ?_
  refine hr_iast (n := n) (y := w) G rfl (by decide) rfl (hA.lt (show 0 < hw_n0 37 by decide)) hc (show n < 150 from hn) rfl dM_give_29 ?_
  refine hr_aload_n G dM_give_30 rfl rfl ?_
  refine hr_get (v := .ref (hw_a B 38 0)) G fM_62 (hA.lt (show 0 < hw_n0 20 by decide)) (hw_rfx (((hF.sv rfl).sv rfl).sv rfl) (by decide) rfl (by decide)) dM_give_31 ?_
  refine hr_aload_n G dM_give_34 rfl rfl ?_
  refine hr_get (v := .int (S 20 0 18)) G fM_111 (hA.lt (show 0 < hw_n0 20 by decide)) rfl dM_give_35 ?_
  refine hr_aload_n G dM_give_38 rfl rfl ?_
  refine hr_get (v := .int (S 20 0 1)) G fM_97 (hA.lt (show 0 < hw_n0 20 by decide)) rfl dM_give_39 ?_
  refine hr_iast (n := n) (y := (S 20 0 1)) G rfl (by decide) rfl (hA.lt (show 0 < hw_n0 38 by decide)) hc (show n < 150 from hn) rfl dM_give_42 ?_
  refine hr_aload_n G dM_give_43 rfl rfl ?_
  refine hr_get (v := .ref (hw_a B 39 0)) G fM_65 (hA.lt (show 0 < hw_n0 20 by decide)) (hw_rfx ((((hF.sv rfl).sv rfl).sv rfl).sv rfl) (by decide) rfl (by decide)) dM_give_44 ?_
  refine hr_aload_n G dM_give_47 rfl rfl ?_
  refine hr_get (v := .int (S 20 0 18)) G fM_111 (hA.lt (show 0 < hw_n0 20 by decide)) rfl dM_give_48 ?_
  refine hr_iload G dM_give_51 rfl ?_
  refine hr_zast (n := n) (y := f) G rfl (by decide) rfl (hA.lt (show 0 < hw_n0 39 by decide)) hc (show n < 150 from hn) rfl (ib_01 hf) dM_give_53 ?_
  refine hr_aload_n G dM_give_54 rfl rfl ?_
  refine hr_get (v := .ref (hw_a B 40 0)) G fM_68 (hA.lt (show 0 < hw_n0 20 by decide)) (hw_rfx (((((hF.sv rfl).sv rfl).sv rfl).sv rfl).sv rfl) (by decide) rfl (by decide)) dM_give_55 ?_
  refine hr_aload_n G dM_give_58 rfl rfl ?_
  refine hr_get (v := .int (S 20 0 18)) G fM_111 (hA.lt (show 0 < hw_n0 20 by decide)) rfl dM_give_59 ?_
  refine hr_iload G dM_give_62 rfl ?_
  refine hr_iast (n := n) (y := p) G rfl (by decide) rfl (hA.lt (show 0 < hw_n0 40 by decide)) hc (show n < 150 from hn) rfl dM_give_64 ?_
  refine hr_aload_n G dM_give_65 rfl rfl ?_
  refine hr_get (v := .ref (hw_a B 41 0)) G fM_71 (hA.lt (show 0 < hw_n0 20 by decide)) (hw_rfx ((((((hF.sv rfl).sv rfl).sv rfl).sv rfl).sv rfl).sv rfl) (by decide) rfl (by decide)) dM_give_66 ?_
  refine hr_aload_n G dM_give_69 rfl rfl ?_
  refine hr_get (v := .int (S 20 0 18)) G fM_111 (hA.lt (show 0 < hw_n0 20 by decide)) rfl dM_give_70 ?_
  refine hr_iconst (v := 0) G dM_give_73 (by decide) ?_
  refine hr_zast (n := n) (y := 0) G rfl (by decide) rfl (hA.lt (show 0 < hw_n0 41 by decide)) hc (show n < 150 from hn) rfl (rfl) dM_give_74 ?_
  refine hr_aload_n G dM_give_75 rfl rfl ?_
  refine hr_dup G dM_give_76 rfl ?_
  refine hr_get (v := .int (S 20 0 18)) G fM_111 (hA.lt (show 0 < hw_n0 20 by decide)) rfl dM_give_77 ?_
  refine hr_iconst (v := 1) G dM_give_80 (by decide) ?_
  refine hr_iadd G dM_give_81 ?_
  refine hr_put (x := ((S 20 0 18) + 1)) G fM_111 (hA.lt (show 0 < hw_n0 20 by decide)) rfl (rfl) rfl dM_give_82 ?_
  refine hr_aload_n G dM_give_85 rfl rfl ?_
  refine hr_get (v := .int ((S 20 0 18) + 1)) G fM_111 (hA.lt (show 0 < hw_n0 20 by decide)) rfl dM_give_86 ?_
  refine hr_iconst (v := 1) G dM_give_89 (by decide) ?_
  refine hr_isub G dM_give_90 ?_
  exact hr_iret G hr (fun _ h => h) dM_give_91 ⟨by rw [hc, nI_p1], rfl, rfl, rfl⟩
set_option maxRecDepth 100000 in
set_option maxHeartbeats 1000000 in
theorem m_M_tries_a (l : Launch) (B : hw_B) (nb : Nat → Nat) (S : hw_St) (z : Nat) (hA : hw_al nb) (hF : hw_Fx S) (u : Nat) (hu : u < 4) (y r : Int32) (hk : S 24 0 u = 0) : hw_M l yM_tries cM_tries 5 (some .int) ({ frames := 1, cells := 0, slots := 0, locals := 21 }) B [.ref (hw_a B 20 0), .int (nI u), .int y, .int r] nb S z (hw_p (.inl (some (.int (-2)))) nb S z) := by
  refine hw_M.of (by decide) (Nat.le_of_ble_eq_true rfl) ?_
  intro X fr hl hR G hr hnm
  refine hr_aload_n G dM_tries_0 rfl rfl ?_
  refine hr_get (v := .ref (hw_a B 24 0)) G fM_19 (hA.lt (show 0 < hw_n0 20 by decide)) (hw_rfx hF (by decide) rfl (by decide)) dM_tries_1 ?_
  refine hr_iload_n G dM_tries_4 rfl rfl ?_
  refine hr_zald (n := u) (v := .int (S 24 0 u)) G rfl (by decide) rfl (hA.lt (show 0 < hw_n0 24 by decide)) rfl (show u < 4 from hu) rfl dM_tries_5 ?_
  refine hr_if_ne (tgt := 12) G dM_tries_6 (by decide) (fun h => absurd hk h) (fun _ => ?_)
  refine hr_bipush (v := -2) G dM_tries_9 (by decide) ?_
  exact hr_iret G hr (fun _ h => h) dM_tries_11 hw_pi
set_option maxRecDepth 100000 in
set_option maxHeartbeats 1000000 in
theorem m_M_tries_b (l : Launch) (B : hw_B) (nb : Nat → Nat) (S : hw_St) (z : Nat) (hA : hw_al nb) (hF : hw_Fx S) (u : Nat) (hu : u < 4) (y r : Int32) (hk : ¬ S 24 0 u = 0) (h3 : md_cnt S u = 3) : hw_M l yM_tries cM_tries 5 (some .int) ({ frames := 1, cells := 0, slots := 0, locals := 21 }) B [.ref (hw_a B 20 0), .int (nI u), .int y, .int r] nb S z (hw_p (.inl (some (.int (-3)))) nb S z) := by
  refine hw_M.of (by decide) (Nat.le_of_ble_eq_true rfl) ?_
  intro X fr hl hR G hr hnm
  refine hr_aload_n G dM_tries_0 rfl rfl ?_
  refine hr_get (v := .ref (hw_a B 24 0)) G fM_19 (hA.lt (show 0 < hw_n0 20 by decide)) (hw_rfx hF (by decide) rfl (by decide)) dM_tries_1 ?_
  refine hr_iload_n G dM_tries_4 rfl rfl ?_
  refine hr_zald (n := u) (v := .int (S 24 0 u)) G rfl (by decide) rfl (hA.lt (show 0 < hw_n0 24 by decide)) rfl (show u < 4 from hu) rfl dM_tries_5 ?_
  refine hr_if_ne (tgt := 12) G dM_tries_6 (by decide) (fun _ => ?_) (fun h => absurd h hk)
  refine hr_aload_n G dM_tries_12 rfl rfl ?_
  refine hr_iload_n G dM_tries_13 rfl rfl ?_
  refine hr_callVs (k := 20) (i := 0) G rfl rfl (hA.lt (show 0 < hw_n0 20 by decide)) kM_100 iM_counting vM_counting (m_M_counting _ _ _ _ _ hA hF u hu) rfl rfl (Nat.le_of_ble_eq_true rfl) ⟨by rw [hR]; decide, by rw [hR]; decide⟩ ⟨by rw [hR]; decide, by rw [hR]; decide⟩ dM_tries_14 ?_
  refine hr_istore (i := 4) G dM_tries_17 (by decide) ?_
  refine hr_iload G dM_tries_19 rfl ?_
  refine hr_iconst (v := 3) G dM_tries_21 (by decide) ?_
  refine hr_icmp_ne (tgt := 28) G dM_tries_22 (by decide) (fun h => absurd h3 h) (fun _ => ?_)
  refine hr_bipush (v := -3) G dM_tries_25 (by decide) ?_
  exact hr_iret G hr (fun _ h => h) dM_tries_27 hw_pi
set_option maxRecDepth 100000 in
set_option maxHeartbeats 1000000 in
theorem m_M_tries_c (l : Launch) (B : hw_B) (nb : Nat → Nat) (S : hw_St) (z : Nat) (hA : hw_al nb) (hF : hw_Fx S) (u : Nat) (hu : u < 4) (y r : Int32) (hk : ¬ S 24 0 u = 0) (h3 : ¬ md_cnt S u = 3) (hw : ¬ S 25 0 u = y) : hw_M l yM_tries cM_tries 5 (some .int) ({ frames := 1, cells := 0, slots := 0, locals := 21 }) B [.ref (hw_a B 20 0), .int (nI u), .int y, .int r] nb S z (hw_p (.inl (some (.int (-2)))) nb (hw_sv (hw_sv S 26 0 u (md_cnt S u + 1)) 27 0 u (S 20 0 1)) z) := by
  refine hw_M.of (by decide) (Nat.le_of_ble_eq_true rfl) ?_
  intro X fr hl hR G hr hnm
  refine hr_aload_n G dM_tries_0 rfl rfl ?_
  refine hr_get (v := .ref (hw_a B 24 0)) G fM_19 (hA.lt (show 0 < hw_n0 20 by decide)) (hw_rfx hF (by decide) rfl (by decide)) dM_tries_1 ?_
  refine hr_iload_n G dM_tries_4 rfl rfl ?_
  refine hr_zald (n := u) (v := .int (S 24 0 u)) G rfl (by decide) rfl (hA.lt (show 0 < hw_n0 24 by decide)) rfl (show u < 4 from hu) rfl dM_tries_5 ?_
  refine hr_if_ne (tgt := 12) G dM_tries_6 (by decide) (fun _ => ?_) (fun h => absurd h hk)
  refine hr_aload_n G dM_tries_12 rfl rfl ?_
  refine hr_iload_n G dM_tries_13 rfl rfl ?_
  refine hr_callVs (k := 20) (i := 0) G rfl rfl (hA.lt (show 0 < hw_n0 20 by decide)) kM_100 iM_counting vM_counting (m_M_counting _ _ _ _ _ hA hF u hu) rfl rfl (Nat.le_of_ble_eq_true rfl) ⟨by rw [hR]; decide, by rw [hR]; decide⟩ ⟨by rw [hR]; decide, by rw [hR]; decide⟩ dM_tries_14 ?_
  refine hr_istore (i := 4) G dM_tries_17 (by decide) ?_
  refine hr_iload G dM_tries_19 rfl ?_
  refine hr_iconst (v := 3) G dM_tries_21 (by decide) ?_
  refine hr_icmp_ne (tgt := 28) G dM_tries_22 (by decide) (fun _ => ?_) (fun h => absurd h h3)
  refine hr_aload_n G dM_tries_28 rfl rfl ?_
  refine hr_get (v := .ref (hw_a B 25 0)) G fM_23 (hA.lt (show 0 < hw_n0 20 by decide)) (hw_rfx hF (by decide) rfl (by decide)) dM_tries_29 ?_
  refine hr_iload_n G dM_tries_32 rfl rfl ?_
  refine hr_iald (n := u) (v := .int (S 25 0 u)) G rfl (by decide) rfl (hA.lt (show 0 < hw_n0 25 by decide)) rfl (show u < 4 from hu) rfl dM_tries_33 ?_
  refine hr_iload_n G dM_tries_34 rfl rfl ?_
  refine hr_icmp_eq (tgt := 61) G dM_tries_35 (by decide) (fun h => absurd h hw) (fun _ => ?_)
  refine hr_aload_n G dM_tries_38 rfl rfl ?_
  refine hr_get (v := .ref (hw_a B 26 0)) G fM_26 (hA.lt (show 0 < hw_n0 20 by decide)) (hw_rfx hF (by decide) rfl (by decide)) dM_tries_39 ?_
  refine hr_iload_n G dM_tries_42 rfl rfl ?_
  refine hr_iload G dM_tries_43 rfl ?_
  refine hr_iconst (v := 1) G dM_tries_45 (by decide) ?_
  refine hr_iadd G dM_tries_46 ?_
  refine hr_iast (n := u) (y := ((md_cnt S u) + 1)) G rfl (by decide) rfl (hA.lt (show 0 < hw_n0 26 by decide)) rfl (show u < 4 from hu) rfl dM_tries_47 ?_
  refine hr_aload_n G dM_tries_48 rfl rfl ?_
  refine hr_get (v := .ref (hw_a B 27 0)) G fM_29 (hA.lt (show 0 < hw_n0 20 by decide)) (hw_rfx (hF.sv rfl) (by decide) rfl (by decide)) dM_tries_49 ?_
  refine hr_iload_n G dM_tries_52 rfl rfl ?_
  refine hr_aload_n G dM_tries_53 rfl rfl ?_
  refine hr_get (v := .int (S 20 0 1)) G fM_97 (hA.lt (show 0 < hw_n0 20 by decide)) rfl dM_tries_54 ?_
  refine hr_iast (n := u) (y := (S 20 0 1)) G rfl (by decide) rfl (hA.lt (show 0 < hw_n0 27 by decide)) rfl (show u < 4 from hu) rfl dM_tries_57 ?_
  refine hr_bipush (v := -2) G dM_tries_58 (by decide) ?_
  exact hr_iret G hr (fun _ h => h) dM_tries_60 hw_pi
def md_opn (S : hw_St) (n u : Nat) (r : Int32) : hw_St := hw_sv (hw_sv (hw_sv (hw_sv (hw_sv (hw_sv (hw_sv S 26 0 u 0) 30 0 n (nI u)) 31 0 n (S 20 0 1)) 32 0 n (S 20 0 1)) 33 0 n r) 34 0 n 0) 20 0 12 (S 20 0 12 + 1)
theorem md_opn_fx {S : hw_St} {n u : Nat} {r : Int32} (h : hw_Fx S) : hw_Fx (md_opn S n u r) := ((((((h.sv rfl).sv rfl).sv rfl).sv rfl).sv rfl).sv rfl).sv rfl
set_option maxRecDepth 100000 in
set_option maxHeartbeats 1000000 in
theorem m_M_tries_d (l : Launch) (B : hw_B) (nb : Nat → Nat) (S : hw_St) (z : Nat) (hA : hw_al nb) (hF : hw_Fx S) (u : Nat) (hu : u < 4) (y r : Int32) (hr1 : ib_b r) (n : Nat) (hn : n < 40) (hc : S 20 0 12 = nI n) (hk : ¬ S 24 0 u = 0) (h3 : ¬ md_cnt S u = 3) (hw : S 25 0 u = y) : hw_M l yM_tries cM_tries 5 (some .int) ({ frames := 1, cells := 0, slots := 0, locals := 21 }) B [.ref (hw_a B 20 0), .int (nI u), .int y, .int r] nb S z (hw_p (.inl (some (.int (nI n)))) nb (md_opn S n u r) z) := by
  refine hw_M.of (by decide) (Nat.le_of_ble_eq_true rfl) ?_
  intro X fr hl hR G hr hnm
  refine hr_aload_n G dM_tries_0 rfl rfl ?_
  refine hr_get (v := .ref (hw_a B 24 0)) G fM_19 (hA.lt (show 0 < hw_n0 20 by decide)) (hw_rfx hF (by decide) rfl (by decide)) dM_tries_1 ?_
  refine hr_iload_n G dM_tries_4 rfl rfl ?_
  refine hr_zald (n := u) (v := .int (S 24 0 u)) G rfl (by decide) rfl (hA.lt (show 0 < hw_n0 24 by decide)) rfl (show u < 4 from hu) rfl dM_tries_5 ?_
  refine hr_if_ne (tgt := 12) G dM_tries_6 (by decide) (fun _ => ?_) (fun h => absurd h hk)
  refine hr_aload_n G dM_tries_12 rfl rfl ?_
  refine hr_iload_n G dM_tries_13 rfl rfl ?_
  refine hr_callVs (k := 20) (i := 0) G rfl rfl (hA.lt (show 0 < hw_n0 20 by decide)) kM_100 iM_counting vM_counting (m_M_counting _ _ _ _ _ hA hF u hu) rfl rfl (Nat.le_of_ble_eq_true rfl) ⟨by rw [hR]; decide, by rw [hR]; decide⟩ ⟨by rw [hR]; decide, by rw [hR]; decide⟩ dM_tries_14 ?_
  refine hr_istore (i := 4) G dM_tries_17 (by decide) ?_
  refine hr_iload G dM_tries_19 rfl ?_
  refine hr_iconst (v := 3) G dM_tries_21 (by decide) ?_
  refine hr_icmp_ne (tgt := 28) G dM_tries_22 (by decide) (fun _ => ?_) (fun h => absurd h h3)
  refine hr_aload_n G dM_tries_28 rfl rfl ?_
  refine hr_get (v := .ref (hw_a B 25 0)) G fM_23 (hA.lt (show 0 < hw_n0 20 by decide)) (hw_rfx hF (by decide) rfl (by decide)) dM_tries_29 ?_
  refine hr_iload_n G dM_tries_32 rfl rfl ?_
  refine hr_iald (n := u) (v := .int (S 25 0 u)) G rfl (by decide) rfl (hA.lt (show 0 < hw_n0 25 by decide)) rfl (show u < 4 from hu) rfl dM_tries_33 ?_
  refine hr_iload_n G dM_tries_34 rfl rfl ?_
  refine hr_icmp_eq (tgt := 61) G dM_tries_35 (by decide) (fun _ => ?_) (fun h => absurd hw h)
  refine hr_aload_n G dM_tries_61 rfl rfl ?_
  refine hr_get (v := .ref (hw_a B 26 0)) G fM_26 (hA.lt (show 0 < hw_n0 20 by decide)) (hw_rfx hF (by decide) rfl (by decide)) dM_tries_62 ?_
  refine hr_iload_n G dM_tries_65 rfl rfl ?_
  refine hr_iconst (v := 0) G dM_tries_66 (by decide) ?_
  refine hr_iast (n := u) (y := 0) G rfl (by decide) rfl (hA.lt (show 0 < hw_n0 26 by decide)) rfl (show u < 4 from hu) rfl dM_tries_67 ?_
  refine hr_aload_n G dM_tries_68 rfl rfl ?_
  refine hr_get (v := .ref (hw_a B 30 0)) G fM_38 (hA.lt (show 0 < hw_n0 20 by decide)) (hw_rfx (hF.sv rfl) (by decide) rfl (by decide)) dM_tries_69 ?_
  refine hr_aload_n G dM_tries_72 rfl rfl ?_
  refine hr_get (v := .int (S 20 0 12)) G fM_104 (hA.lt (show 0 < hw_n0 20 by decide)) rfl dM_tries_73 ?_
  refine hr_iload_n G dM_tries_76 rfl rfl ?_
  refine hr_iast (n := n) (y := (nI u)) G rfl (by decide) rfl (hA.lt (show 0 < hw_n0 30 by decide)) hc (show n < 40 from hn) rfl dM_tries_77 ?_
  refine hr_aload_n G dM_tries_78 rfl rfl ?_
  refine hr_get (v := .ref (hw_a B 31 0)) G fM_41 (hA.lt (show 0 < hw_n0 20 by decide)) (hw_rfx ((hF.sv rfl).sv rfl) (by decide) rfl (by decide)) dM_tries_79 ?_
  refine hr_aload_n G dM_tries_82 rfl rfl ?_
  refine hr_get (v := .int (S 20 0 12)) G fM_104 (hA.lt (show 0 < hw_n0 20 by decide)) rfl dM_tries_83 ?_
  refine hr_aload_n G dM_tries_86 rfl rfl ?_
  refine hr_get (v := .int (S 20 0 1)) G fM_97 (hA.lt (show 0 < hw_n0 20 by decide)) rfl dM_tries_87 ?_
  refine hr_iast (n := n) (y := (S 20 0 1)) G rfl (by decide) rfl (hA.lt (show 0 < hw_n0 31 by decide)) hc (show n < 40 from hn) rfl dM_tries_90 ?_
  refine hr_aload_n G dM_tries_91 rfl rfl ?_
  refine hr_get (v := .ref (hw_a B 32 0)) G fM_44 (hA.lt (show 0 < hw_n0 20 by decide)) (hw_rfx (((hF.sv rfl).sv rfl).sv rfl) (by decide) rfl (by decide)) dM_tries_92 ?_
  refine hr_aload_n G dM_tries_95 rfl rfl ?_
  refine hr_get (v := .int (S 20 0 12)) G fM_104 (hA.lt (show 0 < hw_n0 20 by decide)) rfl dM_tries_96 ?_
  refine hr_aload_n G dM_tries_99 rfl rfl ?_
  refine hr_get (v := .int (S 20 0 1)) G fM_97 (hA.lt (show 0 < hw_n0 20 by decide)) rfl dM_tries_100 ?_
  refine hr_iast (n := n) (y := (S 20 0 1)) G rfl (by decide) rfl (hA.lt (show 0 < hw_n0 32 by decide)) hc (show n < 40 from hn) rfl dM_tries_103 ?_
  refine hr_aload_n G dM_tries_104 rfl rfl ?_
  refine hr_get (v := .ref (hw_a B 33 0)) G fM_47 (hA.lt (show 0 < hw_n0 20 by decide)) (hw_rfx ((((hF.sv rfl).sv rfl).sv rfl).sv rfl) (by decide) rfl (by decide)) dM_tries_105 ?_
  refine hr_aload_n G dM_tries_108 rfl rfl ?_
  refine hr_get (v := .int (S 20 0 12)) G fM_104 (hA.lt (show 0 < hw_n0 20 by decide)) rfl dM_tries_109 ?_
  refine hr_iload_n G dM_tries_112 rfl rfl ?_
  refine hr_zast (n := n) (y := r) G rfl (by decide) rfl (hA.lt (show 0 < hw_n0 33 by decide)) hc (show n < 40 from hn) rfl (ib_01 hr1) dM_tries_113 ?_
  refine hr_aload_n G dM_tries_114 rfl rfl ?_
  refine hr_get (v := .ref (hw_a B 34 0)) G fM_50 (hA.lt (show 0 < hw_n0 20 by decide)) (hw_rfx (((((hF.sv rfl).sv rfl).sv rfl).sv rfl).sv rfl) (by decide) rfl (by decide)) dM_tries_115 ?_
  refine hr_aload_n G dM_tries_118 rfl rfl ?_
  refine hr_get (v := .int (S 20 0 12)) G fM_104 (hA.lt (show 0 < hw_n0 20 by decide)) rfl dM_tries_119 ?_
  refine hr_iconst (v := 0) G dM_tries_122 (by decide) ?_
  refine hr_zast (n := n) (y := 0) G rfl (by decide) rfl (hA.lt (show 0 < hw_n0 34 by decide)) hc (show n < 40 from hn) rfl (rfl) dM_tries_123 ?_
  refine hr_aload_n G dM_tries_124 rfl rfl ?_
  refine hr_dup G dM_tries_125 rfl ?_
  refine hr_get (v := .int (S 20 0 12)) G fM_104 (hA.lt (show 0 < hw_n0 20 by decide)) rfl dM_tries_126 ?_
  refine hr_iconst (v := 1) G dM_tries_129 (by decide) ?_
  refine hr_iadd G dM_tries_130 ?_
  refine hr_put (x := ((S 20 0 12) + 1)) G fM_104 (hA.lt (show 0 < hw_n0 20 by decide)) rfl (rfl) rfl dM_tries_131 ?_
  refine hr_aload_n G dM_tries_134 rfl rfl ?_
  refine hr_get (v := .int ((S 20 0 12) + 1)) G fM_104 (hA.lt (show 0 < hw_n0 20 by decide)) rfl dM_tries_135 ?_
  refine hr_iconst (v := 1) G dM_tries_138 (by decide) ?_
  refine hr_isub G dM_tries_139 ?_
  exact hr_iret G hr (fun _ h => h) dM_tries_140 ⟨by rw [hc, nI_p1], rfl, rfl, rfl⟩
