/-! Writing texts. -/
/-- the text t has changed, nothing else -/
def tx_r (t : Nat) (S S' : hw_St) : Prop := (∀ k i j, ¬ (k = 5 ∧ i = t) → ¬ (k = 4 ∧ i = t ∧ j = 1) → S' k i j = S k i j) ∧ tx_ok S' t
theorem tx_r.rf {t : Nat} {S : hw_St} (h : tx_ok S t) : tx_r t S S := ⟨fun _ _ _ _ _ => rfl, h⟩
theorem tx_r.tr {t : Nat} {S S1 S2 : hw_St} (h1 : tx_r t S S1) (h2 : tx_r t S1 S2) : tx_r t S S2 := ⟨fun k i j a b => (h2.1 k i j a b).trans (h1.1 k i j a b), h2.2⟩
theorem tx_r.fx {t : Nat} {S S' : hw_St} (h : tx_r t S S') (hF : hw_Fx S) : hw_Fx S' := fun k i j v hi hv => by
  rw [h.1 k i j (fun e => by rw [e.1] at hv; exact nomatch hv) (fun e => by rw [e.1, e.2.2] at hv; exact nomatch hv)]
  exact hF k i j v hi hv
theorem tx_r.ot {t u : Nat} {S S' : hw_St} (h : tx_r t S S') (hu : u ≠ t) (ho : tx_ok S u) : tx_ok S' u := by
  obtain ⟨⟨n, h1, h2⟩, h3⟩ := ho
  exact ⟨⟨n, h1, by rw [h.1 4 u 1 (by omega) (by omega)]; exact h2⟩, fun j => by rw [h.1 5 u j (by omega) (by omega)]; exact h3 j⟩
theorem tx_r.add {t n : Nat} {S : hw_St} {c : Int32} (hn : S 4 t 1 = nI n) (hle : n ≤ hw_ln 5 t) (hc : ib_c c) (ho : ∀ j, ib_c (S 5 t j)) : tx_r t S (tx_add S t n c) := by
  unfold tx_add
  by_cases h : n < hw_ln 5 t
  · rw [if_pos h]
    refine ⟨fun k i j a b => ?_, ⟨n + 1, h, hw_sv_same⟩, fun j => ?_⟩
    · unfold hw_sv
      rw [if_neg (fun e => b ⟨e.1, e.2.1, e.2.2⟩), if_neg (fun e => a ⟨e.1, e.2.1⟩)]
    · unfold hw_sv
      rw [if_neg (by omega)]
      split
      · exact hc
      · exact ho j
  · rw [if_neg h]
    exact ⟨fun _ _ _ _ _ => rfl, ⟨n, hle, hn⟩, ho⟩
theorem tx_r.len {t : Nat} {S : hw_St} (n : Nat) (hn : n ≤ hw_ln 5 t) (ho : ∀ j, ib_c (S 5 t j)) : tx_r t S (hw_sv S 4 t 1 (nI n)) :=
  ⟨fun k i j a b => by unfold hw_sv; rw [if_neg (fun e => b ⟨e.1, e.2.1, e.2.2⟩)], ⟨n, hn, hw_sv_same⟩, fun j => by unfold hw_sv; rw [if_neg (by omega)]; exact ho j⟩
theorem tx_r.chr {t : Nat} {S : hw_St} {m : Nat} {c : Int32} (hc : ib_c c) (ho : tx_ok S t) : tx_r t S (hw_sv S 5 t m c) :=
  ⟨fun k i j a b => by unfold hw_sv; rw [if_neg (fun e => a ⟨e.1, e.2.1⟩)], by
    obtain ⟨⟨n, h1, h2⟩, h3⟩ := ho
    exact ⟨⟨n, h1, by unfold hw_sv; rw [if_neg (by omega)]; exact h2⟩, fun j => by unfold hw_sv; split; exact hc; exact h3 j⟩⟩
def hw_pt (t : Nat) (nb : Nat → Nat) (S : hw_St) (z : Nat) : hw_T := fun oc nb' S' z' => oc = .inl none ∧ nb' = nb ∧ tx_r t S S' ∧ z' = z
theorem hr_callVt {X : hw_X} {B : hw_B} {fr : Nat → Prop} {nb : Nat → Nat} {S : hw_St} {z c sl t : Nat} {Q : State → Prop} {cc : ByteArray} {nL pc : Nat} {own : String} {L : List (Nat × Value)} {st : List Value} (G : hw_G X B fr cc nL own) {index maxL n : Nat} {y : MethodName} {bytes : ByteArray} {rm : Room} {As st0 : List Value} (hy : y.cls = "TicketHouse$Text") (hi : t < nb 4) (cw : hw_C own index y bytes maxL none n) (w1 : Cond.instanceMethod y ∈ hw_TS) (w2 : Cond.selects y.cls y y ∈ hw_TS) (hM : hw_M X.2.1 y bytes maxL none rm B (.ref (hw_a B 4 t) :: As) nb S z (hw_pt t nb S z)) (hn : As.length = n) (hst : st0 = As.reverse ++ .ref (hw_a B 4 t) :: st) (hW : (st.map fun v => v.category).sum ≤ 8) (hR : rm.frames + 1 ≤ (xR X).frames ∧ 8 + (maxL + 11) + rm.locals ≤ (xR X).locals) (hcs : c + rm.cells ≤ (xR X).cells ∧ sl + rm.slots ≤ (xR X).slots) (d : decode cc pc = .ok (.invokevirtual index, 3))
    (K : ∀ S' : hw_St, tx_r t S S' → hw_V X B fr nb S' z (c + rm.cells) (sl + rm.slots) Q nL (pc + 3) L st) : hw_V X B fr nb S z c sl Q nL pc L st0 :=
  hr_callV (k := 4) (i := t) (ci := 2) (T := FT) (N := 2) G rfl (by rw [hy]; rfl) hi cw w1 w2 hM hn hst hW hR hcs d (fun r nb' S' z' hp => by
    obtain ⟨h1, rfl, h3, rfl⟩ := hp
    have h2 := Sum.inl.inj h1
    subst h2
    exact K S' h3)
theorem m_T_addw (l : Launch) (B : hw_B) (nb : Nat → Nat) (S : hw_St) (z : Nat) (t : Nat) (hA : hw_al nb) (hF : hw_Fx S) (ht : t < 18) (c : Int32) (hc : ib_c c) (ho : tx_ok S t) : hw_M l yT_add cT_add 2 none ({ frames := 0, cells := 0, slots := 0, locals := 0 }) B [.ref (hw_a B 4 t), .int c] nb S z (hw_pt t nb S z) := by
  obtain ⟨⟨n, h1, h2⟩, h3⟩ := ho
  exact (m_T_add l B nb S z t hA hF ht n c h2 h1 hc).mono (fun oc nb' S' z' h => ⟨h.1, h.2.1, by rw [h.2.2.1]; exact tx_r.add h2 h1 hc h3, h.2.2.2⟩)
theorem m_T_clearw (l : Launch) (B : hw_B) (nb : Nat → Nat) (S : hw_St) (z : Nat) (t : Nat) (hA : hw_al nb) (hF : hw_Fx S) (ht : t < 18) (ho : tx_ok S t) : hw_M l yT_clear cT_clear 1 none ({ frames := 0, cells := 0, slots := 0, locals := 0 }) B [.ref (hw_a B 4 t)] nb S z (hw_pt t nb S z) :=
  (m_T_clear l B nb S z t hA hF ht).mono (fun oc nb' S' z' h => ⟨h.1, h.2.1, by rw [h.2.2.1]; exact tx_r.len 0 (Nat.zero_le _) ho.2, h.2.2.2⟩)
set_option maxRecDepth 100000 in
theorem m_T_addAll (l : Launch) (B : hw_B) (nb : Nat → Nat) (S : hw_St) (z : Nat) (t : Nat) (hA : hw_al nb) (hF : hw_Fx S) (ht : t < 18) (ho : tx_ok S t) (si : Nat) (q : String × Nat × String) (hq : hw_strs[si]? = some q) : hw_M l yT_addAll cT_addAll 3 none ({ frames := 4, cells := 0, slots := 0, locals := 85 }) B [.ref (hw_a B 4 t), .ref (hw_a B 60 si)] nb S z (hw_pt t nb S z) := by
  refine hw_M.of (by decide) (Nat.le_of_ble_eq_true rfl) ?_
  intro X fr hl hR G hr hnm
  refine hr_iconst (v := 0) G dT_addAll_0 (by decide) ?_
  refine hr_istore_n (i := 2) G dT_addAll_1 rfl (by decide) ?_
  refine hr_L (L' := [(0, .ref (hw_a B 4 t)), (1, .ref (hw_a B 60 si)), (2, .int (nI 0))]) (hw_s1 rfl (hw_s1 rfl (hw_s1 rfl hw_s0))) ?_
  suffices H : ∀ (m i : Nat) (S1 : hw_St), tx_r t S S1 → hw_sln si - i = m → i ≤ hw_sln si → hw_V X B fr nb S1 z 0 0 (hw_MQ X B fr (hw_pt t nb S z) 0 0) 3 2 [(0, .ref (hw_a B 4 t)), (1, .ref (hw_a B 60 si)), (2, .int (nI i))] [] from H _ 0 S (tx_r.rf ho) rfl (Nat.zero_le _)
  have hlt := hw_sln_lt si
  intro m
  induction m with
  | zero =>
    intro i S1 h1 hm hle
    obtain rfl : i = hw_sln si := by omega
    refine hr_iload_n G dT_addAll_2 rfl rfl ?_
    refine hr_aload_n G dT_addAll_3 rfl rfl ?_
    refine hr_callO G (hw_strK G hq).2.1 xT_19 iJs_length vJs_length (m_Js_length _ _ _ _ _ si q hq) rfl rfl (Nat.le_of_ble_eq_true rfl) ⟨by rw [hR]; decide, by rw [hR]; decide⟩ ⟨by rw [hR]; decide, by rw [hR]; decide⟩ dT_addAll_4 ?_
    refine hr_icmp_ge (tgt := 25) G dT_addAll_7 (by decide) (fun _ => ?_) (fun h => absurd (nI_le (Nat.le_refl _) hlt) h)
    exact hr_vret G hr (fun _ h => h) dT_addAll_25 ⟨rfl, rfl, h1, rfl⟩
  | succ m ih =>
    intro i S1 h1 hm hle
    have hi : i < hw_sln si := by omega
    refine hr_iload_n G dT_addAll_2 rfl rfl ?_
    refine hr_aload_n G dT_addAll_3 rfl rfl ?_
    refine hr_callO G (hw_strK G hq).2.1 xT_19 iJs_length vJs_length (m_Js_length _ _ _ _ _ si q hq) rfl rfl (Nat.le_of_ble_eq_true rfl) ⟨by rw [hR]; decide, by rw [hR]; decide⟩ ⟨by rw [hR]; decide, by rw [hR]; decide⟩ dT_addAll_4 ?_
    refine hr_icmp_ge (tgt := 25) G dT_addAll_7 (by decide) (fun h => absurd h (nI_ge hi hlt)) (fun _ => ?_)
    refine hr_aload_n G dT_addAll_10 rfl rfl ?_
    refine hr_aload_n G dT_addAll_11 rfl rfl ?_
    refine hr_iload_n G dT_addAll_12 rfl rfl ?_
    refine hr_callOc G (hw_strK G hq).2.1 xT_24 iJs_charAt vJs_charAt (m_Js_charAt _ _ _ _ _ si i q hq hi) rfl rfl (Nat.le_of_ble_eq_true rfl) ⟨by rw [hR]; decide, by rw [hR]; decide⟩ ⟨by rw [hR]; decide, by rw [hR]; decide⟩ dT_addAll_13 (fun r hrc => ?_)
    refine hr_callVt (t := t) G rfl (hA.lt ht) kT_28 iT_add vT_add (m_T_addw _ _ _ _ _ t hA (h1.fx hF) ht r hrc h1.2) rfl rfl (Nat.le_of_ble_eq_true rfl) ⟨by rw [hR]; decide, by rw [hR]; decide⟩ ⟨by rw [hR]; decide, by rw [hR]; decide⟩ dT_addAll_16 (fun S2 h2 => ?_)
    refine hr_iinc (v := nI (i + 1)) G dT_addAll_19 rfl (nI_succ i).symm (by decide) ?_
    refine hr_goto (tgt := 2) G dT_addAll_22 (by decide) ?_
    refine hr_L (L' := [(0, .ref (hw_a B 4 t)), (1, .ref (hw_a B 60 si)), (2, .int (nI (i + 1)))]) (hw_s1 rfl (hw_s1 rfl (hw_s1 rfl hw_s0))) ?_
    exact ih (i + 1) S2 (h1.tr h2) (by omega) (by omega)
theorem ib_rev {a b : Nat} (h : b ≤ a + 1) (ha : a < 2 ^ 31) : nI b - 1 ≤ nI a := by
  cases b with
  | zero =>
    have e : nI 0 - 1 = -1 := by decide
    rw [e, Int32.le_iff_toInt_le, nI_toInt ha]
    have e2 : (-1 : Int32).toInt = -1 := by decide
    rw [e2]; omega
  | succ k => rw [nI_pred]; exact nI_le (by omega) ha
set_option maxRecDepth 100000 in
set_option maxHeartbeats 1000000 in
theorem m_T_turnRound (l : Launch) (B : hw_B) (nb : Nat → Nat) (S : hw_St) (z : Nat) (t : Nat) (hA : hw_al nb) (hF : hw_Fx S) (ht : t < 18) (ho : tx_ok S t) (a : Nat) (ha : a ≤ hw_ln 5 t) : hw_M l yT_turnRound cT_turnRound 5 none ({ frames := 0, cells := 0, slots := 0, locals := 0 }) B [.ref (hw_a B 4 t), .int (nI a)] nb S z (hw_pt t nb S z) := by
  refine hw_M.of (by decide) (Nat.le_of_ble_eq_true rfl) ?_
  intro X fr hl hR G hr hnm
  obtain ⟨n, hle, hn⟩ := ho.1
  have hlt := hw_ln_lt 5 t
  refine hr_iload_n G dT_turnRound_0 rfl rfl ?_
  refine hr_istore_n (i := 2) G dT_turnRound_1 rfl (by decide) ?_
  refine hr_aload_n G dT_turnRound_2 rfl rfl ?_
  refine hr_get (v := .int (S 4 t 1)) G fT_15 (hA.lt ht) rfl dT_turnRound_3 ?_
  refine hr_iconst (v := 1) G dT_turnRound_6 (by decide) ?_
  refine hr_isub G dT_turnRound_7 ?_
  refine hr_istore_n (i := 3) G dT_turnRound_8 rfl (by decide) ?_
  rw [hn]
  refine hr_L (L' := [(0, .ref (hw_a B 4 t)), (2, .int (nI a)), (3, .int (nI n - 1))]) (hw_s1 rfl (hw_s1 rfl (hw_s1 rfl (hw_s0)))) ?_
  suffices H : ∀ (m a b : Nat) (S1 : hw_St), tx_r t S S1 → b ≤ hw_ln 5 t → a ≤ hw_ln 5 t → b - a ≤ m → hw_V X B fr nb S1 z 0 0 (hw_MQ X B fr (hw_pt t nb S z) 0 0) 5 9 [(0, .ref (hw_a B 4 t)), (2, .int (nI a)), (3, .int (nI b - 1))] [] from H _ a n S (tx_r.rf ho) hle ha (Nat.le_refl _)
  clear hn hle n
  intro m
  induction m with
  | zero =>
    intro a b S1 h1 hb ha hm
    refine hr_iload_n G dT_turnRound_9 rfl rfl ?_
    refine hr_iload_n G dT_turnRound_10 rfl rfl ?_
    refine hr_icmp_ge (tgt := 51) G dT_turnRound_11 (by decide) (fun _ => ?_) (fun h => absurd (ib_rev (by omega) (by omega)) h)
    exact hr_vret G hr (fun _ h => h) dT_turnRound_51 ⟨rfl, rfl, h1, rfl⟩
  | succ m ih =>
    intro a b S1 h1 hb ha hm
    refine hr_iload_n G dT_turnRound_9 rfl rfl ?_
    refine hr_iload_n G dT_turnRound_10 rfl rfl ?_
    by_cases hab : b ≤ a + 1
    · refine hr_icmp_ge (tgt := 51) G dT_turnRound_11 (by decide) (fun _ => ?_) (fun h => absurd (ib_rev hab (by omega)) h)
      exact hr_vret G hr (fun _ h => h) dT_turnRound_51 ⟨rfl, rfl, h1, rfl⟩
    · obtain ⟨k, rfl⟩ : ∃ k, b = k + 1 := ⟨b - 1, by omega⟩
      rw [nI_pred]
      refine hr_icmp_ge (tgt := 51) G dT_turnRound_11 (by decide) (fun h => absurd h (nI_ge (by omega) (by omega))) (fun _ => ?_)
      have hF1 := h1.fx hF
      have ho1 := h1.2
      refine hr_aload_n G dT_turnRound_14 rfl rfl ?_
      refine hr_get (v := .ref (hw_a B 5 t)) G fT_9 (hA.lt ht) (hw_rfx hF1 ht rfl (by omega)) dT_turnRound_15 ?_
      refine hr_iload_n G dT_turnRound_18 rfl rfl ?_
      refine hr_cald (n := a) (v := .int (S1 5 t a)) G rfl (by decide) rfl (hA.lt ht) rfl (show a < hw_ln 5 t by omega) rfl dT_turnRound_19 ?_
      refine hr_istore (i := 4) G dT_turnRound_20 (by decide) ?_
      refine hr_aload_n G dT_turnRound_22 rfl rfl ?_
      refine hr_get (v := .ref (hw_a B 5 t)) G fT_9 (hA.lt ht) (hw_rfx hF1 ht rfl (by omega)) dT_turnRound_23 ?_
      refine hr_iload_n G dT_turnRound_26 rfl rfl ?_
      refine hr_aload_n G dT_turnRound_27 rfl rfl ?_
      refine hr_get (v := .ref (hw_a B 5 t)) G fT_9 (hA.lt ht) (hw_rfx hF1 ht rfl (by omega)) dT_turnRound_28 ?_
      refine hr_iload_n G dT_turnRound_31 rfl rfl ?_
      refine hr_cald (n := k) (v := .int (S1 5 t k)) G rfl (by decide) rfl (hA.lt ht) rfl (show k < hw_ln 5 t by omega) rfl dT_turnRound_32 ?_
      refine hr_cast (n := a) (y := (S1 5 t k)) G rfl (by decide) rfl (hA.lt ht) rfl (show a < hw_ln 5 t by omega) rfl (ho1.2 _) dT_turnRound_33 ?_
      refine hr_aload_n G dT_turnRound_34 rfl rfl ?_
      refine hr_get (v := .ref (hw_a B 5 t)) G fT_9 (hA.lt ht) (hw_rfx (hF1.sv rfl) ht rfl (by omega)) dT_turnRound_35 ?_
      refine hr_iload_n G dT_turnRound_38 rfl rfl ?_
      refine hr_iload G dT_turnRound_39 rfl ?_
      refine hr_cast (n := k) (y := (S1 5 t a)) G rfl (by decide) rfl (hA.lt ht) rfl (show k < hw_ln 5 t by omega) rfl (ho1.2 _) dT_turnRound_41 ?_
      refine hr_iinc (v := nI (a + 1)) G dT_turnRound_42 rfl (nI_succ a).symm (by decide) ?_
      refine hr_iinc (v := nI k - 1) G dT_turnRound_45 rfl (by rw [Int32.sub_eq_add_neg]; rfl) (by decide) ?_
      refine hr_goto (tgt := 9) G dT_turnRound_48 (by decide) ?_
      refine hr_L (L' := [(0, .ref (hw_a B 4 t)), (2, .int (nI (a + 1))), (3, .int (nI k - 1))]) (hw_s1 rfl (hw_s1 rfl (hw_s1 rfl (hw_s0)))) ?_
      have h2 : tx_r t S1 (hw_sv S1 5 t a (S1 5 t k)) := tx_r.chr (ho1.2 _) ho1
      exact ih (a + 1) k _ (h1.tr (h2.tr (tx_r.chr (ho1.2 _) h2.2))) (by omega) (by omega) (by omega)
set_option maxRecDepth 100000 in
set_option maxHeartbeats 1000000 in
theorem m_T_addNumber (l : Launch) (B : hw_B) (nb : Nat → Nat) (S : hw_St) (z : Nat) (t : Nat) (hA : hw_al nb) (hF : hw_Fx S) (ht : t < 18) (ho : tx_ok S t) (x : Int32) : hw_M l yT_addNumber cT_addNumber 5 none ({ frames := 1, cells := 0, slots := 0, locals := 24 }) B [.ref (hw_a B 4 t), .int x] nb S z (hw_pt t nb S z) := by
  refine hw_M.of (by decide) (Nat.le_of_ble_eq_true rfl) ?_
  intro X fr hl hR G hr hnm
  suffices H : ∀ (m i : Nat) (y : Int32) (a : Nat) (S1 : hw_St), tx_r t S S1 → a ≤ hw_ln 5 t → 10 - i = m → i ≤ 10 → hw_V X B fr nb S1 z 0 0 (hw_MQ X B fr (hw_pt t nb S z) 0 0) 5 29 [(0, .ref (hw_a B 4 t)), (2, .int y), (3, .int (nI a)), (4, .int (nI i))] [] by
    have fin : ∀ (y : Int32) (S1 : hw_St), tx_r t S S1 → hw_V X B fr nb S1 z 0 0 (hw_MQ X B fr (hw_pt t nb S z) 0 0) 5 21 [(0, .ref (hw_a B 4 t)), (2, .int y)] [] := by
      intro y S1 h1
      obtain ⟨n, hle, hn⟩ := h1.2.1
      refine hr_aload_n G dT_addNumber_21 rfl rfl ?_
      refine hr_get (v := .int (S1 4 t 1)) G fT_15 (hA.lt ht) rfl dT_addNumber_22 ?_
      refine hr_istore_n (i := 3) G dT_addNumber_25 rfl (by decide) ?_
      refine hr_iconst (v := 0) G dT_addNumber_26 (by decide) ?_
      refine hr_istore (i := 4) G dT_addNumber_27 (by decide) ?_
      rw [hn]
      refine hr_L (L' := [(0, .ref (hw_a B 4 t)), (2, .int y), (3, .int (nI n)), (4, .int (nI 0))]) (hw_s1 rfl (hw_s1 rfl (hw_s1 rfl (hw_s1 rfl (hw_s0))))) ?_
      exact H _ 0 y n S1 h1 hle rfl (Nat.zero_le _)
    refine hr_iload_n G dT_addNumber_0 rfl rfl ?_
    refine hr_if_ge (tgt := 8) G dT_addNumber_1 (by decide) (fun h1 => ?_) (fun h1 => ?_)
    · skip
      refine hr_iload_n G dT_addNumber_8 rfl rfl ?_
      refine hr_ineg G dT_addNumber_9 ?_
      refine hr_istore_n (i := 2) G dT_addNumber_10 rfl (by decide) ?_
      refine hr_iload_n G dT_addNumber_11 rfl rfl ?_
      refine hr_if_ge (tgt := 21) G dT_addNumber_12 (by decide) (fun _ => ?_) (fun h => absurd h1 h)
      refine hr_L (L' := [(0, .ref (hw_a B 4 t)), (2, .int (-x))]) (hw_s1 rfl (hw_s1 rfl (hw_s0))) ?_
      exact fin (-x) S (tx_r.rf ho)
    · skip
      refine hr_iload_n G dT_addNumber_4 rfl rfl ?_
      refine hr_goto (tgt := 10) G dT_addNumber_5 (by decide) ?_
      refine hr_istore_n (i := 2) G dT_addNumber_10 rfl (by decide) ?_
      refine hr_iload_n G dT_addNumber_11 rfl rfl ?_
      refine hr_if_ge (tgt := 21) G dT_addNumber_12 (by decide) (fun h => absurd h h1) (fun _ => ?_)
      refine hr_aload_n G dT_addNumber_15 rfl rfl ?_
      refine hr_bipush (v := 45) G dT_addNumber_16 (by decide) ?_
      refine hr_callVt (t := t) G rfl (hA.lt ht) kT_28 iT_add vT_add (m_T_addw _ _ _ _ _ t hA hF ht 45 (show ib_c 45 from rfl) ho) rfl rfl (Nat.le_of_ble_eq_true rfl) ⟨by rw [hR]; decide, by rw [hR]; decide⟩ ⟨by rw [hR]; decide, by rw [hR]; decide⟩ dT_addNumber_18 (fun S1 h1 => ?_)
      refine hr_L (L' := [(0, .ref (hw_a B 4 t)), (2, .int x)]) (hw_s1 rfl (hw_s1 rfl (hw_s0))) ?_
      exact fin x S1 h1
  intro m
  induction m with
  | zero =>
    intro i y a S1 h1 ha hm hi
    obtain rfl : i = 10 := by omega
    have hF1 := h1.fx hF
    refine hr_iload G dT_addNumber_29 rfl ?_
    refine hr_bipush (v := 10) G dT_addNumber_31 (by decide) ?_
    refine hr_icmp_ge (tgt := 68) G dT_addNumber_33 (by decide) (fun _ => ?_) (fun h => absurd (show (10 : Int32) ≤ nI 10 by decide) h)
    refine hr_aload_n G dT_addNumber_68 rfl rfl ?_
    refine hr_iload_n G dT_addNumber_69 rfl rfl ?_
    refine hr_callVt (t := t) G rfl (hA.lt ht) kT_32 iT_turnRound vT_turnRound (m_T_turnRound _ _ _ _ _ t hA hF1 ht h1.2 a ha) rfl rfl (Nat.le_of_ble_eq_true rfl) ⟨by rw [hR]; decide, by rw [hR]; decide⟩ ⟨by rw [hR]; decide, by rw [hR]; decide⟩ dT_addNumber_70 (fun S2 h2 => ?_)
    exact hr_vret G hr (fun _ h => h) dT_addNumber_73 ⟨rfl, rfl, h1.tr h2, rfl⟩
  | succ m ih =>
    intro i y a S1 h1 ha hm hi
    have hF1 := h1.fx hF
    refine hr_iload G dT_addNumber_29 rfl ?_
    refine hr_bipush (v := 10) G dT_addNumber_31 (by decide) ?_
    refine hr_icmp_ge (tgt := 68) G dT_addNumber_33 (by decide) (fun h => absurd h (show ¬ (10 : Int32) ≤ nI i from nI_ge (b := 10) (by omega) (by decide))) (fun _ => ?_)
    refine hr_iload G dT_addNumber_36 rfl ?_
    refine hr_if_eq (tgt := 45) G dT_addNumber_38 (by decide) (fun h38 => ?_) (fun h38 => ?_)
    · skip
      refine hr_aload_n G dT_addNumber_45 rfl rfl ?_
      refine hr_bipush (v := 48) G dT_addNumber_46 (by decide) ?_
      refine hr_iload_n G dT_addNumber_48 rfl rfl ?_
      refine hr_bipush (v := 10) G dT_addNumber_49 (by decide) ?_
      refine hr_irem G dT_addNumber_51 (by decide) ?_
      refine hr_isub G dT_addNumber_52 ?_
      refine hr_i2c G dT_addNumber_53 ?_
      refine hr_callVt (t := t) G rfl (hA.lt ht) kT_28 iT_add vT_add (m_T_addw _ _ _ _ _ t hA hF1 ht ((48 - (y - y / 10 * 10)).toUInt32 % 65536).toInt32 (pk_nc _) h1.2) rfl rfl (Nat.le_of_ble_eq_true rfl) ⟨by rw [hR]; decide, by rw [hR]; decide⟩ ⟨by rw [hR]; decide, by rw [hR]; decide⟩ dT_addNumber_54 (fun S2 h2 => ?_)
      refine hr_iload_n G dT_addNumber_57 rfl rfl ?_
      refine hr_bipush (v := 10) G dT_addNumber_58 (by decide) ?_
      refine hr_idiv G dT_addNumber_60 (by decide) ?_
      refine hr_istore_n (i := 2) G dT_addNumber_61 rfl (by decide) ?_
      refine hr_iinc (v := nI (i + 1)) G dT_addNumber_62 rfl (nI_succ i).symm (by decide) ?_
      refine hr_goto (tgt := 29) G dT_addNumber_65 (by decide) ?_
      refine hr_L (L' := [(0, .ref (hw_a B 4 t)), (2, .int (y / 10)), (3, .int (nI a)), (4, .int (nI (i + 1)))]) (hw_s1 rfl (hw_s1 rfl (hw_s1 rfl (hw_s1 rfl (hw_s0))))) ?_
      exact ih (i + 1) (y / 10) a S2 (h1.tr h2) ha (by omega) (by omega)
    · skip
      refine hr_iload_n G dT_addNumber_41 rfl rfl ?_
      refine hr_if_eq (tgt := 68) G dT_addNumber_42 (by decide) (fun h42 => ?_) (fun h42 => ?_)
      · skip
        refine hr_aload_n G dT_addNumber_68 rfl rfl ?_
        refine hr_iload_n G dT_addNumber_69 rfl rfl ?_
        refine hr_callVt (t := t) G rfl (hA.lt ht) kT_32 iT_turnRound vT_turnRound (m_T_turnRound _ _ _ _ _ t hA hF1 ht h1.2 a ha) rfl rfl (Nat.le_of_ble_eq_true rfl) ⟨by rw [hR]; decide, by rw [hR]; decide⟩ ⟨by rw [hR]; decide, by rw [hR]; decide⟩ dT_addNumber_70 (fun S2 h2 => ?_)
        exact hr_vret G hr (fun _ h => h) dT_addNumber_73 ⟨rfl, rfl, h1.tr h2, rfl⟩
      · skip
        refine hr_aload_n G dT_addNumber_45 rfl rfl ?_
        refine hr_bipush (v := 48) G dT_addNumber_46 (by decide) ?_
        refine hr_iload_n G dT_addNumber_48 rfl rfl ?_
        refine hr_bipush (v := 10) G dT_addNumber_49 (by decide) ?_
        refine hr_irem G dT_addNumber_51 (by decide) ?_
        refine hr_isub G dT_addNumber_52 ?_
        refine hr_i2c G dT_addNumber_53 ?_
        refine hr_callVt (t := t) G rfl (hA.lt ht) kT_28 iT_add vT_add (m_T_addw _ _ _ _ _ t hA hF1 ht ((48 - (y - y / 10 * 10)).toUInt32 % 65536).toInt32 (pk_nc _) h1.2) rfl rfl (Nat.le_of_ble_eq_true rfl) ⟨by rw [hR]; decide, by rw [hR]; decide⟩ ⟨by rw [hR]; decide, by rw [hR]; decide⟩ dT_addNumber_54 (fun S2 h2 => ?_)
        refine hr_iload_n G dT_addNumber_57 rfl rfl ?_
        refine hr_bipush (v := 10) G dT_addNumber_58 (by decide) ?_
        refine hr_idiv G dT_addNumber_60 (by decide) ?_
        refine hr_istore_n (i := 2) G dT_addNumber_61 rfl (by decide) ?_
        refine hr_iinc (v := nI (i + 1)) G dT_addNumber_62 rfl (nI_succ i).symm (by decide) ?_
        refine hr_goto (tgt := 29) G dT_addNumber_65 (by decide) ?_
        refine hr_L (L' := [(0, .ref (hw_a B 4 t)), (2, .int (y / 10)), (3, .int (nI a)), (4, .int (nI (i + 1)))]) (hw_s1 rfl (hw_s1 rfl (hw_s1 rfl (hw_s1 rfl (hw_s0))))) ?_
        exact ih (i + 1) (y / 10) a S2 (h1.tr h2) ha (by omega) (by omega)
theorem hr_ldcS {X : hw_X} {B : hw_B} {fr : Nat → Prop} {nb : Nat → Nat} {S : hw_St} {z c sl : Nat} {Q : State → Prop} {cc : ByteArray} {nL pc : Nat} {own : String} {L : List (Nat × Value)} {st : List Value} (G : hw_G X B fr cc nL own) {index si : Nat} {tx : String} (hq : hw_strs[si]? = some (own, index, tx)) (d : decode cc pc = .ok (.ldc index, 2)) (K : hw_V X B fr nb S z c sl Q nL (pc + 2) L (.ref (hw_a B 60 si) :: st)) : hw_V X B fr nb S z c sl Q nL pc L st :=
  fun ls H locs hl hP hz hf => va_ldcS G.1 G.2.1 G.2.2.2.1 (hw_strK G hq).1 d (K ls H locs hl hP hz hf)
set_option maxRecDepth 100000 in
set_option maxHeartbeats 1000000 in
theorem m_T_addElement (l : Launch) (B : hw_B) (nb : Nat → Nat) (S : hw_St) (z : Nat) (t : Nat) (hA : hw_al nb) (hF : hw_Fx S) (ht : t < 18) (ho : tx_ok S t) (c x : Int32) (hc : ib_c c) : hw_M l yT_addElement cT_addElement 3 none ({ frames := 5, cells := 0, slots := 0, locals := 107 }) B [.ref (hw_a B 4 t), .int c, .int x] nb S z (hw_pt t nb S z) := by
  refine hw_M.of (by decide) (Nat.le_of_ble_eq_true rfl) ?_
  intro X fr hl hR G hr hnm
  refine hr_aload_n G dT_addElement_0 rfl rfl ?_
  refine hr_bipush (v := 60) G dT_addElement_1 (by decide) ?_
  refine hr_callVt (t := t) G rfl (hA.lt ht) kT_28 iT_add vT_add (m_T_addw _ _ _ _ _ t hA hF ht 60 (show ib_c 60 from rfl) ho) rfl rfl (Nat.le_of_ble_eq_true rfl) ⟨by rw [hR]; decide, by rw [hR]; decide⟩ ⟨by rw [hR]; decide, by rw [hR]; decide⟩ dT_addElement_3 (fun S3 q3 => ?_)
  have hF3 := q3.fx hF
  refine hr_aload_n G dT_addElement_6 rfl rfl ?_
  refine hr_iload_n G dT_addElement_7 rfl rfl ?_
  refine hr_callVt (t := t) G rfl (hA.lt ht) kT_28 iT_add vT_add (m_T_addw _ _ _ _ _ t hA hF3 ht c hc q3.2) rfl rfl (Nat.le_of_ble_eq_true rfl) ⟨by rw [hR]; decide, by rw [hR]; decide⟩ ⟨by rw [hR]; decide, by rw [hR]; decide⟩ dT_addElement_8 (fun S8 q8 => ?_)
  have hF8 := q8.fx hF3
  refine hr_aload_n G dT_addElement_11 rfl rfl ?_
  refine hr_bipush (v := 62) G dT_addElement_12 (by decide) ?_
  refine hr_callVt (t := t) G rfl (hA.lt ht) kT_28 iT_add vT_add (m_T_addw _ _ _ _ _ t hA hF8 ht 62 (show ib_c 62 from rfl) q8.2) rfl rfl (Nat.le_of_ble_eq_true rfl) ⟨by rw [hR]; decide, by rw [hR]; decide⟩ ⟨by rw [hR]; decide, by rw [hR]; decide⟩ dT_addElement_14 (fun S14 q14 => ?_)
  have hF14 := q14.fx hF8
  refine hr_aload_n G dT_addElement_17 rfl rfl ?_
  refine hr_iload_n G dT_addElement_18 rfl rfl ?_
  refine hr_callVt (t := t) G rfl (hA.lt ht) kT_36 iT_addNumber vT_addNumber (m_T_addNumber _ _ _ _ _ t hA hF14 ht q14.2 x) rfl rfl (Nat.le_of_ble_eq_true rfl) ⟨by rw [hR]; decide, by rw [hR]; decide⟩ ⟨by rw [hR]; decide, by rw [hR]; decide⟩ dT_addElement_19 (fun S19 q19 => ?_)
  have hF19 := q19.fx hF14
  refine hr_aload_n G dT_addElement_22 rfl rfl ?_
  refine hr_ldcS (si := 24) G rfl dT_addElement_23 ?_
  refine hr_callVt (t := t) G rfl (hA.lt ht) kT_41 iT_addAll vT_addAll (m_T_addAll _ _ _ _ _ t hA hF19 ht q19.2 24 _ rfl) rfl rfl (Nat.le_of_ble_eq_true rfl) ⟨by rw [hR]; decide, by rw [hR]; decide⟩ ⟨by rw [hR]; decide, by rw [hR]; decide⟩ dT_addElement_25 (fun S25 q25 => ?_)
  have hF25 := q25.fx hF19
  refine hr_aload_n G dT_addElement_28 rfl rfl ?_
  refine hr_iload_n G dT_addElement_29 rfl rfl ?_
  refine hr_callVt (t := t) G rfl (hA.lt ht) kT_28 iT_add vT_add (m_T_addw _ _ _ _ _ t hA hF25 ht c hc q25.2) rfl rfl (Nat.le_of_ble_eq_true rfl) ⟨by rw [hR]; decide, by rw [hR]; decide⟩ ⟨by rw [hR]; decide, by rw [hR]; decide⟩ dT_addElement_30 (fun S30 q30 => ?_)
  have hF30 := q30.fx hF25
  refine hr_aload_n G dT_addElement_33 rfl rfl ?_
  refine hr_bipush (v := 62) G dT_addElement_34 (by decide) ?_
  refine hr_callVt (t := t) G rfl (hA.lt ht) kT_28 iT_add vT_add (m_T_addw _ _ _ _ _ t hA hF30 ht 62 (show ib_c 62 from rfl) q30.2) rfl rfl (Nat.le_of_ble_eq_true rfl) ⟨by rw [hR]; decide, by rw [hR]; decide⟩ ⟨by rw [hR]; decide, by rw [hR]; decide⟩ dT_addElement_36 (fun S36 q36 => ?_)
  have hF36 := q36.fx hF30
  exact hr_vret G hr (fun _ h => h) dT_addElement_39 ⟨rfl, rfl, ((((((q3.tr q8).tr q14).tr q19).tr q25).tr q30).tr q36), rfl⟩
set_option maxRecDepth 100000 in
set_option maxHeartbeats 1000000 in
theorem m_T_addEscapedC (l : Launch) (B : hw_B) (nb : Nat → Nat) (S : hw_St) (z : Nat) (t : Nat) (hA : hw_al nb) (hF : hw_Fx S) (ht : t < 18) (ho : tx_ok S t) (c : Int32) (hc : ib_c c) : hw_M l yT_addEscapedC cT_addEscapedC 2 none ({ frames := 5, cells := 0, slots := 0, locals := 107 }) B [.ref (hw_a B 4 t), .int c] nb S z (hw_pt t nb S z) := by
  refine hw_M.of (by decide) (Nat.le_of_ble_eq_true rfl) ?_
  intro X fr hl hR G hr hnm
  refine hr_iload_n G dT_addEscapedC_0 rfl rfl ?_
  by_cases e0 : c = 34
  · subst e0
    refine hr_lookup (off := 70) (tgt := 71) G dT_addEscapedC_1 (by decide) (by decide) (by decide) ?_
    refine hr_aload_n G dT_addEscapedC_71 rfl rfl ?_
    refine hr_ldcS (si := 21) G rfl dT_addEscapedC_72 ?_
    refine hr_callVt (t := t) G rfl (hA.lt ht) kT_41 iT_addAll vT_addAll (m_T_addAll _ _ _ _ _ t hA hF ht ho 21 _ rfl) rfl rfl (Nat.le_of_ble_eq_true rfl) ⟨by rw [hR]; decide, by rw [hR]; decide⟩ ⟨by rw [hR]; decide, by rw [hR]; decide⟩ dT_addEscapedC_74 (fun S74 q74 => ?_)
    have hF74 := q74.fx hF
    refine hr_goto (tgt := 85) G dT_addEscapedC_77 (by decide) ?_
    exact hr_vret G hr (fun _ h => h) dT_addEscapedC_85 ⟨rfl, rfl, q74, rfl⟩
  by_cases e1 : c = 38
  · subst e1
    refine hr_lookup (off := 43) (tgt := 44) G dT_addEscapedC_1 (by decide) (by decide) (by decide) ?_
    refine hr_aload_n G dT_addEscapedC_44 rfl rfl ?_
    refine hr_ldcS (si := 18) G rfl dT_addEscapedC_45 ?_
    refine hr_callVt (t := t) G rfl (hA.lt ht) kT_41 iT_addAll vT_addAll (m_T_addAll _ _ _ _ _ t hA hF ht ho 18 _ rfl) rfl rfl (Nat.le_of_ble_eq_true rfl) ⟨by rw [hR]; decide, by rw [hR]; decide⟩ ⟨by rw [hR]; decide, by rw [hR]; decide⟩ dT_addEscapedC_47 (fun S47 q47 => ?_)
    have hF47 := q47.fx hF
    refine hr_goto (tgt := 85) G dT_addEscapedC_50 (by decide) ?_
    exact hr_vret G hr (fun _ h => h) dT_addEscapedC_85 ⟨rfl, rfl, q47, rfl⟩
  by_cases e2 : c = 60
  · subst e2
    refine hr_lookup (off := 52) (tgt := 53) G dT_addEscapedC_1 (by decide) (by decide) (by decide) ?_
    refine hr_aload_n G dT_addEscapedC_53 rfl rfl ?_
    refine hr_ldcS (si := 19) G rfl dT_addEscapedC_54 ?_
    refine hr_callVt (t := t) G rfl (hA.lt ht) kT_41 iT_addAll vT_addAll (m_T_addAll _ _ _ _ _ t hA hF ht ho 19 _ rfl) rfl rfl (Nat.le_of_ble_eq_true rfl) ⟨by rw [hR]; decide, by rw [hR]; decide⟩ ⟨by rw [hR]; decide, by rw [hR]; decide⟩ dT_addEscapedC_56 (fun S56 q56 => ?_)
    have hF56 := q56.fx hF
    refine hr_goto (tgt := 85) G dT_addEscapedC_59 (by decide) ?_
    exact hr_vret G hr (fun _ h => h) dT_addEscapedC_85 ⟨rfl, rfl, q56, rfl⟩
  by_cases e3 : c = 62
  · subst e3
    refine hr_lookup (off := 61) (tgt := 62) G dT_addEscapedC_1 (by decide) (by decide) (by decide) ?_
    refine hr_aload_n G dT_addEscapedC_62 rfl rfl ?_
    refine hr_ldcS (si := 20) G rfl dT_addEscapedC_63 ?_
    refine hr_callVt (t := t) G rfl (hA.lt ht) kT_41 iT_addAll vT_addAll (m_T_addAll _ _ _ _ _ t hA hF ht ho 20 _ rfl) rfl rfl (Nat.le_of_ble_eq_true rfl) ⟨by rw [hR]; decide, by rw [hR]; decide⟩ ⟨by rw [hR]; decide, by rw [hR]; decide⟩ dT_addEscapedC_65 (fun S65 q65 => ?_)
    have hF65 := q65.fx hF
    refine hr_goto (tgt := 85) G dT_addEscapedC_68 (by decide) ?_
    exact hr_vret G hr (fun _ h => h) dT_addEscapedC_85 ⟨rfl, rfl, q65, rfl⟩
  refine hr_lookup (off := 79) (tgt := 80) G dT_addEscapedC_1 (by decide) (by show Op.lookupswitch.offset [(34, 70), (38, 43), (60, 52), (62, 61)] 79 _ = _; rw [lv_osw e0 (by decide), lv_osw e1 (by decide), lv_osw e2 (by decide), lv_osw e3 (by decide)]; rfl) (by decide) ?_
  refine hr_aload_n G dT_addEscapedC_80 rfl rfl ?_
  refine hr_iload_n G dT_addEscapedC_81 rfl rfl ?_
  refine hr_callVt (t := t) G rfl (hA.lt ht) kT_28 iT_add vT_add (m_T_addw _ _ _ _ _ t hA hF ht c hc ho) rfl rfl (Nat.le_of_ble_eq_true rfl) ⟨by rw [hR]; decide, by rw [hR]; decide⟩ ⟨by rw [hR]; decide, by rw [hR]; decide⟩ dT_addEscapedC_82 (fun S82 q82 => ?_)
  have hF82 := q82.fx hF
  exact hr_vret G hr (fun _ h => h) dT_addEscapedC_85 ⟨rfl, rfl, q82, rfl⟩
set_option maxRecDepth 100000 in
set_option maxHeartbeats 1000000 in
theorem m_T_addEscapedT (l : Launch) (B : hw_B) (nb : Nat → Nat) (S : hw_St) (z : Nat) (t : Nat) (hA : hw_al nb) (hF : hw_Fx S) (ht : t < 18) (ho : tx_ok S t) (u n : Nat) (hu : u < 18) (hut : u ≠ t) (hn : S 4 u 1 = nI n) (hnl : n ≤ hw_ln 5 u) (hch : ∀ j, ib_c (S 5 u j)) : hw_M l yT_addEscapedT cT_addEscapedT 3 none ({ frames := 6, cells := 0, slots := 0, locals := 128 }) B [.ref (hw_a B 4 t), .ref (hw_a B 4 u)] nb S z (hw_pt t nb S z) := by
  refine hw_M.of (by decide) (Nat.le_of_ble_eq_true rfl) ?_
  intro X fr hl hR G hr hnm
  have hlt := hw_ln_lt 5 u
  refine hr_iconst (v := 0) G dT_addEscapedT_0 (by decide) ?_
  refine hr_istore_n (i := 2) G dT_addEscapedT_1 rfl (by decide) ?_
  refine hr_L (L' := [(0, .ref (hw_a B 4 t)), (1, .ref (hw_a B 4 u)), (2, .int (nI 0))]) (hw_s1 rfl (hw_s1 rfl (hw_s1 rfl (hw_s0)))) ?_
  suffices H : ∀ (m i : Nat) (S1 : hw_St), tx_r t S S1 → n - i = m → i ≤ n → hw_V X B fr nb S1 z 0 0 (hw_MQ X B fr (hw_pt t nb S z) 0 0) 3 2 [(0, .ref (hw_a B 4 t)), (1, .ref (hw_a B 4 u)), (2, .int (nI i))] [] from H _ 0 S (tx_r.rf ho) rfl (Nat.zero_le _)
  intro m
  induction m with
  | zero =>
    intro i S1 h1 hm hle
    obtain rfl : i = n := by omega
    have hF1 := h1.fx hF
    have e1 : S1 4 u 1 = nI i := by rw [h1.1 4 u 1 (by omega) (by omega)]; exact hn
    refine hr_iload_n G dT_addEscapedT_2 rfl rfl ?_
    refine hr_aload_n G dT_addEscapedT_3 rfl rfl ?_
    refine hr_get (v := .int (S1 4 u 1)) G fT_15 (hA.lt hu) rfl dT_addEscapedT_4 ?_
    refine hr_icmp_ge (tgt := 26) G dT_addEscapedT_7 (by decide) (fun _ => ?_) (fun h => absurd (show S1 4 u 1 ≤ nI i by rw [e1]; exact nI_le (Nat.le_refl _) (by omega)) h)
    exact hr_vret G hr (fun _ h => h) dT_addEscapedT_26 ⟨rfl, rfl, h1, rfl⟩
  | succ m ih =>
    intro i S1 h1 hm hle
    have hF1 := h1.fx hF
    have e1 : S1 4 u 1 = nI n := by rw [h1.1 4 u 1 (by omega) (by omega)]; exact hn
    have e2 : ib_c (S1 5 u i) := by rw [h1.1 5 u i (by omega) (by omega)]; exact hch i
    refine hr_iload_n G dT_addEscapedT_2 rfl rfl ?_
    refine hr_aload_n G dT_addEscapedT_3 rfl rfl ?_
    refine hr_get (v := .int (S1 4 u 1)) G fT_15 (hA.lt hu) rfl dT_addEscapedT_4 ?_
    refine hr_icmp_ge (tgt := 26) G dT_addEscapedT_7 (by decide) (fun h => absurd h (show ¬ S1 4 u 1 ≤ nI i by rw [e1]; exact nI_ge (by omega) (by omega))) (fun _ => ?_)
    refine hr_aload_n G dT_addEscapedT_10 rfl rfl ?_
    refine hr_aload_n G dT_addEscapedT_11 rfl rfl ?_
    refine hr_get (v := .ref (hw_a B 5 u)) G fT_9 (hA.lt hu) (hw_rfx hF1 hu rfl (by omega)) dT_addEscapedT_12 ?_
    refine hr_iload_n G dT_addEscapedT_15 rfl rfl ?_
    refine hr_cald (n := i) (v := .int (S1 5 u i)) G rfl (by decide) rfl (hA.lt hu) rfl (show i < hw_ln 5 u by omega) rfl dT_addEscapedT_16 ?_
    refine hr_callVt (t := t) G rfl (hA.lt ht) kT_45 iT_addEscapedC vT_addEscapedC (m_T_addEscapedC _ _ _ _ _ t hA hF1 ht h1.2 (S1 5 u i) e2) rfl rfl (Nat.le_of_ble_eq_true rfl) ⟨by rw [hR]; decide, by rw [hR]; decide⟩ ⟨by rw [hR]; decide, by rw [hR]; decide⟩ dT_addEscapedT_17 (fun S2 h2 => ?_)
    refine hr_iinc (v := nI (i + 1)) G dT_addEscapedT_20 rfl (nI_succ i).symm (by decide) ?_
    refine hr_goto (tgt := 2) G dT_addEscapedT_23 (by decide) ?_
    refine hr_L (L' := [(0, .ref (hw_a B 4 t)), (1, .ref (hw_a B 4 u)), (2, .int (nI (i + 1)))]) (hw_s1 rfl (hw_s1 rfl (hw_s1 rfl (hw_s0)))) ?_
    exact ih (i + 1) S2 (h1.tr h2) (by omega) (by omega)
def hw_pb (t n : Nat) (nb : Nat → Nat) (S : hw_St) (z : Nat) : hw_T := fun oc nb' S' z' => oc = .inl none ∧ nb' = nb ∧ (tx_r t S S' ∧ S' 4 t 1 = nI n) ∧ z' = z
theorem tx_add_len {S : hw_St} {t n : Nat} {c : Int32} (h : n < hw_ln 5 t) : tx_add S t n c 4 t 1 = nI (n + 1) := by
  unfold tx_add; rw [if_pos h]; exact hw_sv_same
set_option maxRecDepth 100000 in
set_option maxHeartbeats 1000000 in
theorem m_T_become (l : Launch) (B : hw_B) (nb : Nat → Nat) (S : hw_St) (z : Nat) (t : Nat) (hA : hw_al nb) (hF : hw_Fx S) (ht : t < 18) (ho : tx_ok S t) (u n : Nat) (hu : u < 18) (hut : u ≠ t) (hn : S 4 u 1 = nI n) (hnl : n ≤ hw_ln 5 u) (hch : ∀ j, ib_c (S 5 u j)) (hnt : n ≤ hw_ln 5 t) : hw_M l yT_become cT_become 3 none ({ frames := 1, cells := 0, slots := 0, locals := 21 }) B [.ref (hw_a B 4 t), .ref (hw_a B 4 u)] nb S z (hw_pb t n nb S z) := by
  refine hw_M.of (by decide) (Nat.le_of_ble_eq_true rfl) ?_
  intro X fr hl hR G hr hnm
  have hlt := hw_ln_lt 5 u
  have hltt := hw_ln_lt 5 t
  refine hr_aload_n G dT_become_0 rfl rfl ?_
  refine hr_callVn (k := 4) (i := t) G rfl rfl (hA.lt ht) kT_56 iT_clear vT_clear (m_T_clear _ _ _ _ _ t hA hF ht) rfl rfl (Nat.le_of_ble_eq_true rfl) ⟨by rw [hR]; decide, by rw [hR]; decide⟩ ⟨by rw [hR]; decide, by rw [hR]; decide⟩ dT_become_1 ?_
  refine hr_iconst (v := 0) G dT_become_4 (by decide) ?_
  refine hr_istore_n (i := 2) G dT_become_5 rfl (by decide) ?_
  refine hr_L (L' := [(0, .ref (hw_a B 4 t)), (1, .ref (hw_a B 4 u)), (2, .int (nI 0))]) (hw_s1 rfl (hw_s1 rfl (hw_s1 rfl (hw_s0)))) ?_
  suffices H : ∀ (m i : Nat) (S1 : hw_St), tx_r t S S1 → S1 4 t 1 = nI i → n - i = m → i ≤ n → hw_V X B fr nb S1 z 0 0 (hw_MQ X B fr (hw_pb t n nb S z) 0 0) 3 6 [(0, .ref (hw_a B 4 t)), (1, .ref (hw_a B 4 u)), (2, .int (nI i))] [] from H _ 0 _ (tx_r.len 0 (Nat.zero_le _) ho.2) hw_sv_same rfl (Nat.zero_le _)
  intro m
  induction m with
  | zero =>
    intro i S1 h1 h0 hm hle
    obtain rfl : i = n := by omega
    have hF1 := h1.fx hF
    have e1 : S1 4 u 1 = nI i := by rw [h1.1 4 u 1 (by omega) (by omega)]; exact hn
    refine hr_iload_n G dT_become_6 rfl rfl ?_
    refine hr_aload_n G dT_become_7 rfl rfl ?_
    refine hr_get (v := .int (S1 4 u 1)) G fT_15 (hA.lt hu) rfl dT_become_8 ?_
    refine hr_icmp_ge (tgt := 30) G dT_become_11 (by decide) (fun _ => ?_) (fun h => absurd (show S1 4 u 1 ≤ nI i by rw [e1]; exact nI_le (Nat.le_refl _) (by omega)) h)
    exact hr_vret G hr (fun _ h => h) dT_become_30 ⟨rfl, rfl, ⟨h1, h0⟩, rfl⟩
  | succ m ih =>
    intro i S1 h1 h0 hm hle
    have hF1 := h1.fx hF
    have e1 : S1 4 u 1 = nI n := by rw [h1.1 4 u 1 (by omega) (by omega)]; exact hn
    have e2 : ib_c (S1 5 u i) := by rw [h1.1 5 u i (by omega) (by omega)]; exact hch i
    refine hr_iload_n G dT_become_6 rfl rfl ?_
    refine hr_aload_n G dT_become_7 rfl rfl ?_
    refine hr_get (v := .int (S1 4 u 1)) G fT_15 (hA.lt hu) rfl dT_become_8 ?_
    refine hr_icmp_ge (tgt := 30) G dT_become_11 (by decide) (fun h => absurd h (show ¬ S1 4 u 1 ≤ nI i by rw [e1]; exact nI_ge (by omega) (by omega))) (fun _ => ?_)
    refine hr_aload_n G dT_become_14 rfl rfl ?_
    refine hr_aload_n G dT_become_15 rfl rfl ?_
    refine hr_get (v := .ref (hw_a B 5 u)) G fT_9 (hA.lt hu) (hw_rfx hF1 hu rfl (by omega)) dT_become_16 ?_
    refine hr_iload_n G dT_become_19 rfl rfl ?_
    refine hr_cald (n := i) (v := .int (S1 5 u i)) G rfl (by decide) rfl (hA.lt hu) rfl (show i < hw_ln 5 u by omega) rfl dT_become_20 ?_
    refine hr_callVn (k := 4) (i := t) G rfl rfl (hA.lt ht) kT_28 iT_add vT_add (m_T_add _ _ _ _ _ t hA hF1 ht i (S1 5 u i) h0 (by omega) e2) rfl rfl (Nat.le_of_ble_eq_true rfl) ⟨by rw [hR]; decide, by rw [hR]; decide⟩ ⟨by rw [hR]; decide, by rw [hR]; decide⟩ dT_become_21 ?_
    refine hr_iinc (v := nI (i + 1)) G dT_become_24 rfl (nI_succ i).symm (by decide) ?_
    refine hr_goto (tgt := 6) G dT_become_27 (by decide) ?_
    refine hr_L (L' := [(0, .ref (hw_a B 4 t)), (1, .ref (hw_a B 4 u)), (2, .int (nI (i + 1)))]) (hw_s1 rfl (hw_s1 rfl (hw_s1 rfl (hw_s0)))) ?_
    exact ih (i + 1) _ (h1.tr (tx_r.add h0 (by omega) e2 h1.2.2)) (tx_add_len (by omega)) (by omega) (by omega)
