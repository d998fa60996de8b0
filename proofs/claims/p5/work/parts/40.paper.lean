/-! The reference writes. -/
theorem c2M : Cond.constantLong "TicketHouseModel" 129 10 ∈ hw_TS := hw_in 769 (by decide +kernel) rfl
theorem hr_ldc2 {X : hw_X} {B : hw_B} {fr : Nat → Prop} {nb : Nat → Nat} {S : hw_St} {z c sl : Nat} {Q : State → Prop} {cc : ByteArray} {nL pc : Nat} {own : String} {L : List (Nat × Value)} {st : List Value} (G : hw_G X B fr cc nL own) {index : Nat} {v : Int64} (hw : Cond.constantLong own index v ∈ hw_TS) (d : decode cc pc = .ok (.ldc2_w index, 3)) (K : hw_V X B fr nb S z c sl Q nL (pc + 3) L (.long v :: st)) : hw_V X B fr nb S z c sl Q nL pc L st :=
  fun ls H locs hl hP hz hf => lv_ldc2 G.1 G.2.1 G.2.2.2.1 (va_any rfl (G.2.2.2.2.1.2.2.1 _ hw)) d (K ls H locs hl hP hz hf)
/-- the paper has changed, nothing else; at most b is written -/
def pg_r (b : Nat) (S S' : hw_St) : Prop := (∀ k i j, ¬ k = 43 → ¬ k = 44 → ¬ (k = 20 ∧ j = 29) → S' k i j = S k i j) ∧ ∃ a, a ≤ b ∧ S' 20 0 29 = nI a
theorem pg_r.tr {b c : Nat} {S S1 S2 : hw_St} (h1 : pg_r b S S1) (h2 : pg_r c S1 S2) : pg_r c S S2 := ⟨fun k i j x y w => (h2.1 k i j x y w).trans (h1.1 k i j x y w), h2.2⟩
theorem pg_r.up {b c : Nat} {S S1 : hw_St} (h1 : pg_r b S S1) (h : b ≤ c) : pg_r c S S1 := ⟨h1.1, h1.2.imp fun a q => ⟨by omega, q.2⟩⟩
theorem pg_r.rf {b : Nat} {S : hw_St} (h : ∃ a, a ≤ b ∧ S 20 0 29 = nI a) : pg_r b S S := ⟨fun _ _ _ _ _ _ => rfl, h⟩
theorem pg_r.fx {b : Nat} {S S' : hw_St} (h : pg_r b S S') (hF : hw_Fx S) : hw_Fx S' := fun k i j v hi hv => by
  rw [h.1 k i j (fun e => by rw [e] at hv; exact nomatch hv) (fun e => by rw [e] at hv; exact nomatch hv) (fun e => by rw [e.1, e.2] at hv; exact nomatch hv)]
  exact hF k i j v hi hv
def hw_pw (b : Nat) (nb : Nat → Nat) (S : hw_St) (z : Nat) : hw_T := fun oc nb' S' z' => oc = .inl none ∧ nb' = nb ∧ pg_r b S S' ∧ z' = z
theorem hr_callP {X : hw_X} {B : hw_B} {fr : Nat → Prop} {nb : Nat → Nat} {S : hw_St} {z c sl b : Nat} {Q : State → Prop} {cc : ByteArray} {nL pc : Nat} {own : String} {L : List (Nat × Value)} {st : List Value} (G : hw_G X B fr cc nL own) {index maxL n : Nat} {y : MethodName} {bytes : ByteArray} {rm : Room} {As st0 : List Value} (hy : y.cls = "TicketHouseModel") (hi : 0 < nb 20) (cw : hw_C own index y bytes maxL none n) (w1 : Cond.instanceMethod y ∈ hw_TS) (w2 : Cond.selects y.cls y y ∈ hw_TS) (hM : hw_M X.2.1 y bytes maxL none rm B (.ref (hw_a B 20 0) :: As) nb S z (hw_pw b nb S z)) (hn : As.length = n) (hst : st0 = As.reverse ++ .ref (hw_a B 20 0) :: st) (hW : (st.map fun v => v.category).sum ≤ 8) (hR : rm.frames + 1 ≤ (xR X).frames ∧ 8 + (maxL + 11) + rm.locals ≤ (xR X).locals) (hcs : c + rm.cells ≤ (xR X).cells ∧ sl + rm.slots ≤ (xR X).slots) (d : decode cc pc = .ok (.invokevirtual index, 3))
    (K : ∀ S' : hw_St, pg_r b S S' → hw_V X B fr nb S' z (c + rm.cells) (sl + rm.slots) Q nL (pc + 3) L st) : hw_V X B fr nb S z c sl Q nL pc L st0 :=
  hr_callV (k := 20) (i := 0) (ci := 5) (T := FM) (N := 31) G rfl (by rw [hy]; rfl) hi cw w1 w2 hM hn hst hW hR hcs d (fun r nb' S' z' hp => by
    obtain ⟨h1, rfl, h3, rfl⟩ := hp
    have h2 := Sum.inl.inj h1
    subst h2
    exact K S' h3)
set_option maxRecDepth 100000 in
set_option maxHeartbeats 1000000 in
theorem m_M_put (l : Launch) (B : hw_B) (nb : Nat → Nat) (S : hw_St) (z : Nat) (hA : hw_al nb) (hF : hw_Fx S) (b : Nat) (hb : ∃ a, a ≤ b ∧ S 20 0 29 = nI a) (hle : b + 1 ≤ 1400) (x : Int32) : hw_M l yM_put cM_put 2 none ({ frames := 0, cells := 0, slots := 0, locals := 0 }) B [.ref (hw_a B 20 0), .int x] nb S z (hw_pw (b + 1) nb S z) := by
  refine hw_M.of (by decide) (Nat.le_of_ble_eq_true rfl) ?_
  intro X fr hl hR G hr hnm
  obtain ⟨a, ha1, ha2⟩ := hb
  refine hr_aload_n G dM_put_0 rfl rfl ?_
  refine hr_get (v := .ref (hw_a B 43 0)) G fM_77 (hA.lt (show 0 < hw_n0 20 by decide)) (hw_rfx hF (by decide) rfl (by decide)) dM_put_1 ?_
  refine hr_aload_n G dM_put_4 rfl rfl ?_
  refine hr_get (v := .int (S 20 0 29)) G fM_80 (hA.lt (show 0 < hw_n0 20 by decide)) rfl dM_put_5 ?_
  refine hr_iload_n G dM_put_8 rfl rfl ?_
  refine hr_iast (n := a) (y := x) G rfl (by decide) rfl (hA.lt (show 0 < hw_n0 43 by decide)) ha2 (show a < 1400 by omega) rfl dM_put_9 ?_
  refine hr_aload_n G dM_put_10 rfl rfl ?_
  refine hr_dup G dM_put_11 rfl ?_
  refine hr_get (v := .int (S 20 0 29)) G fM_80 (hA.lt (show 0 < hw_n0 20 by decide)) rfl dM_put_12 ?_
  refine hr_iconst (v := 1) G dM_put_15 (by decide) ?_
  refine hr_iadd G dM_put_16 ?_
  refine hr_put (x := ((S 20 0 29) + 1)) G fM_80 (hA.lt (show 0 < hw_n0 20 by decide)) rfl (rfl) rfl dM_put_17 ?_
  exact hr_vret G hr (fun _ h => h) dM_put_20 ⟨rfl, rfl, ⟨fun k i j h1 h2 h3 => by unfold hw_sv; rw [if_neg (fun e => h3 ⟨e.1, e.2.2⟩), if_neg (fun e => h1 e.1)], a + 1, by omega, by rw [hw_sv_same, ha2, nI_succ]⟩, rfl⟩
set_option maxRecDepth 100000 in
set_option maxHeartbeats 1000000 in
theorem m_M_tag (l : Launch) (B : hw_B) (nb : Nat → Nat) (S : hw_St) (z : Nat) (hA : hw_al nb) (hF : hw_Fx S) (b : Nat) (hb : ∃ a, a ≤ b ∧ S 20 0 29 = nI a) (hle : b + 5 ≤ 1400) (x y e : Int32) : hw_M l yM_tag cM_tag 4 none ({ frames := 1, cells := 0, slots := 0, locals := 21 }) B [.ref (hw_a B 20 0), .int x, .int y, .int e] nb S z (hw_pw (b + 5) nb S z) := by
  refine hw_M.of (by decide) (Nat.le_of_ble_eq_true rfl) ?_
  intro X fr hl hR G hr hnm
  refine hr_aload_n G dM_tag_0 rfl rfl ?_
  refine hr_bipush (v := 60) G dM_tag_1 (by decide) ?_
  refine hr_callP (b := b + 1) G rfl (hA.lt (show 0 < hw_n0 20 by decide)) kM_125 iM_put vM_put (m_M_put _ _ _ _ _ hA hF (b + 0) hb (by omega) 60) rfl rfl (Nat.le_of_ble_eq_true rfl) ⟨by rw [hR]; decide, by rw [hR]; decide⟩ ⟨by rw [hR]; decide, by rw [hR]; decide⟩ dM_tag_3 (fun S3 q3 => ?_)
  have hF3 := q3.fx hF
  refine hr_iload_n G dM_tag_6 rfl rfl ?_
  refine hr_if_eq (tgt := 16) G dM_tag_7 (by decide) (fun h7 => ?_) (fun h7 => ?_)
  · skip
    refine hr_aload_n G dM_tag_16 rfl rfl ?_
    refine hr_iload_n G dM_tag_17 rfl rfl ?_
    refine hr_callP (b := b + 2) G rfl (hA.lt (show 0 < hw_n0 20 by decide)) kM_125 iM_put vM_put (m_M_put _ _ _ _ _ hA hF3 (b + 1) q3.2 (by omega) x) rfl rfl (Nat.le_of_ble_eq_true rfl) ⟨by rw [hR]; decide, by rw [hR]; decide⟩ ⟨by rw [hR]; decide, by rw [hR]; decide⟩ dM_tag_18 (fun S18 q18 => ?_)
    have hF18 := q18.fx hF3
    refine hr_iload_n G dM_tag_21 rfl rfl ?_
    refine hr_if_le (tgt := 30) G dM_tag_22 (by decide) (fun h22 => ?_) (fun h22 => ?_)
    · skip
      refine hr_aload_n G dM_tag_30 rfl rfl ?_
      refine hr_bipush (v := 62) G dM_tag_31 (by decide) ?_
      refine hr_callP (b := b + 3) G rfl (hA.lt (show 0 < hw_n0 20 by decide)) kM_125 iM_put vM_put (m_M_put _ _ _ _ _ hA hF18 (b + 2) (q3.tr q18).2 (by omega) 62) rfl rfl (Nat.le_of_ble_eq_true rfl) ⟨by rw [hR]; decide, by rw [hR]; decide⟩ ⟨by rw [hR]; decide, by rw [hR]; decide⟩ dM_tag_33 (fun S33 q33 => ?_)
      have hF33 := q33.fx hF18
      exact hr_vret G hr (fun _ h => h) dM_tag_36 ⟨rfl, rfl, ((q3.tr q18).tr q33).up (by omega), rfl⟩
    · skip
      refine hr_aload_n G dM_tag_25 rfl rfl ?_
      refine hr_iload_n G dM_tag_26 rfl rfl ?_
      refine hr_callP (b := b + 3) G rfl (hA.lt (show 0 < hw_n0 20 by decide)) kM_125 iM_put vM_put (m_M_put _ _ _ _ _ hA hF18 (b + 2) (q3.tr q18).2 (by omega) y) rfl rfl (Nat.le_of_ble_eq_true rfl) ⟨by rw [hR]; decide, by rw [hR]; decide⟩ ⟨by rw [hR]; decide, by rw [hR]; decide⟩ dM_tag_27 (fun S27 q27 => ?_)
      have hF27 := q27.fx hF18
      refine hr_aload_n G dM_tag_30 rfl rfl ?_
      refine hr_bipush (v := 62) G dM_tag_31 (by decide) ?_
      refine hr_callP (b := b + 4) G rfl (hA.lt (show 0 < hw_n0 20 by decide)) kM_125 iM_put vM_put (m_M_put _ _ _ _ _ hA hF27 (b + 3) ((q3.tr q18).tr q27).2 (by omega) 62) rfl rfl (Nat.le_of_ble_eq_true rfl) ⟨by rw [hR]; decide, by rw [hR]; decide⟩ ⟨by rw [hR]; decide, by rw [hR]; decide⟩ dM_tag_33 (fun S33 q33 => ?_)
      have hF33 := q33.fx hF27
      exact hr_vret G hr (fun _ h => h) dM_tag_36 ⟨rfl, rfl, (((q3.tr q18).tr q27).tr q33).up (by omega), rfl⟩
  · skip
    refine hr_aload_n G dM_tag_10 rfl rfl ?_
    refine hr_bipush (v := 47) G dM_tag_11 (by decide) ?_
    refine hr_callP (b := b + 2) G rfl (hA.lt (show 0 < hw_n0 20 by decide)) kM_125 iM_put vM_put (m_M_put _ _ _ _ _ hA hF3 (b + 1) q3.2 (by omega) 47) rfl rfl (Nat.le_of_ble_eq_true rfl) ⟨by rw [hR]; decide, by rw [hR]; decide⟩ ⟨by rw [hR]; decide, by rw [hR]; decide⟩ dM_tag_13 (fun S13 q13 => ?_)
    have hF13 := q13.fx hF3
    refine hr_aload_n G dM_tag_16 rfl rfl ?_
    refine hr_iload_n G dM_tag_17 rfl rfl ?_
    refine hr_callP (b := b + 3) G rfl (hA.lt (show 0 < hw_n0 20 by decide)) kM_125 iM_put vM_put (m_M_put _ _ _ _ _ hA hF13 (b + 2) (q3.tr q13).2 (by omega) x) rfl rfl (Nat.le_of_ble_eq_true rfl) ⟨by rw [hR]; decide, by rw [hR]; decide⟩ ⟨by rw [hR]; decide, by rw [hR]; decide⟩ dM_tag_18 (fun S18 q18 => ?_)
    have hF18 := q18.fx hF13
    refine hr_iload_n G dM_tag_21 rfl rfl ?_
    refine hr_if_le (tgt := 30) G dM_tag_22 (by decide) (fun h22 => ?_) (fun h22 => ?_)
    · skip
      refine hr_aload_n G dM_tag_30 rfl rfl ?_
      refine hr_bipush (v := 62) G dM_tag_31 (by decide) ?_
      refine hr_callP (b := b + 4) G rfl (hA.lt (show 0 < hw_n0 20 by decide)) kM_125 iM_put vM_put (m_M_put _ _ _ _ _ hA hF18 (b + 3) ((q3.tr q13).tr q18).2 (by omega) 62) rfl rfl (Nat.le_of_ble_eq_true rfl) ⟨by rw [hR]; decide, by rw [hR]; decide⟩ ⟨by rw [hR]; decide, by rw [hR]; decide⟩ dM_tag_33 (fun S33 q33 => ?_)
      have hF33 := q33.fx hF18
      exact hr_vret G hr (fun _ h => h) dM_tag_36 ⟨rfl, rfl, (((q3.tr q13).tr q18).tr q33).up (by omega), rfl⟩
    · skip
      refine hr_aload_n G dM_tag_25 rfl rfl ?_
      refine hr_iload_n G dM_tag_26 rfl rfl ?_
      refine hr_callP (b := b + 4) G rfl (hA.lt (show 0 < hw_n0 20 by decide)) kM_125 iM_put vM_put (m_M_put _ _ _ _ _ hA hF18 (b + 3) ((q3.tr q13).tr q18).2 (by omega) y) rfl rfl (Nat.le_of_ble_eq_true rfl) ⟨by rw [hR]; decide, by rw [hR]; decide⟩ ⟨by rw [hR]; decide, by rw [hR]; decide⟩ dM_tag_27 (fun S27 q27 => ?_)
      have hF27 := q27.fx hF18
      refine hr_aload_n G dM_tag_30 rfl rfl ?_
      refine hr_bipush (v := 62) G dM_tag_31 (by decide) ?_
      refine hr_callP (b := b + 5) G rfl (hA.lt (show 0 < hw_n0 20 by decide)) kM_125 iM_put vM_put (m_M_put _ _ _ _ _ hA hF27 (b + 4) (((q3.tr q13).tr q18).tr q27).2 (by omega) 62) rfl rfl (Nat.le_of_ble_eq_true rfl) ⟨by rw [hR]; decide, by rw [hR]; decide⟩ ⟨by rw [hR]; decide, by rw [hR]; decide⟩ dM_tag_33 (fun S33 q33 => ?_)
      have hF33 := q33.fx hF27
      exact hr_vret G hr (fun _ h => h) dM_tag_36 ⟨rfl, rfl, ((((q3.tr q13).tr q18).tr q27).tr q33).up (by omega), rfl⟩
set_option maxRecDepth 100000 in
set_option maxHeartbeats 1000000 in
theorem m_M_entity (l : Launch) (B : hw_B) (nb : Nat → Nat) (S : hw_St) (z : Nat) (hA : hw_al nb) (hF : hw_Fx S) (b : Nat) (hb : ∃ a, a ≤ b ∧ S 20 0 29 = nI a) (hle : b + 6 ≤ 1400) (x y u v : Int32) : hw_M l yM_entity cM_entity 5 none ({ frames := 1, cells := 0, slots := 0, locals := 21 }) B [.ref (hw_a B 20 0), .int x, .int y, .int u, .int v] nb S z (hw_pw (b + 6) nb S z) := by
  refine hw_M.of (by decide) (Nat.le_of_ble_eq_true rfl) ?_
  intro X fr hl hR G hr hnm
  refine hr_aload_n G dM_entity_0 rfl rfl ?_
  refine hr_bipush (v := 38) G dM_entity_1 (by decide) ?_
  refine hr_callP (b := b + 1) G rfl (hA.lt (show 0 < hw_n0 20 by decide)) kM_125 iM_put vM_put (m_M_put _ _ _ _ _ hA hF (b + 0) hb (by omega) 38) rfl rfl (Nat.le_of_ble_eq_true rfl) ⟨by rw [hR]; decide, by rw [hR]; decide⟩ ⟨by rw [hR]; decide, by rw [hR]; decide⟩ dM_entity_3 (fun S3 q3 => ?_)
  have hF3 := q3.fx hF
  refine hr_aload_n G dM_entity_6 rfl rfl ?_
  refine hr_iload_n G dM_entity_7 rfl rfl ?_
  refine hr_callP (b := b + 2) G rfl (hA.lt (show 0 < hw_n0 20 by decide)) kM_125 iM_put vM_put (m_M_put _ _ _ _ _ hA hF3 (b + 1) q3.2 (by omega) x) rfl rfl (Nat.le_of_ble_eq_true rfl) ⟨by rw [hR]; decide, by rw [hR]; decide⟩ ⟨by rw [hR]; decide, by rw [hR]; decide⟩ dM_entity_8 (fun S8 q8 => ?_)
  have hF8 := q8.fx hF3
  refine hr_aload_n G dM_entity_11 rfl rfl ?_
  refine hr_iload_n G dM_entity_12 rfl rfl ?_
  refine hr_callP (b := b + 3) G rfl (hA.lt (show 0 < hw_n0 20 by decide)) kM_125 iM_put vM_put (m_M_put _ _ _ _ _ hA hF8 (b + 2) (q3.tr q8).2 (by omega) y) rfl rfl (Nat.le_of_ble_eq_true rfl) ⟨by rw [hR]; decide, by rw [hR]; decide⟩ ⟨by rw [hR]; decide, by rw [hR]; decide⟩ dM_entity_13 (fun S13 q13 => ?_)
  have hF13 := q13.fx hF8
  refine hr_iload_n G dM_entity_16 rfl rfl ?_
  refine hr_if_le (tgt := 25) G dM_entity_17 (by decide) (fun h17 => ?_) (fun h17 => ?_)
  · skip
    refine hr_iload G dM_entity_25 rfl ?_
    refine hr_if_le (tgt := 36) G dM_entity_27 (by decide) (fun h27 => ?_) (fun h27 => ?_)
    · skip
      refine hr_aload_n G dM_entity_36 rfl rfl ?_
      refine hr_bipush (v := 59) G dM_entity_37 (by decide) ?_
      refine hr_callP (b := b + 4) G rfl (hA.lt (show 0 < hw_n0 20 by decide)) kM_125 iM_put vM_put (m_M_put _ _ _ _ _ hA hF13 (b + 3) ((q3.tr q8).tr q13).2 (by omega) 59) rfl rfl (Nat.le_of_ble_eq_true rfl) ⟨by rw [hR]; decide, by rw [hR]; decide⟩ ⟨by rw [hR]; decide, by rw [hR]; decide⟩ dM_entity_39 (fun S39 q39 => ?_)
      have hF39 := q39.fx hF13
      exact hr_vret G hr (fun _ h => h) dM_entity_42 ⟨rfl, rfl, (((q3.tr q8).tr q13).tr q39).up (by omega), rfl⟩
    · skip
      refine hr_aload_n G dM_entity_30 rfl rfl ?_
      refine hr_iload G dM_entity_31 rfl ?_
      refine hr_callP (b := b + 4) G rfl (hA.lt (show 0 < hw_n0 20 by decide)) kM_125 iM_put vM_put (m_M_put _ _ _ _ _ hA hF13 (b + 3) ((q3.tr q8).tr q13).2 (by omega) v) rfl rfl (Nat.le_of_ble_eq_true rfl) ⟨by rw [hR]; decide, by rw [hR]; decide⟩ ⟨by rw [hR]; decide, by rw [hR]; decide⟩ dM_entity_33 (fun S33 q33 => ?_)
      have hF33 := q33.fx hF13
      refine hr_aload_n G dM_entity_36 rfl rfl ?_
      refine hr_bipush (v := 59) G dM_entity_37 (by decide) ?_
      refine hr_callP (b := b + 5) G rfl (hA.lt (show 0 < hw_n0 20 by decide)) kM_125 iM_put vM_put (m_M_put _ _ _ _ _ hA hF33 (b + 4) (((q3.tr q8).tr q13).tr q33).2 (by omega) 59) rfl rfl (Nat.le_of_ble_eq_true rfl) ⟨by rw [hR]; decide, by rw [hR]; decide⟩ ⟨by rw [hR]; decide, by rw [hR]; decide⟩ dM_entity_39 (fun S39 q39 => ?_)
      have hF39 := q39.fx hF33
      exact hr_vret G hr (fun _ h => h) dM_entity_42 ⟨rfl, rfl, ((((q3.tr q8).tr q13).tr q33).tr q39).up (by omega), rfl⟩
  · skip
    refine hr_aload_n G dM_entity_20 rfl rfl ?_
    refine hr_iload_n G dM_entity_21 rfl rfl ?_
    refine hr_callP (b := b + 4) G rfl (hA.lt (show 0 < hw_n0 20 by decide)) kM_125 iM_put vM_put (m_M_put _ _ _ _ _ hA hF13 (b + 3) ((q3.tr q8).tr q13).2 (by omega) u) rfl rfl (Nat.le_of_ble_eq_true rfl) ⟨by rw [hR]; decide, by rw [hR]; decide⟩ ⟨by rw [hR]; decide, by rw [hR]; decide⟩ dM_entity_22 (fun S22 q22 => ?_)
    have hF22 := q22.fx hF13
    refine hr_iload G dM_entity_25 rfl ?_
    refine hr_if_le (tgt := 36) G dM_entity_27 (by decide) (fun h27 => ?_) (fun h27 => ?_)
    · skip
      refine hr_aload_n G dM_entity_36 rfl rfl ?_
      refine hr_bipush (v := 59) G dM_entity_37 (by decide) ?_
      refine hr_callP (b := b + 5) G rfl (hA.lt (show 0 < hw_n0 20 by decide)) kM_125 iM_put vM_put (m_M_put _ _ _ _ _ hA hF22 (b + 4) (((q3.tr q8).tr q13).tr q22).2 (by omega) 59) rfl rfl (Nat.le_of_ble_eq_true rfl) ⟨by rw [hR]; decide, by rw [hR]; decide⟩ ⟨by rw [hR]; decide, by rw [hR]; decide⟩ dM_entity_39 (fun S39 q39 => ?_)
      have hF39 := q39.fx hF22
      exact hr_vret G hr (fun _ h => h) dM_entity_42 ⟨rfl, rfl, ((((q3.tr q8).tr q13).tr q22).tr q39).up (by omega), rfl⟩
    · skip
      refine hr_aload_n G dM_entity_30 rfl rfl ?_
      refine hr_iload G dM_entity_31 rfl ?_
      refine hr_callP (b := b + 5) G rfl (hA.lt (show 0 < hw_n0 20 by decide)) kM_125 iM_put vM_put (m_M_put _ _ _ _ _ hA hF22 (b + 4) (((q3.tr q8).tr q13).tr q22).2 (by omega) v) rfl rfl (Nat.le_of_ble_eq_true rfl) ⟨by rw [hR]; decide, by rw [hR]; decide⟩ ⟨by rw [hR]; decide, by rw [hR]; decide⟩ dM_entity_33 (fun S33 q33 => ?_)
      have hF33 := q33.fx hF22
      refine hr_aload_n G dM_entity_36 rfl rfl ?_
      refine hr_bipush (v := 59) G dM_entity_37 (by decide) ?_
      refine hr_callP (b := b + 6) G rfl (hA.lt (show 0 < hw_n0 20 by decide)) kM_125 iM_put vM_put (m_M_put _ _ _ _ _ hA hF33 (b + 5) ((((q3.tr q8).tr q13).tr q22).tr q33).2 (by omega) 59) rfl rfl (Nat.le_of_ble_eq_true rfl) ⟨by rw [hR]; decide, by rw [hR]; decide⟩ ⟨by rw [hR]; decide, by rw [hR]; decide⟩ dM_entity_39 (fun S39 q39 => ?_)
      have hF39 := q39.fx hF33
      exact hr_vret G hr (fun _ h => h) dM_entity_42 ⟨rfl, rfl, (((((q3.tr q8).tr q13).tr q22).tr q33).tr q39).up (by omega), rfl⟩
theorem pg_r.dg {b : Nat} {S S1 : hw_St} {j : Nat} {v : Int32} (h : pg_r b S S1) : pg_r b S (hw_sv S1 44 0 j v) := ⟨fun k i j' h1 h2 h3 => by unfold hw_sv; rw [if_neg (fun e => h2 e.1)]; exact h.1 k i j' h1 h2 h3, h.2⟩
set_option maxRecDepth 100000 in
set_option maxHeartbeats 1000000 in
theorem m_M_number (l : Launch) (B : hw_B) (nb : Nat → Nat) (S : hw_St) (z : Nat) (hA : hw_al nb) (hF : hw_Fx S) (b : Nat) (hb : ∃ a, a ≤ b ∧ S 20 0 29 = nI a) (hle : b + 12 ≤ 1400) (x : Int32) : hw_M l yM_number cM_number 6 none ({ frames := 1, cells := 0, slots := 0, locals := 21 }) B [.ref (hw_a B 20 0), .int x] nb S z (hw_pw (b + 12) nb S z) := by
  refine hw_M.of (by decide) (Nat.le_of_ble_eq_true rfl) ?_
  intro X fr hl hR G hr hnm
  have L84 : ∀ (n j : Nat) (S1 : hw_St), n ≤ 11 → j ≤ n → pg_r (b + 1 + (n - j)) S S1 → hw_V X B fr nb S1 z 0 0 (hw_MQ X B fr (hw_pw (b + 12) nb S z) 0 0) 6 84 [(0, .ref (hw_a B 20 0)), (5, .int (nI j - 1))] [] := by
    intro n j
    induction j with
    | zero =>
      intro S1 hn hj h1
      have hF1 := h1.fx hF
      refine hr_iload G dM_number_84 rfl ?_
      refine hr_if_lt (tgt := 109) G dM_number_86 (by decide) (fun _ => ?_) (fun h => absurd (show nI 0 - 1 < 0 by decide) h)
      exact hr_vret G hr (fun _ h => h) dM_number_109 ⟨rfl, rfl, h1.up (by omega), rfl⟩
    | succ j ih =>
      intro S1 hn hj h1
      have hF1 := h1.fx hF
      rw [nI_pred]
      refine hr_iload G dM_number_84 rfl ?_
      refine hr_if_lt (tgt := 109) G dM_number_86 (by decide) (fun h => absurd h (nI_pos (by omega))) (fun _ => ?_)
      refine hr_aload_n G dM_number_89 rfl rfl ?_
      refine hr_bipush (v := 48) G dM_number_90 (by decide) ?_
      refine hr_aload_n G dM_number_92 rfl rfl ?_
      refine hr_get (v := .ref (hw_a B 44 0)) G fM_84 (hA.lt (show 0 < hw_n0 20 by decide)) (hw_rfx hF1 (by decide) rfl (by decide)) dM_number_93 ?_
      refine hr_iload G dM_number_96 rfl ?_
      refine hr_iald (n := j) (v := .int (S1 44 0 j)) G rfl (by decide) rfl (hA.lt (show 0 < hw_n0 44 by decide)) rfl (show j < 12 by omega) rfl dM_number_98 ?_
      refine hr_iadd G dM_number_99 ?_
      refine hr_callP (b := (b + 1 + (n - (j + 1))) + 1) G rfl (hA.lt (show 0 < hw_n0 20 by decide)) kM_125 iM_put vM_put (m_M_put _ _ _ _ _ hA hF1 ((b + 1 + (n - (j + 1))) + 0) h1.2 (by omega) (48 + (S1 44 0 j))) rfl rfl (Nat.le_of_ble_eq_true rfl) ⟨by rw [hR]; decide, by rw [hR]; decide⟩ ⟨by rw [hR]; decide, by rw [hR]; decide⟩ dM_number_100 (fun S100 q100 => ?_)
      have hF100 := q100.fx hF1
      refine hr_iinc (v := nI j - 1) G dM_number_103 rfl (by rw [Int32.sub_eq_add_neg]; rfl) (by decide) ?_
      refine hr_goto (tgt := 84) G dM_number_106 (by decide) ?_
      refine hr_L (L' := [(0, .ref (hw_a B 20 0)), (5, .int (nI j - 1))]) (hw_s1 rfl (hw_s1 rfl (hw_s0))) ?_
      exact ih _ hn (by omega) ((h1.tr q100).up (by omega))
  have K78 : ∀ (n : Nat) (S1 : hw_St), n ≤ 11 → pg_r (b + 1) S S1 → hw_V X B fr nb S1 z 0 0 (hw_MQ X B fr (hw_pw (b + 12) nb S z) 0 0) 6 78 [(0, .ref (hw_a B 20 0)), (4, .int (nI n))] [] := by
    intro n S1 hn h1
    have hF1 := h1.fx hF
    refine hr_iload G dM_number_78 rfl ?_
    refine hr_iconst (v := 1) G dM_number_80 (by decide) ?_
    refine hr_isub G dM_number_81 ?_
    refine hr_istore (i := 5) G dM_number_82 (by decide) ?_
    refine hr_L (L' := [(0, .ref (hw_a B 20 0)), (5, .int (nI n - 1))]) (hw_s1 rfl (hw_s1 rfl (hw_s0))) ?_
    exact L84 n n _ hn (Nat.le_refl _) (h1.up (by omega))
  have K68 : ∀ (n : Nat) (S1 : hw_St), n ≤ 11 → pg_r b S S1 → hw_V X B fr nb S1 z 0 0 (hw_MQ X B fr (hw_pw (b + 12) nb S z) 0 0) 6 68 [(0, .ref (hw_a B 20 0)), (1, .int x), (4, .int (nI n))] [] := by
    intro n S1 hn h1
    have hF1 := h1.fx hF
    refine hr_iload_n G dM_number_68 rfl rfl ?_
    refine hr_if_ge (tgt := 78) G dM_number_69 (by decide) (fun h69 => ?_) (fun h69 => ?_)
    · skip
      refine hr_L (L' := [(0, .ref (hw_a B 20 0)), (4, .int (nI n))]) (hw_s1 rfl (hw_s1 rfl (hw_s0))) ?_
      exact K78 n _ hn (h1.up (by omega))
    · skip
      refine hr_aload_n G dM_number_72 rfl rfl ?_
      refine hr_bipush (v := 45) G dM_number_73 (by decide) ?_
      refine hr_callP (b := b + 1) G rfl (hA.lt (show 0 < hw_n0 20 by decide)) kM_125 iM_put vM_put (m_M_put _ _ _ _ _ hA hF1 (b + 0) h1.2 (by omega) 45) rfl rfl (Nat.le_of_ble_eq_true rfl) ⟨by rw [hR]; decide, by rw [hR]; decide⟩ ⟨by rw [hR]; decide, by rw [hR]; decide⟩ dM_number_75 (fun S75 q75 => ?_)
      have hF75 := q75.fx hF1
      refine hr_L (L' := [(0, .ref (hw_a B 20 0)), (4, .int (nI n))]) (hw_s1 rfl (hw_s1 rfl (hw_s0))) ?_
      exact K78 n _ hn ((h1.tr q75).up (by omega))
  have L19 : ∀ (m k n : Nat) (y : Int64) (S1 : hw_St), pg_r b S S1 → 11 - k = m → k ≤ 11 → n ≤ 11 → hw_V X B fr nb S1 z 0 0 (hw_MQ X B fr (hw_pw (b + 12) nb S z) 0 0) 6 19 [(0, .ref (hw_a B 20 0)), (1, .int x), (2, .long y), (4, .int (nI n)), (5, .int (nI k))] [] := by
    intro m
    induction m with
    | zero =>
      intro k n y S1 h1 hm hk hn
      obtain rfl : k = 11 := by omega
      have hF1 := h1.fx hF
      refine hr_iload G dM_number_19 rfl ?_
      refine hr_bipush (v := 11) G dM_number_21 (by decide) ?_
      refine hr_icmp_ge (tgt := 68) G dM_number_23 (by decide) (fun _ => ?_) (fun h => absurd (show (11 : Int32) ≤ nI 11 by decide) h)
      refine hr_L (L' := [(0, .ref (hw_a B 20 0)), (1, .int x), (4, .int (nI n))]) (hw_s1 rfl (hw_s1 rfl (hw_s1 rfl (hw_s0)))) ?_
      exact K68 n _ hn h1
    | succ m ih =>
      intro k n y S1 h1 hm hk hn
      have hF1 := h1.fx hF
      refine hr_iload G dM_number_19 rfl ?_
      refine hr_bipush (v := 11) G dM_number_21 (by decide) ?_
      refine hr_icmp_ge (tgt := 68) G dM_number_23 (by decide) (fun h => absurd h (show ¬ (11 : Int32) ≤ nI k from nI_ge (b := 11) (by omega) (by decide))) (fun _ => ?_)
      refine hr_iload G dM_number_26 rfl ?_
      refine hr_if_eq (tgt := 37) G dM_number_28 (by decide) (fun h28 => ?_) (fun h28 => ?_)
      · skip
        refine hr_aload_n G dM_number_37 rfl rfl ?_
        refine hr_get (v := .ref (hw_a B 44 0)) G fM_84 (hA.lt (show 0 < hw_n0 20 by decide)) (hw_rfx hF1 (by decide) rfl (by decide)) dM_number_38 ?_
        refine hr_iload G dM_number_41 rfl ?_
        refine hr_lload_n G dM_number_43 rfl rfl ?_
        refine hr_ldc2 G c2M dM_number_44 ?_
        refine hr_lrem G dM_number_47 (by decide) ?_
        refine hr_l2i G dM_number_48 ?_
        refine hr_iast (n := k) (y := ((y - y / (10 : Int64) * (10 : Int64)).toInt32)) G rfl (by decide) rfl (hA.lt (show 0 < hw_n0 44 by decide)) rfl (show k < 12 by omega) rfl dM_number_49 ?_
        refine hr_lload_n G dM_number_50 rfl rfl ?_
        refine hr_ldc2 G c2M dM_number_51 ?_
        refine hr_ldiv G dM_number_54 (by decide) ?_
        refine hr_lstore_n (i := 2) G dM_number_55 rfl (by decide) ?_
        refine hr_iload G dM_number_56 rfl ?_
        refine hr_iconst (v := 1) G dM_number_58 (by decide) ?_
        refine hr_iadd G dM_number_59 ?_
        refine hr_istore (i := 4) G dM_number_60 (by decide) ?_
        refine hr_iinc (v := nI (k + 1)) G dM_number_62 rfl (nI_succ k).symm (by decide) ?_
        refine hr_goto (tgt := 19) G dM_number_65 (by decide) ?_
        rw [show nI k + 1 = nI (k + 1) from (nI_succ k).symm]
        refine hr_L (L' := [(0, .ref (hw_a B 20 0)), (1, .int x), (2, .long (y / 10)), (4, .int (nI (k + 1))), (5, .int (nI (k + 1)))]) (hw_s1 rfl (hw_s1 rfl (hw_s1 rfl (hw_s1 rfl (hw_s1 rfl (hw_s0)))))) ?_
        exact ih (k + 1) (k + 1) (y / 10) _ h1.dg (by omega) (by omega) (by omega)
      · skip
        refine hr_lload_n G dM_number_31 rfl rfl ?_
        refine hr_lconst (v := 0) G dM_number_32 (by decide) ?_
        refine hr_lcmp G dM_number_33 ?_
        refine hr_if_le (tgt := 68) G dM_number_34 (by decide) (fun h34 => ?_) (fun h34 => ?_)
        · skip
          refine hr_L (L' := [(0, .ref (hw_a B 20 0)), (1, .int x), (4, .int (nI n))]) (hw_s1 rfl (hw_s1 rfl (hw_s1 rfl (hw_s0)))) ?_
          exact K68 n _ hn h1
        · skip
          refine hr_aload_n G dM_number_37 rfl rfl ?_
          refine hr_get (v := .ref (hw_a B 44 0)) G fM_84 (hA.lt (show 0 < hw_n0 20 by decide)) (hw_rfx hF1 (by decide) rfl (by decide)) dM_number_38 ?_
          refine hr_iload G dM_number_41 rfl ?_
          refine hr_lload_n G dM_number_43 rfl rfl ?_
          refine hr_ldc2 G c2M dM_number_44 ?_
          refine hr_lrem G dM_number_47 (by decide) ?_
          refine hr_l2i G dM_number_48 ?_
          refine hr_iast (n := k) (y := ((y - y / (10 : Int64) * (10 : Int64)).toInt32)) G rfl (by decide) rfl (hA.lt (show 0 < hw_n0 44 by decide)) rfl (show k < 12 by omega) rfl dM_number_49 ?_
          refine hr_lload_n G dM_number_50 rfl rfl ?_
          refine hr_ldc2 G c2M dM_number_51 ?_
          refine hr_ldiv G dM_number_54 (by decide) ?_
          refine hr_lstore_n (i := 2) G dM_number_55 rfl (by decide) ?_
          refine hr_iload G dM_number_56 rfl ?_
          refine hr_iconst (v := 1) G dM_number_58 (by decide) ?_
          refine hr_iadd G dM_number_59 ?_
          refine hr_istore (i := 4) G dM_number_60 (by decide) ?_
          refine hr_iinc (v := nI (k + 1)) G dM_number_62 rfl (nI_succ k).symm (by decide) ?_
          refine hr_goto (tgt := 19) G dM_number_65 (by decide) ?_
          rw [show nI k + 1 = nI (k + 1) from (nI_succ k).symm]
          refine hr_L (L' := [(0, .ref (hw_a B 20 0)), (1, .int x), (2, .long (y / 10)), (4, .int (nI (k + 1))), (5, .int (nI (k + 1)))]) (hw_s1 rfl (hw_s1 rfl (hw_s1 rfl (hw_s1 rfl (hw_s1 rfl (hw_s0)))))) ?_
          exact ih (k + 1) (k + 1) (y / 10) _ h1.dg (by omega) (by omega) (by omega)
  refine hr_iload_n G dM_number_0 rfl rfl ?_
  refine hr_if_ge (tgt := 10) G dM_number_1 (by decide) (fun h1 => ?_) (fun h1 => ?_)
  · skip
    refine hr_iload_n G dM_number_10 rfl rfl ?_
    refine hr_i2l G dM_number_11 ?_
    refine hr_lstore_n (i := 2) G dM_number_12 rfl (by decide) ?_
    refine hr_iconst (v := 0) G dM_number_13 (by decide) ?_
    refine hr_istore (i := 4) G dM_number_14 (by decide) ?_
    refine hr_iconst (v := 0) G dM_number_16 (by decide) ?_
    refine hr_istore (i := 5) G dM_number_17 (by decide) ?_
    refine hr_L (L' := [(0, .ref (hw_a B 20 0)), (1, .int x), (2, .long (x.toInt64)), (4, .int (nI 0)), (5, .int (nI 0))]) (hw_s1 rfl (hw_s1 rfl (hw_s1 rfl (hw_s1 rfl (hw_s1 rfl (hw_s0)))))) ?_
    exact L19 _ 0 0 (x.toInt64) S (pg_r.rf hb) rfl (by omega) (by omega)
  · skip
    refine hr_iload_n G dM_number_4 rfl rfl ?_
    refine hr_i2l G dM_number_5 ?_
    refine hr_lneg G dM_number_6 ?_
    refine hr_goto (tgt := 12) G dM_number_7 (by decide) ?_
    refine hr_lstore_n (i := 2) G dM_number_12 rfl (by decide) ?_
    refine hr_iconst (v := 0) G dM_number_13 (by decide) ?_
    refine hr_istore (i := 4) G dM_number_14 (by decide) ?_
    refine hr_iconst (v := 0) G dM_number_16 (by decide) ?_
    refine hr_istore (i := 5) G dM_number_17 (by decide) ?_
    refine hr_L (L' := [(0, .ref (hw_a B 20 0)), (1, .int x), (2, .long (-(x.toInt64))), (4, .int (nI 0)), (5, .int (nI 0))]) (hw_s1 rfl (hw_s1 rfl (hw_s1 rfl (hw_s1 rfl (hw_s1 rfl (hw_s0)))))) ?_
    exact L19 _ 0 0 (-(x.toInt64)) S (pg_r.rf hb) rfl (by omega) (by omega)
