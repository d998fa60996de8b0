/-! The reference writes. -/
theorem c2M : Cond.constantLong "TicketHouseModel" 129 10 ∈ hw_TS := hw_in 765 (by decide +kernel) rfl
theorem hr_ldc2 {X : hw_X} {B : hw_B} {fr : Nat → Prop} {nb : Nat → Nat} {S : hw_St} {z c sl : Nat} {Q : State → Prop} {cc : ByteArray} {nL pc : Nat} {own : String} {L : List (Nat × Value)} {st : List Value} (G : hw_G X B fr cc nL own) {index : Nat} {v : Int64} (hw : Cond.constantLong own index v ∈ hw_TS) (d : decode cc pc = .ok (.ldc2_w index, 3)) (K : hw_V X B fr nb S z c sl Q nL (pc + 3) L (.long v :: st)) : hw_V X B fr nb S z c sl Q nL pc L st :=
  fun ls H locs hl hP hz hf => lv_ldc2 G.1 G.2.1 G.2.2.2.1 (va_any rfl (G.2.2.2.2.1.2.2.1 _ hw)) d (K ls H locs hl hP hz hf)
/-- the paper has changed, nothing else; at most b is written -/
def pg_r (b : Nat) (S S' : hw_St) : Prop := (∀ k i j, ¬ k = 43 → ¬ k = 44 → ¬ (k = 20 ∧ j = 29) → S' k i j = S k i j) ∧ ∃ a, a ≤ b ∧ S' 20 0 29 = nI a
theorem pg_r.tr {b c : Nat} {S S1 S2 : hw_St} (h1 : pg_r b S S1) (h2 : pg_r c S1 S2) : pg_r c S S2 := ⟨fun k i j x y w => (h2.1 k i j x y w).trans (h1.1 k i j x y w), h2.2⟩
theorem pg_r.up {b c : Nat} {S S1 : hw_St} (h1 : pg_r b S S1) (h : b ≤ c) : pg_r c S S1 := ⟨h1.1, h1.2.imp fun a q => ⟨by omega, q.2⟩⟩
theorem pg_r.rf {b : Nat} {S : hw_St} (h : ∃ a, a ≤ b ∧ S 20 0 29 = nI a) : pg_r b S S := ⟨fun _ _ _ _ _ _ => rfl, h⟩
theorem pg_r.fx {b : Nat} {S S' : hw_St} (h : pg_r b S S') (hF : hw_Fx S) : hw_Fx S' := fun k i j v hi hv => by
  rw [h.1 k i j (fun e => by rw [e] at hv; exact nomatch hv) (fun e => by rw [e] at hv; exact nomatch hv) (fun e => by rw [e.1, e.2] at hv; exact nomatch hv)]
  exact hF k i j v hi hv
def hw_pw (b : Nat) (nb : Nat → Nat) (S : hw_St) (z : Nat) : hw_T := fun oc nb' S' z' => oc = .inl none ∧ nb' = nb ∧ pg_r b S S' ∧ z' = z
theorem hr_callP {X : hw_X} {B : hw_B} {fr : Nat → Prop} {nb : Nat → Nat} {S : hw_St} {z c sl b : Nat} {Q : State → Prop} {cc : ByteArray} {nL pc : Nat} {own : String} {L : List (Nat × Value)} {st : List Value} (G : hw_G X B fr cc nL own) {index maxL n : Nat} {y : MethodName} {bytes : ByteArray} {rm : Room} {As st0 : List Value} (hy : y.cls = "TicketHouseModel") (hi : 0 < nb 20) (cw : hw_C own index y bytes maxL none n) (w1 : Cond.instanceMethod y ∈ hw_TS) (w2 : Cond.selects y.cls y y ∈ hw_TS) (hM : hw_M X.2.1 y bytes maxL none rm B (.ref (hw_a B 20 0) :: As) nb S z (hw_pw b nb S z)) (hn : As.length = n) (hst : st0 = As.reverse ++ .ref (hw_a B 20 0) :: st) (hW : (st.map fun v => v.category).sum ≤ 8) (hR : rm.frames + 1 ≤ (xR X).frames ∧ 8 + (maxL + 11) + rm.locals ≤ (xR X).locals) (hcs : c + rm.cells ≤ (xR X).cells ∧ sl + rm.slots ≤ (xR X).slots) (d : decode cc pc = .ok (.invokevirtual index, 3))
    (K : ∀ S' : hw_St, pg_r b S S' → hw_V X B fr nb S' z (c + rm.cells) (sl + rm.slots) Q nL (pc + 3) L st) : hw_V X B fr nb S z c sl Q nL pc L st0 :=
  hr_callV (k := 20) (i := 0) (ci := 5) (T := FM) (N := 31) G rfl (by rw [hy]; rfl) hi cw w1 w2 hM hn hst hW hR hcs d (fun r nb' S' z' hp => by
    obtain ⟨h1, rfl, h3, rfl⟩ := hp
    have h2 := Sum.inl.inj h1
    subst h2
    exact K S' h3)
set_option maxRecDepth 100000 in
set_option maxHeartbeats 1000000 in
theorem m_M_put (l : Launch) (B : hw_B) (nb : Nat → Nat) (S : hw_St) (z : Nat) (hA : hw_al nb) (hF : hw_Fx S) (b : Nat) (hb : ∃ a, a ≤ b ∧ S 20 0 29 = nI a) (hle : b + 1 ≤ 1400) (x : Int32) : hw_M l yM_put cM_put 2 none ({ frames := 0, cells := 0, slots := 0, locals := 0 }) B [.ref (hw_a B 20 0), .int x] nb S z (hw_pw (b + 1) nb S z) := by
  refine hw_M.of (by decide) (Nat.le_of_ble_eq_true rfl) ?_
  intro X fr hl hR G hr hnm
  obtain ⟨a, ha1, ha2⟩ := hb
  refine hr_aload_n G dM_put_0 rfl rfl ?_
  refine hr_get (v := .ref (hw_a B 43 0)) G fM_77 (hA.lt (show 0 < hw_n0 20 by decide)) (hw_rfx hF (by decide) rfl (by decide)) dM_put_1 ?_
  refine hr_aload_n G dM_put_4 rfl rfl ?_
  refine hr_get (v := .int (S 20 0 29)) G fM_80 (hA.lt (show 0 < hw_n0 20 by decide)) rfl dM_put_5 ?_
  refine hr_iload_n G dM_put_8 rfl rfl ?_
  refine hr_iast (n := a) (y := x) G rfl (by decide) rfl (hA.lt (show 0 < hw_n0 43 by decide)) ha2 (show a < 1400 by omega) rfl dM_put_9 ?_
  refine hr_aload_n G dM_put_10 rfl rfl ?_
  refine hr_dup G dM_put_11 rfl ?_
  refine hr_get (v := .int (S 20 0 29)) G fM_80 (hA.lt (show 0 < hw_n0 20 by decide)) rfl dM_put_12 ?_
  refine hr_iconst (v := 1) G dM_put_15 (by decide) ?_
  refine hr_iadd G dM_put_16 ?_
  refine hr_put (x := ((S 20 0 29) + 1)) G fM_80 (hA.lt (show 0 < hw_n0 20 by decide)) rfl (rfl) rfl dM_put_17 ?_
  exact hr_vret G hr (fun _ h => h) dM_put_20 ⟨rfl, rfl, ⟨fun k i j h1 h2 h3 => by unfold hw_sv; rw [if_neg (fun e => h3 ⟨e.1, e.2.2⟩), if_neg (fun e => h1 e.1)], a + 1, by omega, by rw [hw_sv_same, ha2, nI_succ]⟩, rfl⟩
set_option maxRecDepth 100000 in
set_option maxHeartbeats 1000000 in
theorem m_M_tag (l : Launch) (B : hw_B) (nb : Nat → Nat) (S : hw_St) (z : Nat) (hA : hw_al nb) (hF : hw_Fx S) (b : Nat) (hb : ∃ a, a ≤ b ∧ S 20 0 29 = nI a) (hle : b + 5 ≤ 1400) (x y e : Int32) : hw_M l yM_tag cM_tag 4 none ({ frames := 1, cells := 0, slots := 0, locals := 21 }) B [.ref (hw_a B 20 0), .int x, .int y, .int e] nb S z (hw_pw (b + 5) nb S z) := by
  refine hw_M.of (by decide) (Nat.le_of_ble_eq_true rfl) ?_
  intro X fr hl hR G hr hnm
  refine hr_aload_n G dM_tag_0 rfl rfl ?_
  refine hr_bipush (v := 60) G dM_tag_1 (by decide) ?_
  refine hr_callP (b := b + 1) G rfl (hA.lt (show 0 < hw_n0 20 by decide)) kM_125 iM_put vM_put (m_M_put _ _ _ _ _ hA hF (b + 0) hb (by omega) 60) rfl rfl (Nat.le_of_ble_eq_true rfl) ⟨by rw [hR]; decide, by rw [hR]; decide⟩ ⟨by rw [hR]; decide, by rw [hR]; decide⟩ dM_tag_3 (fun S3 q3 => ?_)
  have hF3 := q3.fx hF
  refine hr_iload_n G dM_tag_6 rfl rfl ?_
  refine hr_if_eq (tgt := 16) G dM_tag_7 (by decide) (fun h7 => ?_) (fun h7 => ?_)
  · skip
    refine hr_aload_n G dM_tag_16 rfl rfl ?_
    refine hr_iload_n G dM_tag_17 rfl rfl ?_
    refine hr_callP (b := b + 2) G rfl (hA.lt (show 0 < hw_n0 20 by decide)) kM_125 iM_put vM_put (m_M_put _ _ _ _ _ hA hF3 (b + 1) q3.2 (by omega) x) rfl rfl (Nat.le_of_ble_eq_true rfl) ⟨by rw [hR]; decide, by rw [hR]; decide⟩ ⟨by rw [hR]; decide, by rw [hR]; decide⟩ dM_tag_18 (fun S18 q18 => ?_)
    have hF18 := q18.fx hF3
    refine hr_iload_n G dM_tag_21 rfl rfl ?_
    refine hr_if_le (tgt := 30) G dM_tag_22 (by decide) (fun h22 => ?_) (fun h22 => ?_)
    · skip
      refine hr_aload_n G dM_tag_30 rfl rfl ?_
      refine hr_bipush (v := 62) G dM_tag_31 (by decide) ?_
      refine hr_callP (b := b + 3) G rfl (hA.lt (show 0 < hw_n0 20 by decide)) kM_125 iM_put vM_put (m_M_put _ _ _ _ _ hA hF18 (b + 2) (q3.tr q18).2 (by omega) 62) rfl rfl (Nat.le_of_ble_eq_true rfl) ⟨by rw [hR]; decide, by rw [hR]; decide⟩ ⟨by rw [hR]; decide, by rw [hR]; decide⟩ dM_tag_33 (fun S33 q33 => ?_)
      have hF33 := q33.fx hF18
      exact hr_vret G hr (fun _ h => h) dM_tag_36 ⟨rfl, rfl, ((q3.tr q18).tr q33).up (by omega), rfl⟩
    · skip
      refine hr_aload_n G dM_tag_25 rfl rfl ?_
      refine hr_iload_n G dM_tag_26 rfl rfl ?_
      refine hr_callP (b := b + 3) G rfl (hA.lt (show 0 < hw_n0 20 by decide)) kM_125 iM_put vM_put (m_M_put _ _ _ _ _ hA hF18 (b + 2) (q3.tr q18).2 (by omega) y) rfl rfl (Nat.le_of_ble_eq_true rfl) ⟨by rw [hR]; decide, by rw [hR]; decide⟩ ⟨by rw [hR]; decide, by rw [hR]; decide⟩ dM_tag_27 (fun S27 q27 => ?_)
      have hF27 := q27.fx hF18
      refine hr_aload_n G dM_tag_30 rfl rfl ?_
      refine hr_bipush (v := 62) G dM_tag_31 (by decide) ?_
      refine hr_callP (b := b + 4) G rfl (hA.lt (show 0 < hw_n0 20 by decide)) kM_125 iM_put vM_put (m_M_put _ _ _ _ _ hA hF27 (b + 3) ((q3.tr q18).tr q27).2 (by omega) 62) rfl rfl (Nat.le_of_ble_eq_true rfl) ⟨by rw [hR]; decide, by rw [hR]; decide⟩ ⟨by rw [hR]; decide, by rw [hR]; decide⟩ dM_tag_33 (fun S33 q33 => ?_)
      have hF33 := q33.fx hF27
      exact hr_vret G hr (fun _ h => h) dM_tag_36 ⟨rfl, rfl, (((q3.tr q18).tr q27).tr q33).up (by omega), rfl⟩
  · skip
    refine hr_aload_n G dM_tag_10 rfl rfl ?_
    refine hr_bipush (v := 47) G dM_tag_11 (by decide) ?_
    refine hr_callP (b := b + 2) G rfl (hA.lt (show 0 < hw_n0 20 by decide)) kM_125 iM_put vM_put (m_M_put _ _ _ _ _ hA hF3 (b + 1) q3.2 (by omega) 47) rfl rfl (Nat.le_of_ble_eq_true rfl) ⟨by rw [hR]; decide, by rw [hR]; decide⟩ ⟨by rw [hR]; decide, by rw [hR]; decide⟩ dM_tag_13 (fun S13 q13 => ?_)
    have hF13 := q13.fx hF3
    refine hr_aload_n G dM_tag_16 rfl rfl ?_
    refine hr_iload_n G dM_tag_17 rfl rfl ?_
    refine hr_callP (b := b + 3) G rfl (hA.lt (show 0 < hw_n0 20 by decide)) kM_125 iM_put vM_put (m_M_put _ _ _ _ _ hA hF13 (b + 2) (q3.tr q13).2 (by omega) x) rfl rfl (Nat.le_of_ble_eq_true rfl) ⟨by rw [hR]; decide, by rw [hR]; decide⟩ ⟨by rw [hR]; decide, by rw [hR]; decide⟩ dM_tag_18 (fun S18 q18 => ?_)
    have hF18 := q18.fx hF13
    refine hr_iload_n G dM_tag_21 rfl rfl ?_
    refine hr_if_le (tgt := 30) G dM_tag_22 (by decide) (fun h22 => ?_) (fun h22 => ?_)
    · skip
      refine hr_aload_n G dM_tag_30 rfl rfl ?_
      refine hr_bipush (v := 62) G dM_tag_31 (by decide) ?_
      refine hr_callP (b := b + 4) G rfl (hA.lt (show 0 < hw_n0 20 by decide)) kM_125 iM_put vM_put (m_M_put _ _ _ _ _ hA hF18 (b + 3) ((q3.tr q13).tr q18).2 (by omega) 62) rfl rfl (Nat.le_of_ble_eq_true rfl) ⟨by rw [hR]; decide, by rw [hR]; decide⟩ ⟨by rw [hR]; decide, by rw [hR]; decide⟩ dM_tag_33 (fun S33 q33 => ?_)
      have hF33 := q33.fx hF18
      exact hr_vret G hr (fun _ h => h) dM_tag_36 ⟨rfl, rfl, (((q3.tr q13).tr q18).tr q33).up (by omega), rfl⟩
    · skip
      refine hr_aload_n G dM_tag_25 rfl rfl ?_
      refine hr_iload_n G dM_tag_26 rfl rfl ?_
      refine hr_callP (b := b + 4) G rfl (hA.lt (show 0 < hw_n0 20 by decide)) kM_125 iM_put vM_put (m_M_put _ _ _ _ _ hA hF18 (b + 3) ((q3.tr q13).tr q18).2 (by omega) y) rfl rfl (Nat.le_of_ble_eq_true rfl) ⟨by rw [hR]; decide, by rw [hR]; decide⟩ ⟨by rw [hR]; decide, by rw [hR]; decide⟩ dM_tag_27 (fun S27 q27 => ?_)
      have hF27 := q27.fx hF18
      refine hr_aload_n G dM_tag_30 rfl rfl ?_
      refine hr_bipush (v := 62) G dM_tag_31 (by decide) ?_
      refine hr_callP (b := b + 5) G rfl (hA.lt (show 0 < hw_n0 20 by decide)) kM_125 iM_put vM_put (m_M_put _ _ _ _ _ hA hF27 (b + 4) (((q3.tr q13).tr q18).tr q27).2 (by omega) 62) rfl rfl (Nat.le_of_ble_eq_true rfl) ⟨by rw [hR]; decide, by rw [hR]; decide⟩ ⟨by rw [hR]; decide, by rw [hR]; decide⟩ dM_tag_33 (fun S33 q33 => ?_)
      have hF33 := q33.fx hF27
      exact hr_vret G hr (fun _ h => h) dM_tag_36 ⟨rfl, rfl, ((((q3.tr q13).tr q18).tr q27).tr q33).up (by omega), rfl⟩
set_option maxRecDepth 100000 in
set_option maxHeartbeats 1000000 in
theorem m_M_entity (l : Launch) (B : hw_B) (nb : Nat → Nat) (S : hw_St) (z : Nat) (hA : hw_al nb) (hF : hw_Fx S) (b : Nat) (hb : ∃ a, a ≤ b ∧ S 20 0 29 = nI a) (hle : b + 6 ≤ 1400) (x y u v : Int32) : hw_M l yM_entity cM_entity 5 none ({ frames := 1, cells := 0, slots := 0, locals := 21 }) B [.ref (hw_a B 20 0), .int x, .int y, .int u, .int v] nb S z (hw_pw (b + 6) nb S z) := by
  refine hw_M.of (by decide) (Nat.le_of_ble_eq_true rfl) ?_
  intro X fr hl hR G hr hnm
  refine hr_aload_n G dM_entity_0 rfl rfl ?_
  refine hr_bipush (v := 38) G dM_entity_1 (by decide) ?_
  refine hr_callP (b := b + 1) G rfl (hA.lt (show 0 < hw_n0 20 by decide)) kM_125 iM_put vM_put (m_M_put _ _ _ _ _ hA hF (b + 0) hb (by omega) 38) rfl rfl (Nat.le_of_ble_eq_true rfl) ⟨by rw [hR]; decide, by rw [hR]; decide⟩ ⟨by rw [hR]; decide, by rw [hR]; decide⟩ dM_entity_3 (fun S3 q3 => ?_)
  have hF3 := q3.fx hF
  refine hr_aload_n G dM_entity_6 rfl rfl ?_
  refine hr_iload_n G dM_entity_7 rfl rfl ?_
  refine hr_callP (b := b + 2) G rfl (hA.lt (show 0 < hw_n0 20 by decide)) kM_125 iM_put vM_put (m_M_put _ _ _ _ _ hA hF3 (b + 1) q3.2 (by omega) x) rfl rfl (Nat.le_of_ble_eq_true rfl) ⟨by rw [hR]; decide, by rw [hR]; decide⟩ ⟨by rw [hR]; decide, by rw [hR]; decide⟩ dM_entity_8 (fun S8 q8 => ?_)
  have hF8 := q8.fx hF3
  refine hr_aload_n G dM_entity_11 rfl rfl ?_
  refine hr_iload_n G dM_entity_12 rfl rfl ?_
  refine hr_callP (b := b + 3) G rfl (hA.lt (show 0 < hw_n0 20 by decide)) kM_125 iM_put vM_put (m_M_put _ _ _ _ _ hA hF8 (b + 2) (q3.tr q8).2 (by omega) y) rfl rfl (Nat.le_of_ble_eq_true rfl) ⟨by rw [hR]; decide, by rw [hR]; decide⟩ ⟨by rw [hR]; decide, by rw [hR]; decide⟩ dM_entity_13 (fun S13 q13 => ?_)
  have hF13 := q13.fx hF8
  refine hr_iload_n G dM_entity_16 rfl rfl ?_
  refine hr_if_le (tgt := 25) G dM_entity_17 (by decide) (fun h17 => ?_) (fun h17 => ?_)
  · skip
    refine hr_iload G dM_entity_25 rfl ?_
    refine hr_if_le (tgt := 36) G dM_entity_27 (by decide) (fun h27 => ?_) (fun h27 => ?_)
    · skip
      refine hr_aload_n G dM_entity_36 rfl rfl ?_
      refine hr_bipush (v := 59) G dM_entity_37 (by decide) ?_
      refine hr_callP (b := b + 4) G rfl (hA.lt (show 0 < hw_n0 20 by decide)) kM_125 iM_put vM_put (m_M_put _ _ _ _ _ hA hF13 (b + 3) ((q3.tr q8).tr q13).2 (by omega) 59) rfl rfl (Nat.le_of_ble_eq_true rfl) ⟨by rw [hR]; decide, by rw [hR]; decide⟩ ⟨by rw [hR]; decide, by rw [hR]; decide⟩ dM_entity_39 (fun S39 q39 => ?_)
      have hF39 := q39.fx hF13
      exact hr_vret G hr (fun _ h => h) dM_entity_42 ⟨rfl, rfl, (((q3.tr q8).tr q13).tr q39).up (by omega), rfl⟩
    · skip
      refine hr_aload_n G dM_entity_30 rfl rfl ?_
      refine hr_iload G dM_entity_31 rfl ?_
      refine hr_callP (b := b + 4) G rfl (hA.lt (show 0 < hw_n0 20 by decide)) kM_125 iM_put vM_put (m_M_put _ _ _ _ _ hA hF13 (b + 3) ((q3.tr q8).tr q13).2 (by omega) v) rfl rfl (Nat.le_of_ble_eq_true rfl) ⟨by rw [hR]; decide, by rw [hR]; decide⟩ ⟨by rw [hR]; decide, by rw [hR]; decide⟩ dM_entity_33 (fun S33 q33 => ?_)
      have hF33 := q33.fx hF13
      refine hr_aload_n G dM_entity_36 rfl rfl ?_
      refine hr_bipush (v := 59) G dM_entity_37 (by decide) ?_
      refine hr_callP (b := b + 5) G rfl (hA.lt (show 0 < hw_n0 20 by decide)) kM_125 iM_put vM_put (m_M_put _ _ _ _ _ hA hF33 (b + 4) (((q3.tr q8).tr q13).tr q33).2 (by omega) 59) rfl rfl (Nat.le_of_ble_eq_true rfl) ⟨by rw [hR]; decide, by rw [hR]; decide⟩ ⟨by rw [hR]; decide, by rw [hR]; decide⟩ dM_entity_39 (fun S39 q39 => ?_)
      have hF39 := q39.fx hF33
      exact hr_vret G hr (fun _ h => h) dM_entity_42 ⟨rfl, rfl, ((((q3.tr q8).tr q13).tr q33).tr q39).up (by omega), rfl⟩
  · skip
    refine hr_aload_n G dM_entity_20 rfl rfl ?_
    refine hr_iload_n G dM_entity_21 rfl rfl ?_
    refine hr_callP (b := b + 4) G rfl (hA.lt (show 0 < hw_n0 20 by decide)) kM_125 iM_put vM_put (m_M_put _ _ _ _ _ hA hF13 (b + 3) ((q3.tr q8).tr q13).2 (by omega) u) rfl rfl (Nat.le_of_ble_eq_true rfl) ⟨by rw [hR]; decide, by rw [hR]; decide⟩ ⟨by rw [hR]; decide, by rw [hR]; decide⟩ dM_entity_22 (fun S22 q22 => ?_)
    have hF22 := q22.fx hF13
    refine hr_iload G dM_entity_25 rfl ?_
    refine hr_if_le (tgt := 36) G dM_entity_27 (by decide) (fun h27 => ?_) (fun h27 => ?_)
    · skip
      refine hr_aload_n G dM_entity_36 rfl rfl ?_
      refine hr_bipush (v := 59) G dM_entity_37 (by decide) ?_
      refine hr_callP (b := b + 5) G rfl (hA.lt (show 0 < hw_n0 20 by decide)) kM_125 iM_put vM_put (m_M_put _ _ _ _ _ hA hF22 (b + 4) (((q3.tr q8).tr q13).tr q22).2 (by omega) 59) rfl rfl (Nat.le_of_ble_eq_true rfl) ⟨by rw [hR]; decide, by rw [hR]; decide⟩ ⟨by rw [hR]; decide, by rw [hR]; decide⟩ dM_entity_39 (fun S39 q39 => ?_)
      have hF39 := q39.fx hF22
      exact hr_vret G hr (fun _ h => h) dM_entity_42 ⟨rfl, rfl, ((((q3.tr q8).tr q13).tr q22).tr q39).up (by omega), rfl⟩
    · skip
      refine hr_aload_n G dM_entity_30 rfl rfl ?_
      refine hr_iload G dM_entity_31 rfl ?_
      refine hr_callP (b := b + 5) G rfl (hA.lt (show 0 < hw_n0 20 by decide)) kM_125 iM_put vM_put (m_M_put _ _ _ _ _ hA hF22 (b + 4) (((q3.tr q8).tr q13).tr q22).2 (by omega) v) rfl rfl (Nat.le_of_ble_eq_true rfl) ⟨by rw [hR]; decide, by rw [hR]; decide⟩ ⟨by rw [hR]; decide, by rw [hR]; decide⟩ dM_entity_33 (fun S33 q33 => ?_)
      have hF33 := q33.fx hF22
      refine hr_aload_n G dM_entity_36 rfl rfl ?_
      refine hr_bipush (v := 59) G dM_entity_37 (by decide) ?_
      refine hr_callP (b := b + 6) G rfl (hA.lt (show 0 < hw_n0 20 by decide)) kM_125 iM_put vM_put (m_M_put _ _ _ _ _ hA hF33 (b + 5) ((((q3.tr q8).tr q13).tr q22).tr q33).2 (by omega) 59) rfl rfl (Nat.le_of_ble_eq_true rfl) ⟨by rw [hR]; decide, by rw [hR]; decide⟩ ⟨by rw [hR]; decide, by rw [hR]; decide⟩ dM_entity_39 (fun S39 q39 => ?_)
      have hF39 := q39.fx hF33
      exact hr_vret G hr (fun _ h => h) dM_entity_42 ⟨rfl, rfl, (((((q3.tr q8).tr q13).tr q22).tr q33).tr q39).up (by omega), rfl⟩
theorem pg_r.dg {b : Nat} {S S1 : hw_St} {j : Nat} {v : Int32} (h : pg_r b S S1) : pg_r b S (hw_sv S1 44 0 j v) := ⟨fun k i j' h1 h2 h3 => by unfold hw_sv; rw [if_neg (fun e => h2 e.1)]; exact h.1 k i j' h1 h2 h3, h.2⟩
set_option maxRecDepth 100000 in
set_option maxHeartbeats 1000000 in
theorem m_M_number (l : Launch) (B : hw_B) (nb : Nat → Nat) (S : hw_St) (z : Nat) (hA : hw_al nb) (hF : hw_Fx S) (b : Nat) (hb : ∃ a, a ≤ b ∧ S 20 0 29 = nI a) (hle : b + 12 ≤ 1400) (x : Int32) : hw_M l yM_number cM_number 6 none ({ frames := 1, cells := 0, slots := 0, locals := 21 }) B [.ref (hw_a B 20 0), .int x] nb S z (hw_pw (b + 12) nb S z) := by
  refine hw_M.of (by decide) (Nat.le_of_ble_eq_true rfl) ?_
  intro X fr hl hR G hr hnm
  have L84 : ∀ (n j : Nat) (S1 : hw_St), n ≤ 11 → j ≤ n → pg_r (b + 1 + (n - j)) S S1 → hw_V X B fr nb S1 z 0 0 (hw_MQ X B fr (hw_pw (b + 12) nb S z) 0 0) 6 84 [(0, .ref (hw_a B 20 0)), (5, .int (nI j - 1))] [] := by
    intro n j
    induction j with
    | zero =>
      intro S1 hn hj h1
      have hF1 := h1.fx hF
      refine hr_iload G dM_number_84 rfl ?_
      refine hr_if_lt (tgt := 109) G dM_number_86 (by decide) (fun _ => ?_) (fun h => absurd (show nI 0 - 1 < 0 by decide) h)
      exact hr_vret G hr (fun _ h => h) dM_number_109 ⟨rfl, rfl, h1.up (by omega), rfl⟩
    | succ j ih =>
      intro S1 hn hj h1
      have hF1 := h1.fx hF
      rw [nI_pred]
      refine hr_iload G dM_number_84 rfl ?_
      refine hr_if_lt (tgt := 109) G dM_number_86 (by decide) (fun h => absurd h (nI_pos (by omega))) (fun _ => ?_)
      refine hr_aload_n G dM_number_89 rfl rfl ?_
      refine hr_bipush (v := 48) G dM_number_90 (by decide) ?_
      refine hr_aload_n G dM_number_92 rfl rfl ?_
      refine hr_get (v := .ref (hw_a B 44 0)) G fM_84 (hA.lt (show 0 < hw_n0 20 by decide)) (hw_rfx hF1 (by decide) rfl (by decide)) dM_number_93 ?_
      refine hr_iload G dM_number_96 rfl ?_
      refine hr_iald (n := j) (v := .int (S1 44 0 j)) G rfl (by decide) rfl (hA.lt (show 0 < hw_n0 44 by decide)) rfl (show j < 12 by omega) rfl dM_number_98 ?_
      refine hr_iadd G dM_number_99 ?_
      refine hr_callP (b := (b + 1 + (n - (j + 1))) + 1) G rfl (hA.lt (show 0 < hw_n0 20 by decide)) kM_125 iM_put vM_put (m_M_put _ _ _ _ _ hA hF1 ((b + 1 + (n - (j + 1))) + 0) h1.2 (by omega) (48 + (S1 44 0 j))) rfl rfl (Nat.le_of_ble_eq_true rfl) ⟨by rw [hR]; decide, by rw [hR]; decide⟩ ⟨by rw [hR]; decide, by rw [hR]; decide⟩ dM_number_100 (fun S100 q100 => ?_)
      have hF100 := q100.fx hF1
      refine hr_iinc (v := nI j - 1) G dM_number_103 rfl (by rw [Int32.sub_eq_add_neg]; rfl) (by decide) ?_
      refine hr_goto (tgt := 84) G dM_number_106 (by decide) ?_
      refine hr_L (L' := [(0, .ref (hw_a B 20 0)), (5, .int (nI j - 1))]) (hw_s1 rfl (hw_s1 rfl (hw_s0))) ?_
      exact ih _ hn (by omega) ((h1.tr q100).up (by omega))
  have K78 : ∀ (n : Nat) (S1 : hw_St), n ≤ 11 → pg_r (b + 1) S S1 → hw_V X B fr nb S1 z 0 0 (hw_MQ X B fr (hw_pw (b + 12) nb S z) 0 0) 6 78 [(0, .ref (hw_a B 20 0)), (4, .int (nI n))] [] := by
    intro n S1 hn h1
    have hF1 := h1.fx hF
    refine hr_iload G dM_number_78 rfl ?_
    refine hr_iconst (v := 1) G dM_number_80 (by decide) ?_
    refine hr_isub G dM_number_81 ?_
    refine hr_istore (i := 5) G dM_number_82 (by decide) ?_
    refine hr_L (L' := [(0, .ref (hw_a B 20 0)), (5, .int (nI n - 1))]) (hw_s1 rfl (hw_s1 rfl (hw_s0))) ?_
    exact L84 n n _ hn (Nat.le_refl _) (h1.up (by omega))
  have K68 : ∀ (n : Nat) (S1 : hw_St), n ≤ 11 → pg_r b S S1 → hw_V X B fr nb S1 z 0 0 (hw_MQ X B fr (hw_pw (b + 12) nb S z) 0 0) 6 68 [(0, .ref (hw_a B 20 0)), (1, .int x), (4, .int (nI n))] [] := by
    intro n S1 hn h1
    have hF1 := h1.fx hF
    refine hr_iload_n G dM_number_68 rfl rfl ?_
    refine hr_if_ge (tgt := 78) G dM_number_69 (by decide) (fun h69 => ?_) (fun h69 => ?_)
    · skip
      refine hr_L (L' := [(0, .ref (hw_a B 20 0)), (4, .int (nI n))]) (hw_s1 rfl (hw_s1 rfl (hw_s0))) ?_
      exact K78 n _ hn (h1.up (by omega))
    · skip
      refine hr_aload_n G dM_number_72 rfl rfl ?_
      refine hr_bipush (v := 45) G dM_number_73 (by decide) ?_
      refine hr_callP (b := b + 1) G rfl (hA.lt (show 0 < hw_n0 20 by decide)) kM_125 iM_put vM_put (m_M_put _ _ _ _ _ hA hF1 (b + 0) h1.2 (by omega) 45) rfl rfl (Nat.le_of_ble_eq_true rfl) ⟨by rw [hR]; decide, by rw [hR]; decide⟩ ⟨by rw [hR]; decide, by rw [hR]; decide⟩ dM_number_75 (fun S75 q75 => ?_)
      have hF75 := q75.fx hF1
      refine hr_L (L' := [(0, .ref (hw_a B 20 0)), (4, .int (nI n))]) (hw_s1 rfl (hw_s1 rfl (hw_s0))) ?_
      exact K78 n _ hn ((h1.tr q75).up (by omega))
  have L19 : ∀ (m k n : Nat) (y : Int64) (S1 : hw_St), pg_r b S S1 → 11 - k = m → k ≤ 11 → n ≤ 11 → hw_V X B fr nb S1 z 0 0 (hw_MQ X B fr (hw_pw (b + 12) nb S z) 0 0) 6 19 [(0, .ref (hw_a B 20 0)), (1, .int x), (2, .long y), (4, .int (nI n)), (5, .int (nI k))] [] := by
    intro m
    induction m with
    | zero =>
      intro k n y S1 h1 hm hk hn
      obtain rfl : k = 11 := by omega
      have hF1 := h1.fx hF
      refine hr_iload G dM_number_19 rfl ?_
      refine hr_bipush (v := 11) G dM_number_21 (by decide) ?_
      refine hr_icmp_ge (tgt := 68) G dM_number_23 (by decide) (fun _ => ?_) (fun h => absurd (show (11 : Int32) ≤ nI 11 by decide) h)
      refine hr_L (L' := [(0, .ref (hw_a B 20 0)), (1, .int x), (4, .int (nI n))]) (hw_s1 rfl (hw_s1 rfl (hw_s1 rfl (hw_s0)))) ?_
      exact K68 n _ hn h1
    | succ m ih =>
      intro k n y S1 h1 hm hk hn
      have hF1 := h1.fx hF
      refine hr_iload G dM_number_19 rfl ?_
      refine hr_bipush (v := 11) G dM_number_21 (by decide) ?_
      refine hr_icmp_ge (tgt := 68) G dM_number_23 (by decide) (fun h => absurd h (show ¬ (11 : Int32) ≤ nI k from nI_ge (b := 11) (by omega) (by decide))) (fun _ => ?_)
      refine hr_iload G dM_number_26 rfl ?_
      refine hr_if_eq (tgt := 37) G dM_number_28 (by decide) (fun h28 => ?_) (fun h28 => ?_)
      · skip
        refine hr_aload_n G dM_number_37 rfl rfl ?_
        refine hr_get (v := .ref (hw_a B 44 0)) G fM_84 (hA.lt (show 0 < hw_n0 20 by decide)) (hw_rfx hF1 (by decide) rfl (by decide)) dM_number_38 ?_
        refine hr_iload G dM_number_41 rfl ?_
        refine hr_lload_n G dM_number_43 rfl rfl ?_
        refine hr_ldc2 G c2M dM_number_44 ?_
        refine hr_lrem G dM_number_47 (by decide) ?_
        refine hr_l2i G dM_number_48 ?_
        refine hr_iast (n := k) (y := ((y - y / (10 : Int64) * (10 : Int64)).toInt32)) G rfl (by decide) rfl (hA.lt (show 0 < hw_n0 44 by decide)) rfl (show k < 12 by omega) rfl dM_number_49 ?_
        refine hr_lload_n G dM_number_50 rfl rfl ?_
        refine hr_ldc2 G c2M dM_number_51 ?_
        refine hr_ldiv G dM_number_54 (by decide) ?_
        refine hr_lstore_n (i := 2) G dM_number_55 rfl (by decide) ?_
        refine hr_iload G dM_number_56 rfl ?_
        refine hr_iconst (v := 1) G dM_number_58 (by decide) ?_
        refine hr_iadd G dM_number_59 ?_
        refine hr_istore (i := 4) G dM_number_60 (by decide) ?_
        refine hr_iinc (v := nI (k + 1)) G dM_number_62 rfl (nI_succ k).symm (by decide) ?_
        refine hr_goto (tgt := 19) G dM_number_65 (by decide) ?_
        rw [show nI k + 1 = nI (k + 1) from (nI_succ k).symm]
        refine hr_L (L' := [(0, .ref (hw_a B 20 0)), (1, .int x), (2, .long (y / 10)), (4, .int (nI (k + 1))), (5, .int (nI (k + 1)))]) (hw_s1 rfl (hw_s1 rfl (hw_s1 rfl (hw_s1 rfl (hw_s1 rfl (hw_s0)))))) ?_
        exact ih (k + 1) (k + 1) (y / 10) _ h1.dg (by omega) (by omega) (by omega)
      · skip
        refine hr_lload_n G dM_number_31 rfl rfl ?_
        refine hr_lconst (v := 0) G dM_number_32 (by decide) ?_
        refine hr_lcmp G dM_number_33 ?_
        refine hr_if_le (tgt := 68) G dM_number_34 (by decide) (fun h34 => ?_) (fun h34 => ?_)
        · skip
          refine hr_L (L' := [(0, .ref (hw_a B 20 0)), (1, .int x), (4, .int (nI n))]) (hw_s1 rfl (hw_s1 rfl (hw_s1 rfl (hw_s0)))) ?_
          exact K68 n _ hn h1
        · skip
          refine hr_aload_n G dM_number_37 rfl rfl ?_
          refine hr_get (v := .ref (hw_a B 44 0)) G fM_84 (hA.lt (show 0 < hw_n0 20 by decide)) (hw_rfx hF1 (by decide) rfl (by decide)) dM_number_38 ?_
          refine hr_iload G dM_number_41 rfl ?_
          refine hr_lload_n G dM_number_43 rfl rfl ?_
          refine hr_ldc2 G c2M dM_number_44 ?_
          refine hr_lrem G dM_number_47 (by decide) ?_
          refine hr_l2i G dM_number_48 ?_
          refine hr_iast (n := k) (y := ((y - y / (10 : Int64) * (10 : Int64)).toInt32)) G rfl (by decide) rfl (hA.lt (show 0 < hw_n0 44 by decide)) rfl (show k < 12 by omega) rfl dM_number_49 ?_
          refine hr_lload_n G dM_number_50 rfl rfl ?_
          refine hr_ldc2 G c2M dM_number_51 ?_
          refine hr_ldiv G dM_number_54 (by decide) ?_
          refine hr_lstore_n (i := 2) G dM_number_55 rfl (by decide) ?_
          refine hr_iload G dM_number_56 rfl ?_
          refine hr_iconst (v := 1) G dM_number_58 (by decide) ?_
          refine hr_iadd G dM_number_59 ?_
          refine hr_istore (i := 4) G dM_number_60 (by decide) ?_
          refine hr_iinc (v := nI (k + 1)) G dM_number_62 rfl (nI_succ k).symm (by decide) ?_
          refine hr_goto (tgt := 19) G dM_number_65 (by decide) ?_
          rw [show nI k + 1 = nI (k + 1) from (nI_succ k).symm]
          refine hr_L (L' := [(0, .ref (hw_a B 20 0)), (1, .int x), (2, .long (y / 10)), (4, .int (nI (k + 1))), (5, .int (nI (k + 1)))]) (hw_s1 rfl (hw_s1 rfl (hw_s1 rfl (hw_s1 rfl (hw_s1 rfl (hw_s0)))))) ?_
          exact ih (k + 1) (k + 1) (y / 10) _ h1.dg (by omega) (by omega) (by omega)
  refine hr_iload_n G dM_number_0 rfl rfl ?_
  refine hr_if_ge (tgt := 10) G dM_number_1 (by decide) (fun h1 => ?_) (fun h1 => ?_)
  · skip
    refine hr_iload_n G dM_number_10 rfl rfl ?_
    refine hr_i2l G dM_number_11 ?_
    refine hr_lstore_n (i := 2) G dM_number_12 rfl (by decide) ?_
    refine hr_iconst (v := 0) G dM_number_13 (by decide) ?_
    refine hr_istore (i := 4) G dM_number_14 (by decide) ?_
    refine hr_iconst (v := 0) G dM_number_16 (by decide) ?_
    refine hr_istore (i := 5) G dM_number_17 (by decide) ?_
    refine hr_L (L' := [(0, .ref (hw_a B 20 0)), (1, .int x), (2, .long (x.toInt64)), (4, .int (nI 0)), (5, .int (nI 0))]) (hw_s1 rfl (hw_s1 rfl (hw_s1 rfl (hw_s1 rfl (hw_s1 rfl (hw_s0)))))) ?_
    exact L19 _ 0 0 (x.toInt64) S (pg_r.rf hb) rfl (by omega) (by omega)
  · skip
    refine hr_iload_n G dM_number_4 rfl rfl ?_
    refine hr_i2l G dM_number_5 ?_
    refine hr_lneg G dM_number_6 ?_
    refine hr_goto (tgt := 12) G dM_number_7 (by decide) ?_
    refine hr_lstore_n (i := 2) G dM_number_12 rfl (by decide) ?_
    refine hr_iconst (v := 0) G dM_number_13 (by decide) ?_
    refine hr_istore (i := 4) G dM_number_14 (by decide) ?_
    refine hr_iconst (v := 0) G dM_number_16 (by decide) ?_
    refine hr_istore (i := 5) G dM_number_17 (by decide) ?_
    refine hr_L (L' := [(0, .ref (hw_a B 20 0)), (1, .int x), (2, .long (-(x.toInt64))), (4, .int (nI 0)), (5, .int (nI 0))]) (hw_s1 rfl (hw_s1 rfl (hw_s1 rfl (hw_s1 rfl (hw_s1 rfl (hw_s0)))))) ?_
    exact L19 _ 0 0 (-(x.toInt64)) S (pg_r.rf hb) rfl (by omega) (by omega)
theorem nI_mul (a b : Nat) : nI a * nI b = nI (a * b) := (Int32.ofNat_mul a b).symm
theorem nI_d10 {j : Nat} (h : j < 10) : (nI j).toInt64 / 10 = 0 := by
  rcases (show j = 0 ∨ j = 1 ∨ j = 2 ∨ j = 3 ∨ j = 4 ∨ j = 5 ∨ j = 6 ∨ j = 7 ∨ j = 8 ∨ j = 9 by omega) with rfl | rfl | rfl | rfl | rfl | rfl | rfl | rfl | rfl | rfl <;> decide
set_option maxRecDepth 100000 in
set_option maxHeartbeats 1000000 in
theorem m_M_number1 (l : Launch) (B : hw_B) (nb : Nat → Nat) (S : hw_St) (z : Nat) (hA : hw_al nb) (hF : hw_Fx S) (b : Nat) (hb : ∃ a, a ≤ b ∧ S 20 0 29 = nI a) (hle : b + 1 ≤ 1400) (j : Nat) (hj : j < 10) : hw_M l yM_number cM_number 6 none ({ frames := 1, cells := 0, slots := 0, locals := 21 }) B [.ref (hw_a B 20 0), .int (nI j)] nb S z (hw_pw (b + 1) nb S z) := by
  refine hw_M.of (by decide) (Nat.le_of_ble_eq_true rfl) ?_
  intro X fr hl hR G hr hnm
  refine hr_iload_n G dM_number_0 rfl rfl ?_
  refine hr_if_ge (tgt := 10) G dM_number_1 (by decide) (fun _ => ?_) (fun h => absurd (nI_pos' (by omega)) h)
  refine hr_iload_n G dM_number_10 rfl rfl ?_
  refine hr_i2l G dM_number_11 ?_
  refine hr_lstore_n (i := 2) G dM_number_12 rfl (by decide) ?_
  refine hr_iconst (v := 0) G dM_number_13 (by decide) ?_
  refine hr_istore (i := 4) G dM_number_14 (by decide) ?_
  refine hr_iconst (v := 0) G dM_number_16 (by decide) ?_
  refine hr_istore (i := 5) G dM_number_17 (by decide) ?_
  refine hr_iload G dM_number_19 rfl ?_
  refine hr_bipush (v := 11) G dM_number_21 (by decide) ?_
  refine hr_icmp_ge (tgt := 68) G dM_number_23 (by decide) (fun h => absurd h (by decide)) (fun _ => ?_)
  refine hr_iload G dM_number_26 rfl ?_
  refine hr_if_eq (tgt := 37) G dM_number_28 (by decide) (fun _ => ?_) (fun h => absurd (by decide) h)
  refine hr_aload_n G dM_number_37 rfl rfl ?_
  refine hr_get (v := .ref (hw_a B 44 0)) G fM_84 (hA.lt (show 0 < hw_n0 20 by decide)) (hw_rfx hF (by decide) rfl (by decide)) dM_number_38 ?_
  refine hr_iload G dM_number_41 rfl ?_
  refine hr_lload_n G dM_number_43 rfl rfl ?_
  refine hr_ldc2 G c2M dM_number_44 ?_
  refine hr_lrem G dM_number_47 (by decide) ?_
  refine hr_l2i G dM_number_48 ?_
  refine hr_iast (n := 0) (y := ((((nI j).toInt64) - ((nI j).toInt64) / (10 : Int64) * (10 : Int64)).toInt32)) G rfl (by decide) rfl (hA.lt (show 0 < hw_n0 44 by decide)) (by decide) (by decide) rfl dM_number_49 ?_
  refine hr_lload_n G dM_number_50 rfl rfl ?_
  refine hr_ldc2 G c2M dM_number_51 ?_
  refine hr_ldiv G dM_number_54 (by decide) ?_
  refine hr_lstore_n (i := 2) G dM_number_55 rfl (by decide) ?_
  refine hr_iload G dM_number_56 rfl ?_
  refine hr_iconst (v := 1) G dM_number_58 (by decide) ?_
  refine hr_iadd G dM_number_59 ?_
  refine hr_istore (i := 4) G dM_number_60 (by decide) ?_
  refine hr_iinc (v := 1) G dM_number_62 rfl (by decide) (by decide) ?_
  refine hr_goto (tgt := 19) G dM_number_65 (by decide) ?_
  refine hr_iload G dM_number_19 rfl ?_
  refine hr_bipush (v := 11) G dM_number_21 (by decide) ?_
  refine hr_icmp_ge (tgt := 68) G dM_number_23 (by decide) (fun h => absurd h (by decide)) (fun _ => ?_)
  refine hr_iload G dM_number_26 rfl ?_
  refine hr_if_eq (tgt := 37) G dM_number_28 (by decide) (fun h => absurd h (by decide)) (fun _ => ?_)
  refine hr_lload_n G dM_number_31 rfl rfl ?_
  refine hr_lconst (v := 0) G dM_number_32 (by decide) ?_
  refine hr_lcmp G dM_number_33 ?_
  refine hr_if_le (tgt := 68) G dM_number_34 (by decide) (fun _ => ?_) (fun h => absurd (show lg_cmp ((nI j).toInt64 / 10) 0 ≤ 0 by rw [nI_d10 hj]; decide) h)
  refine hr_iload_n G dM_number_68 rfl rfl ?_
  refine hr_if_ge (tgt := 78) G dM_number_69 (by decide) (fun _ => ?_) (fun h => absurd (nI_pos' (by omega)) h)
  refine hr_iload G dM_number_78 rfl ?_
  refine hr_iconst (v := 1) G dM_number_80 (by decide) ?_
  refine hr_isub G dM_number_81 ?_
  refine hr_istore (i := 5) G dM_number_82 (by decide) ?_
  refine hr_iload G dM_number_84 rfl ?_
  refine hr_if_lt (tgt := 109) G dM_number_86 (by decide) (fun h => absurd h (by decide)) (fun _ => ?_)
  refine hr_aload_n G dM_number_89 rfl rfl ?_
  refine hr_bipush (v := 48) G dM_number_90 (by decide) ?_
  refine hr_aload_n G dM_number_92 rfl rfl ?_
  refine hr_get (v := .ref (hw_a B 44 0)) G fM_84 (hA.lt (show 0 < hw_n0 20 by decide)) (hw_rfx (hF.sv rfl) (by decide) rfl (by decide)) dM_number_93 ?_
  refine hr_iload G dM_number_96 rfl ?_
  refine hr_iald (n := 0) (v := .int ((hw_sv S 44 0 0 ((((nI j).toInt64) - ((nI j).toInt64) / (10 : Int64) * (10 : Int64)).toInt32)) 44 0 0)) G rfl (by decide) rfl (hA.lt (show 0 < hw_n0 44 by decide)) (by decide) (by decide) rfl dM_number_98 ?_
  refine hr_iadd G dM_number_99 ?_
  refine hr_callP (b := b + 1) G rfl (hA.lt (show 0 < hw_n0 20 by decide)) kM_125 iM_put vM_put (m_M_put _ _ _ _ _ hA (hF.sv rfl) (b + 0) ((pg_r.rf (b := b + 0) hb).dg (j := 0)).2 (by omega) (48 + ((hw_sv S 44 0 0 ((((nI j).toInt64) - ((nI j).toInt64) / (10 : Int64) * (10 : Int64)).toInt32)) 44 0 0))) rfl rfl (Nat.le_of_ble_eq_true rfl) ⟨by rw [hR]; decide, by rw [hR]; decide⟩ ⟨by rw [hR]; decide, by rw [hR]; decide⟩ dM_number_100 (fun S100 q100 => ?_)
  have hF100 := q100.fx (hF.sv rfl)
  refine hr_iinc (v := (((0 + 1) - 1) + (-1))) G dM_number_103 rfl rfl (by decide) ?_
  refine hr_goto (tgt := 84) G dM_number_106 (by decide) ?_
  refine hr_iload G dM_number_84 rfl ?_
  refine hr_if_lt (tgt := 109) G dM_number_86 (by decide) (fun _ => ?_) (fun h => absurd (by decide) h)
  exact hr_vret G hr (fun _ h => h) dM_number_109 ⟨rfl, rfl, (((pg_r.rf hb).dg).tr q100), rfl⟩
set_option maxRecDepth 100000 in
set_option maxHeartbeats 1000000 in
theorem m_M_letters (l : Launch) (B : hw_B) (nb : Nat → Nat) (S : hw_St) (z : Nat) (hA : hw_al nb) (hF : hw_Fx S) (b : Nat) (hb : ∃ a, a ≤ b ∧ S 20 0 29 = nI a) (hle : b + 48 ≤ 1400) (t n : Nat) (ht : t < 16) (hn : n ≤ 8) (hl : S 23 0 t = nI n) : hw_M l yM_letters cM_letters 4 none ({ frames := 2, cells := 0, slots := 0, locals := 45 }) B [.ref (hw_a B 20 0), .int (nI t)] nb S z (hw_pw (b + 48) nb S z) := by
  refine hw_M.of (by decide) (Nat.le_of_ble_eq_true rfl) ?_
  intro X fr hl0 hR G hr hnm
  suffices H : ∀ (m i : Nat) (S1 : hw_St), pg_r (b + 6 * i) S S1 → n - i = m → i ≤ n → hw_V X B fr nb S1 z 0 0 (hw_MQ X B fr (hw_pw (b + 48) nb S z) 0 0) 4 5 [(0, .ref (hw_a B 20 0)), (1, .int (nI t)), (2, .int (nI (8 * t + i)))] [] by
    refine hr_bipush (v := 8) G dM_letters_0 (by decide) ?_
    refine hr_iload_n G dM_letters_2 rfl rfl ?_
    refine hr_imul G dM_letters_3 ?_
    refine hr_istore_n (i := 2) G dM_letters_4 rfl (by decide) ?_
    rw [show (8 : Int32) * nI t = nI (8 * t + 0) from nI_mul 8 t]
    refine hr_L (L' := [(0, .ref (hw_a B 20 0)), (1, .int (nI t)), (2, .int (nI (8 * t + 0)))]) (hw_s1 rfl (hw_s1 rfl (hw_s1 rfl (hw_s0)))) ?_
    exact H _ 0 S (pg_r.rf hb) rfl (Nat.zero_le _)
  intro m
  induction m with
  | zero =>
    intro i S1 h1 hm hi
    obtain rfl : i = n := by omega
    have hF1 := h1.fx hF
    have e5 : ((8 * (nI t)) + (S1 23 0 t)) = nI (8 * t + i) := by rw [h1.1 23 0 t (by decide) (by decide) (by omega), hl, ← nI_add]; rw [← nI_mul]; rfl
    refine hr_iload_n G dM_letters_5 rfl rfl ?_
    refine hr_bipush (v := 8) G dM_letters_6 (by decide) ?_
    refine hr_iload_n G dM_letters_8 rfl rfl ?_
    refine hr_imul G dM_letters_9 ?_
    refine hr_aload_n G dM_letters_10 rfl rfl ?_
    refine hr_get (v := .ref (hw_a B 23 0)) G fM_16 (hA.lt (show 0 < hw_n0 20 by decide)) (hw_rfx hF1 (by decide) rfl (by decide)) dM_letters_11 ?_
    refine hr_iload_n G dM_letters_14 rfl rfl ?_
    refine hr_iald (n := t) (v := .int (S1 23 0 t)) G rfl (by decide) rfl (hA.lt (show 0 < hw_n0 23 by decide)) rfl (show t < 16 from ht) rfl dM_letters_15 ?_
    refine hr_iadd G dM_letters_16 ?_
    refine hr_icmp_ge (tgt := 117) G dM_letters_17 (by decide) (fun _ => ?_) (fun h => absurd (show ((8 * (nI t)) + (S1 23 0 t)) ≤ nI (8 * t + i) by rw [e5]; exact nI_le (by omega) (by omega)) h)
    exact hr_vret G hr (fun _ h => h) dM_letters_117 ⟨rfl, rfl, h1.up (by omega), rfl⟩
  | succ m ih =>
    intro i S1 h1 hm hi
    have hF1 := h1.fx hF
    have e5 : ((8 * (nI t)) + (S1 23 0 t)) = nI (8 * t + n) := by rw [h1.1 23 0 t (by decide) (by decide) (by omega), hl, ← nI_add]; rw [← nI_mul]; rfl
    have K111 : ∀ S2, pg_r (b + 6 * (i + 1)) S S2 → hw_V X B fr nb S2 z 0 0 (hw_MQ X B fr (hw_pw (b + 48) nb S z) 0 0) 4 111 [(0, .ref (hw_a B 20 0)), (1, .int (nI t)), (2, .int (nI (8 * t + i)))] [] := by
      intro S2 h2
      refine hr_iinc (v := nI (8 * t + (i + 1))) G dM_letters_111 rfl (nI_succ (8 * t + i)).symm (by decide) ?_
      refine hr_goto (tgt := 5) G dM_letters_114 (by decide) ?_
      refine hr_L (L' := [(0, .ref (hw_a B 20 0)), (1, .int (nI t)), (2, .int (nI (8 * t + (i + 1))))]) (hw_s1 rfl (hw_s1 rfl (hw_s1 rfl (hw_s0)))) ?_
      exact ih (i + 1) S2 h2 (by omega) (by omega)
    refine hr_iload_n G dM_letters_5 rfl rfl ?_
    refine hr_bipush (v := 8) G dM_letters_6 (by decide) ?_
    refine hr_iload_n G dM_letters_8 rfl rfl ?_
    refine hr_imul G dM_letters_9 ?_
    refine hr_aload_n G dM_letters_10 rfl rfl ?_
    refine hr_get (v := .ref (hw_a B 23 0)) G fM_16 (hA.lt (show 0 < hw_n0 20 by decide)) (hw_rfx hF1 (by decide) rfl (by decide)) dM_letters_11 ?_
    refine hr_iload_n G dM_letters_14 rfl rfl ?_
    refine hr_iald (n := t) (v := .int (S1 23 0 t)) G rfl (by decide) rfl (hA.lt (show 0 < hw_n0 23 by decide)) rfl (show t < 16 from ht) rfl dM_letters_15 ?_
    refine hr_iadd G dM_letters_16 ?_
    refine hr_icmp_ge (tgt := 117) G dM_letters_17 (by decide) (fun h => absurd h (show ¬ ((8 * (nI t)) + (S1 23 0 t)) ≤ nI (8 * t + i) by rw [e5]; exact nI_ge (by omega) (by omega))) (fun _ => ?_)
    refine hr_aload_n G dM_letters_20 rfl rfl ?_
    refine hr_get (v := .ref (hw_a B 22 0)) G fM_13 (hA.lt (show 0 < hw_n0 20 by decide)) (hw_rfx hF1 (by decide) rfl (by decide)) dM_letters_21 ?_
    refine hr_iload_n G dM_letters_24 rfl rfl ?_
    refine hr_iald (n := (8 * t + i)) (v := .int (S1 22 0 (8 * t + i))) G rfl (by decide) rfl (hA.lt (show 0 < hw_n0 22 by decide)) rfl (show 8 * t + i < 128 by omega) rfl dM_letters_25 ?_
    refine hr_istore_n (i := 3) G dM_letters_26 rfl (by decide) ?_
    refine hr_iload_n G dM_letters_27 rfl rfl ?_
    refine hr_bipush (v := 38) G dM_letters_28 (by decide) ?_
    refine hr_icmp_ne (tgt := 47) G dM_letters_30 (by decide) (fun h30 => ?_) (fun h30 => ?_)
    · skip
      refine hr_iload_n G dM_letters_47 rfl rfl ?_
      refine hr_bipush (v := 60) G dM_letters_48 (by decide) ?_
      refine hr_icmp_ne (tgt := 66) G dM_letters_50 (by decide) (fun h50 => ?_) (fun h50 => ?_)
      · skip
        refine hr_iload_n G dM_letters_66 rfl rfl ?_
        refine hr_bipush (v := 62) G dM_letters_67 (by decide) ?_
        refine hr_icmp_ne (tgt := 85) G dM_letters_69 (by decide) (fun h69 => ?_) (fun h69 => ?_)
        · skip
          refine hr_iload_n G dM_letters_85 rfl rfl ?_
          refine hr_bipush (v := 34) G dM_letters_86 (by decide) ?_
          refine hr_icmp_ne (tgt := 106) G dM_letters_88 (by decide) (fun h88 => ?_) (fun h88 => ?_)
          · skip
            refine hr_aload_n G dM_letters_106 rfl rfl ?_
            refine hr_iload_n G dM_letters_107 rfl rfl ?_
            refine hr_callP (b := (b + 6 * i) + 1) G rfl (hA.lt (show 0 < hw_n0 20 by decide)) kM_125 iM_put vM_put (m_M_put _ _ _ _ _ hA hF1 ((b + 6 * i) + 0) h1.2 (by omega) (S1 22 0 (8 * t + i))) rfl rfl (Nat.le_of_ble_eq_true rfl) ⟨by rw [hR]; decide, by rw [hR]; decide⟩ ⟨by rw [hR]; decide, by rw [hR]; decide⟩ dM_letters_108 (fun S108 q108 => ?_)
            have hF108 := q108.fx hF1
            refine hr_L (L' := [(0, .ref (hw_a B 20 0)), (1, .int (nI t)), (2, .int (nI (8 * t + i)))]) (hw_s1 rfl (hw_s1 rfl (hw_s1 rfl (hw_s0)))) ?_
            exact K111 _ ((h1.tr q108).up (by omega))
          · skip
            refine hr_aload_n G dM_letters_91 rfl rfl ?_
            refine hr_bipush (v := 113) G dM_letters_92 (by decide) ?_
            refine hr_bipush (v := 117) G dM_letters_94 (by decide) ?_
            refine hr_bipush (v := 111) G dM_letters_96 (by decide) ?_
            refine hr_bipush (v := 116) G dM_letters_98 (by decide) ?_
            refine hr_callP (b := (b + 6 * i) + 6) G rfl (hA.lt (show 0 < hw_n0 20 by decide)) kM_131 iM_entity vM_entity (m_M_entity _ _ _ _ _ hA hF1 ((b + 6 * i) + 0) h1.2 (by omega) 113 117 111 116) rfl rfl (Nat.le_of_ble_eq_true rfl) ⟨by rw [hR]; decide, by rw [hR]; decide⟩ ⟨by rw [hR]; decide, by rw [hR]; decide⟩ dM_letters_100 (fun S100 q100 => ?_)
            have hF100 := q100.fx hF1
            refine hr_goto (tgt := 111) G dM_letters_103 (by decide) ?_
            refine hr_L (L' := [(0, .ref (hw_a B 20 0)), (1, .int (nI t)), (2, .int (nI (8 * t + i)))]) (hw_s1 rfl (hw_s1 rfl (hw_s1 rfl (hw_s0)))) ?_
            exact K111 _ ((h1.tr q100).up (by omega))
        · skip
          refine hr_aload_n G dM_letters_72 rfl rfl ?_
          refine hr_bipush (v := 103) G dM_letters_73 (by decide) ?_
          refine hr_bipush (v := 116) G dM_letters_75 (by decide) ?_
          refine hr_iconst (v := 0) G dM_letters_77 (by decide) ?_
          refine hr_iconst (v := 0) G dM_letters_78 (by decide) ?_
          refine hr_callP (b := (b + 6 * i) + 6) G rfl (hA.lt (show 0 < hw_n0 20 by decide)) kM_131 iM_entity vM_entity (m_M_entity _ _ _ _ _ hA hF1 ((b + 6 * i) + 0) h1.2 (by omega) 103 116 0 0) rfl rfl (Nat.le_of_ble_eq_true rfl) ⟨by rw [hR]; decide, by rw [hR]; decide⟩ ⟨by rw [hR]; decide, by rw [hR]; decide⟩ dM_letters_79 (fun S79 q79 => ?_)
          have hF79 := q79.fx hF1
          refine hr_goto (tgt := 111) G dM_letters_82 (by decide) ?_
          refine hr_L (L' := [(0, .ref (hw_a B 20 0)), (1, .int (nI t)), (2, .int (nI (8 * t + i)))]) (hw_s1 rfl (hw_s1 rfl (hw_s1 rfl (hw_s0)))) ?_
          exact K111 _ ((h1.tr q79).up (by omega))
      · skip
        refine hr_aload_n G dM_letters_53 rfl rfl ?_
        refine hr_bipush (v := 108) G dM_letters_54 (by decide) ?_
        refine hr_bipush (v := 116) G dM_letters_56 (by decide) ?_
        refine hr_iconst (v := 0) G dM_letters_58 (by decide) ?_
        refine hr_iconst (v := 0) G dM_letters_59 (by decide) ?_
        refine hr_callP (b := (b + 6 * i) + 6) G rfl (hA.lt (show 0 < hw_n0 20 by decide)) kM_131 iM_entity vM_entity (m_M_entity _ _ _ _ _ hA hF1 ((b + 6 * i) + 0) h1.2 (by omega) 108 116 0 0) rfl rfl (Nat.le_of_ble_eq_true rfl) ⟨by rw [hR]; decide, by rw [hR]; decide⟩ ⟨by rw [hR]; decide, by rw [hR]; decide⟩ dM_letters_60 (fun S60 q60 => ?_)
        have hF60 := q60.fx hF1
        refine hr_goto (tgt := 111) G dM_letters_63 (by decide) ?_
        refine hr_L (L' := [(0, .ref (hw_a B 20 0)), (1, .int (nI t)), (2, .int (nI (8 * t + i)))]) (hw_s1 rfl (hw_s1 rfl (hw_s1 rfl (hw_s0)))) ?_
        exact K111 _ ((h1.tr q60).up (by omega))
    · skip
      refine hr_aload_n G dM_letters_33 rfl rfl ?_
      refine hr_bipush (v := 97) G dM_letters_34 (by decide) ?_
      refine hr_bipush (v := 109) G dM_letters_36 (by decide) ?_
      refine hr_bipush (v := 112) G dM_letters_38 (by decide) ?_
      refine hr_iconst (v := 0) G dM_letters_40 (by decide) ?_
      refine hr_callP (b := (b + 6 * i) + 6) G rfl (hA.lt (show 0 < hw_n0 20 by decide)) kM_131 iM_entity vM_entity (m_M_entity _ _ _ _ _ hA hF1 ((b + 6 * i) + 0) h1.2 (by omega) 97 109 112 0) rfl rfl (Nat.le_of_ble_eq_true rfl) ⟨by rw [hR]; decide, by rw [hR]; decide⟩ ⟨by rw [hR]; decide, by rw [hR]; decide⟩ dM_letters_41 (fun S41 q41 => ?_)
      have hF41 := q41.fx hF1
      refine hr_goto (tgt := 111) G dM_letters_44 (by decide) ?_
      refine hr_L (L' := [(0, .ref (hw_a B 20 0)), (1, .int (nI t)), (2, .int (nI (8 * t + i)))]) (hw_s1 rfl (hw_s1 rfl (hw_s1 rfl (hw_s0)))) ?_
      exact K111 _ ((h1.tr q41).up (by omega))
set_option maxRecDepth 100000 in
set_option maxHeartbeats 1000000 in
theorem m_M_element (l : Launch) (B : hw_B) (nb : Nat → Nat) (S : hw_St) (z : Nat) (hA : hw_al nb) (hF : hw_Fx S) (b : Nat) (hb : ∃ a, a ≤ b ∧ S 20 0 29 = nI a) (hle : b + 22 ≤ 1400) (x y : Int32) : hw_M l yM_element cM_element 3 none ({ frames := 2, cells := 0, slots := 0, locals := 46 }) B [.ref (hw_a B 20 0), .int x, .int y] nb S z (hw_pw (b + 22) nb S z) := by
  refine hw_M.of (by decide) (Nat.le_of_ble_eq_true rfl) ?_
  intro X fr hl hR G hr hnm
  refine hr_aload_n G dM_element_0 rfl rfl ?_
  refine hr_iload_n G dM_element_1 rfl rfl ?_
  refine hr_iconst (v := 0) G dM_element_2 (by decide) ?_
  refine hr_iconst (v := 0) G dM_element_3 (by decide) ?_
  refine hr_callP (b := b + 5) G rfl (hA.lt (show 0 < hw_n0 20 by decide)) kM_135 iM_tag vM_tag (m_M_tag _ _ _ _ _ hA hF (b + 0) hb (by omega) x 0 0) rfl rfl (Nat.le_of_ble_eq_true rfl) ⟨by rw [hR]; decide, by rw [hR]; decide⟩ ⟨by rw [hR]; decide, by rw [hR]; decide⟩ dM_element_4 (fun S4 q4 => ?_)
  have hF4 := q4.fx hF
  refine hr_aload_n G dM_element_7 rfl rfl ?_
  refine hr_iload_n G dM_element_8 rfl rfl ?_
  refine hr_callP (b := b + 17) G rfl (hA.lt (show 0 < hw_n0 20 by decide)) kM_139 iM_number vM_number (m_M_number _ _ _ _ _ hA hF4 (b + 5) q4.2 (by omega) y) rfl rfl (Nat.le_of_ble_eq_true rfl) ⟨by rw [hR]; decide, by rw [hR]; decide⟩ ⟨by rw [hR]; decide, by rw [hR]; decide⟩ dM_element_9 (fun S9 q9 => ?_)
  have hF9 := q9.fx hF4
  refine hr_aload_n G dM_element_12 rfl rfl ?_
  refine hr_iload_n G dM_element_13 rfl rfl ?_
  refine hr_iconst (v := 0) G dM_element_14 (by decide) ?_
  refine hr_iconst (v := 1) G dM_element_15 (by decide) ?_
  refine hr_callP (b := b + 22) G rfl (hA.lt (show 0 < hw_n0 20 by decide)) kM_135 iM_tag vM_tag (m_M_tag _ _ _ _ _ hA hF9 (b + 17) (q4.tr q9).2 (by omega) x 0 1) rfl rfl (Nat.le_of_ble_eq_true rfl) ⟨by rw [hR]; decide, by rw [hR]; decide⟩ ⟨by rw [hR]; decide, by rw [hR]; decide⟩ dM_element_16 (fun S16 q16 => ?_)
  have hF16 := q16.fx hF9
  exact hr_vret G hr (fun _ h => h) dM_element_19 ⟨rfl, rfl, ((q4.tr q9).tr q16).up (by omega), rfl⟩
set_option maxRecDepth 100000 in
set_option maxHeartbeats 1000000 in
theorem m_M_element1 (l : Launch) (B : hw_B) (nb : Nat → Nat) (S : hw_St) (z : Nat) (hA : hw_al nb) (hF : hw_Fx S) (b : Nat) (hb : ∃ a, a ≤ b ∧ S 20 0 29 = nI a) (hle : b + 11 ≤ 1400) (x : Int32) (j : Nat) (hj : j < 10) : hw_M l yM_element cM_element 3 none ({ frames := 2, cells := 0, slots := 0, locals := 46 }) B [.ref (hw_a B 20 0), .int x, .int (nI j)] nb S z (hw_pw (b + 11) nb S z) := by
  refine hw_M.of (by decide) (Nat.le_of_ble_eq_true rfl) ?_
  intro X fr hl hR G hr hnm
  refine hr_aload_n G dM_element_0 rfl rfl ?_
  refine hr_iload_n G dM_element_1 rfl rfl ?_
  refine hr_iconst (v := 0) G dM_element_2 (by decide) ?_
  refine hr_iconst (v := 0) G dM_element_3 (by decide) ?_
  refine hr_callP (b := b + 5) G rfl (hA.lt (show 0 < hw_n0 20 by decide)) kM_135 iM_tag vM_tag (m_M_tag _ _ _ _ _ hA hF (b + 0) hb (by omega) x 0 0) rfl rfl (Nat.le_of_ble_eq_true rfl) ⟨by rw [hR]; decide, by rw [hR]; decide⟩ ⟨by rw [hR]; decide, by rw [hR]; decide⟩ dM_element_4 (fun S4 q4 => ?_)
  have hF4 := q4.fx hF
  refine hr_aload_n G dM_element_7 rfl rfl ?_
  refine hr_iload_n G dM_element_8 rfl rfl ?_
  refine hr_callP (b := b + 6) G rfl (hA.lt (show 0 < hw_n0 20 by decide)) kM_139 iM_number vM_number (m_M_number1 _ _ _ _ _ hA hF4 (b + 5) q4.2 (by omega) j hj) rfl rfl (Nat.le_of_ble_eq_true rfl) ⟨by rw [hR]; decide, by rw [hR]; decide⟩ ⟨by rw [hR]; decide, by rw [hR]; decide⟩ dM_element_9 (fun S9 q9 => ?_)
  have hF9 := q9.fx hF4
  refine hr_aload_n G dM_element_12 rfl rfl ?_
  refine hr_iload_n G dM_element_13 rfl rfl ?_
  refine hr_iconst (v := 0) G dM_element_14 (by decide) ?_
  refine hr_iconst (v := 1) G dM_element_15 (by decide) ?_
  refine hr_callP (b := b + 11) G rfl (hA.lt (show 0 < hw_n0 20 by decide)) kM_135 iM_tag vM_tag (m_M_tag _ _ _ _ _ hA hF9 (b + 6) (q4.tr q9).2 (by omega) x 0 1) rfl rfl (Nat.le_of_ble_eq_true rfl) ⟨by rw [hR]; decide, by rw [hR]; decide⟩ ⟨by rw [hR]; decide, by rw [hR]; decide⟩ dM_element_16 (fun S16 q16 => ?_)
  have hF16 := q16.fx hF9
  exact hr_vret G hr (fun _ h => h) dM_element_19 ⟨rfl, rfl, ((q4.tr q9).tr q16).up (by omega), rfl⟩
theorem pg_w0 {S : hw_St} : pg_r 0 S (hw_sv S 20 0 29 0) := ⟨fun k i j h1 h2 h3 => by unfold hw_sv; rw [if_neg (fun e => h3 ⟨e.1, e.2.2⟩)], 0, Nat.le_refl _, hw_sv_same⟩
set_option maxRecDepth 100000 in
set_option maxHeartbeats 1000000 in
theorem m_M_no (l : Launch) (B : hw_B) (nb : Nat → Nat) (S : hw_St) (z : Nat) (hA : hw_al nb) (hF : hw_Fx S) (x y : Int32) : hw_M l yM_no cM_no 3 none ({ frames := 2, cells := 0, slots := 0, locals := 46 }) B [.ref (hw_a B 20 0), .int x, .int y] nb S z (hw_pw 1400 nb S z) := by
  refine hw_M.of (by decide) (Nat.le_of_ble_eq_true rfl) ?_
  intro X fr hl hR G hr hnm
  refine hr_aload_n G dM_no_0 rfl rfl ?_
  refine hr_iconst (v := 0) G dM_no_1 (by decide) ?_
  refine hr_put (x := 0) G fM_80 (hA.lt (show 0 < hw_n0 20 by decide)) rfl (rfl) rfl dM_no_2 ?_
  refine hr_aload_n G dM_no_5 rfl rfl ?_
  refine hr_bipush (v := 60) G dM_no_6 (by decide) ?_
  refine hr_callP (b := 0 + 1) G rfl (hA.lt (show 0 < hw_n0 20 by decide)) kM_125 iM_put vM_put (m_M_put _ _ _ _ _ hA (hF.sv rfl) (0 + 0) pg_w0.2 (by omega) 60) rfl rfl (Nat.le_of_ble_eq_true rfl) ⟨by rw [hR]; decide, by rw [hR]; decide⟩ ⟨by rw [hR]; decide, by rw [hR]; decide⟩ dM_no_8 (fun S8 q8 => ?_)
  have hF8 := q8.fx (hF.sv rfl)
  refine hr_aload_n G dM_no_11 rfl rfl ?_
  refine hr_bipush (v := 110) G dM_no_12 (by decide) ?_
  refine hr_callP (b := 0 + 2) G rfl (hA.lt (show 0 < hw_n0 20 by decide)) kM_125 iM_put vM_put (m_M_put _ _ _ _ _ hA hF8 (0 + 1) (pg_w0.tr q8).2 (by omega) 110) rfl rfl (Nat.le_of_ble_eq_true rfl) ⟨by rw [hR]; decide, by rw [hR]; decide⟩ ⟨by rw [hR]; decide, by rw [hR]; decide⟩ dM_no_14 (fun S14 q14 => ?_)
  have hF14 := q14.fx hF8
  refine hr_aload_n G dM_no_17 rfl rfl ?_
  refine hr_bipush (v := 111) G dM_no_18 (by decide) ?_
  refine hr_callP (b := 0 + 3) G rfl (hA.lt (show 0 < hw_n0 20 by decide)) kM_125 iM_put vM_put (m_M_put _ _ _ _ _ hA hF14 (0 + 2) ((pg_w0.tr q8).tr q14).2 (by omega) 111) rfl rfl (Nat.le_of_ble_eq_true rfl) ⟨by rw [hR]; decide, by rw [hR]; decide⟩ ⟨by rw [hR]; decide, by rw [hR]; decide⟩ dM_no_20 (fun S20 q20 => ?_)
  have hF20 := q20.fx hF14
  refine hr_aload_n G dM_no_23 rfl rfl ?_
  refine hr_bipush (v := 32) G dM_no_24 (by decide) ?_
  refine hr_callP (b := 0 + 4) G rfl (hA.lt (show 0 < hw_n0 20 by decide)) kM_125 iM_put vM_put (m_M_put _ _ _ _ _ hA hF20 (0 + 3) (((pg_w0.tr q8).tr q14).tr q20).2 (by omega) 32) rfl rfl (Nat.le_of_ble_eq_true rfl) ⟨by rw [hR]; decide, by rw [hR]; decide⟩ ⟨by rw [hR]; decide, by rw [hR]; decide⟩ dM_no_26 (fun S26 q26 => ?_)
  have hF26 := q26.fx hF20
  refine hr_aload_n G dM_no_29 rfl rfl ?_
  refine hr_bipush (v := 99) G dM_no_30 (by decide) ?_
  refine hr_callP (b := 0 + 5) G rfl (hA.lt (show 0 < hw_n0 20 by decide)) kM_125 iM_put vM_put (m_M_put _ _ _ _ _ hA hF26 (0 + 4) ((((pg_w0.tr q8).tr q14).tr q20).tr q26).2 (by omega) 99) rfl rfl (Nat.le_of_ble_eq_true rfl) ⟨by rw [hR]; decide, by rw [hR]; decide⟩ ⟨by rw [hR]; decide, by rw [hR]; decide⟩ dM_no_32 (fun S32 q32 => ?_)
  have hF32 := q32.fx hF26
  refine hr_aload_n G dM_no_35 rfl rfl ?_
  refine hr_bipush (v := 61) G dM_no_36 (by decide) ?_
  refine hr_callP (b := 0 + 6) G rfl (hA.lt (show 0 < hw_n0 20 by decide)) kM_125 iM_put vM_put (m_M_put _ _ _ _ _ hA hF32 (0 + 5) (((((pg_w0.tr q8).tr q14).tr q20).tr q26).tr q32).2 (by omega) 61) rfl rfl (Nat.le_of_ble_eq_true rfl) ⟨by rw [hR]; decide, by rw [hR]; decide⟩ ⟨by rw [hR]; decide, by rw [hR]; decide⟩ dM_no_38 (fun S38 q38 => ?_)
  have hF38 := q38.fx hF32
  refine hr_aload_n G dM_no_41 rfl rfl ?_
  refine hr_bipush (v := 34) G dM_no_42 (by decide) ?_
  refine hr_callP (b := 0 + 7) G rfl (hA.lt (show 0 < hw_n0 20 by decide)) kM_125 iM_put vM_put (m_M_put _ _ _ _ _ hA hF38 (0 + 6) ((((((pg_w0.tr q8).tr q14).tr q20).tr q26).tr q32).tr q38).2 (by omega) 34) rfl rfl (Nat.le_of_ble_eq_true rfl) ⟨by rw [hR]; decide, by rw [hR]; decide⟩ ⟨by rw [hR]; decide, by rw [hR]; decide⟩ dM_no_44 (fun S44 q44 => ?_)
  have hF44 := q44.fx hF38
  refine hr_aload_n G dM_no_47 rfl rfl ?_
  refine hr_iload_n G dM_no_48 rfl rfl ?_
  refine hr_callP (b := 0 + 19) G rfl (hA.lt (show 0 < hw_n0 20 by decide)) kM_139 iM_number vM_number (m_M_number _ _ _ _ _ hA hF44 (0 + 7) (((((((pg_w0.tr q8).tr q14).tr q20).tr q26).tr q32).tr q38).tr q44).2 (by omega) x) rfl rfl (Nat.le_of_ble_eq_true rfl) ⟨by rw [hR]; decide, by rw [hR]; decide⟩ ⟨by rw [hR]; decide, by rw [hR]; decide⟩ dM_no_49 (fun S49 q49 => ?_)
  have hF49 := q49.fx hF44
  refine hr_aload_n G dM_no_52 rfl rfl ?_
  refine hr_bipush (v := 34) G dM_no_53 (by decide) ?_
  refine hr_callP (b := 0 + 20) G rfl (hA.lt (show 0 < hw_n0 20 by decide)) kM_125 iM_put vM_put (m_M_put _ _ _ _ _ hA hF49 (0 + 19) ((((((((pg_w0.tr q8).tr q14).tr q20).tr q26).tr q32).tr q38).tr q44).tr q49).2 (by omega) 34) rfl rfl (Nat.le_of_ble_eq_true rfl) ⟨by rw [hR]; decide, by rw [hR]; decide⟩ ⟨by rw [hR]; decide, by rw [hR]; decide⟩ dM_no_55 (fun S55 q55 => ?_)
  have hF55 := q55.fx hF49
  refine hr_aload_n G dM_no_58 rfl rfl ?_
  refine hr_bipush (v := 62) G dM_no_59 (by decide) ?_
  refine hr_callP (b := 0 + 21) G rfl (hA.lt (show 0 < hw_n0 20 by decide)) kM_125 iM_put vM_put (m_M_put _ _ _ _ _ hA hF55 (0 + 20) (((((((((pg_w0.tr q8).tr q14).tr q20).tr q26).tr q32).tr q38).tr q44).tr q49).tr q55).2 (by omega) 62) rfl rfl (Nat.le_of_ble_eq_true rfl) ⟨by rw [hR]; decide, by rw [hR]; decide⟩ ⟨by rw [hR]; decide, by rw [hR]; decide⟩ dM_no_61 (fun S61 q61 => ?_)
  have hF61 := q61.fx hF55
  refine hr_aload_n G dM_no_64 rfl rfl ?_
  refine hr_iload_n G dM_no_65 rfl rfl ?_
  refine hr_callP (b := 0 + 33) G rfl (hA.lt (show 0 < hw_n0 20 by decide)) kM_139 iM_number vM_number (m_M_number _ _ _ _ _ hA hF61 (0 + 21) ((((((((((pg_w0.tr q8).tr q14).tr q20).tr q26).tr q32).tr q38).tr q44).tr q49).tr q55).tr q61).2 (by omega) y) rfl rfl (Nat.le_of_ble_eq_true rfl) ⟨by rw [hR]; decide, by rw [hR]; decide⟩ ⟨by rw [hR]; decide, by rw [hR]; decide⟩ dM_no_66 (fun S66 q66 => ?_)
  have hF66 := q66.fx hF61
  refine hr_aload_n G dM_no_69 rfl rfl ?_
  refine hr_bipush (v := 110) G dM_no_70 (by decide) ?_
  refine hr_bipush (v := 111) G dM_no_72 (by decide) ?_
  refine hr_iconst (v := 1) G dM_no_74 (by decide) ?_
  refine hr_callP (b := 0 + 38) G rfl (hA.lt (show 0 < hw_n0 20 by decide)) kM_135 iM_tag vM_tag (m_M_tag _ _ _ _ _ hA hF66 (0 + 33) (((((((((((pg_w0.tr q8).tr q14).tr q20).tr q26).tr q32).tr q38).tr q44).tr q49).tr q55).tr q61).tr q66).2 (by omega) 110 111 1) rfl rfl (Nat.le_of_ble_eq_true rfl) ⟨by rw [hR]; decide, by rw [hR]; decide⟩ ⟨by rw [hR]; decide, by rw [hR]; decide⟩ dM_no_75 (fun S75 q75 => ?_)
  have hF75 := q75.fx hF66
  exact hr_vret G hr (fun _ h => h) dM_no_78 ⟨rfl, rfl, ((((((((((((pg_w0.tr q8).tr q14).tr q20).tr q26).tr q32).tr q38).tr q44).tr q49).tr q55).tr q61).tr q66).tr q75).up (by omega), rfl⟩
