/-! The law: its wrappers. -/
theorem eqv_out {S S' : hw_St} {a : Int32} (h : eqv S S') : eqv (hw_sv S 50 0 0 a) (hw_sv S' 50 0 0 a) := ⟨fun k i j x y => by
  unfold hw_sv
  split
  · rfl
  · exact h.1 k i j x y, h.2⟩
def hw_pq (a : Int32) (nb : Nat → Nat) (S : hw_St) : hw_T := fun oc nb' S' _ => oc = .inl (some (.int a)) ∧ nb' = nb ∧ eqv S S'
theorem lL_25 : Cond.methodLink "TicketHouseLaw" 25 yH_service ∈ hw_TS := hw_in 290 (by decide +kernel) rfl
set_option maxRecDepth 100000 in
set_option maxHeartbeats 1000000 in
theorem m_L_service_ok (l : Launch) (B : hw_B) (nb : Nat → Nat) (S : hw_St) (z : Nat) (hA : hw_al nb) (x y : Int32) (nb1 : Nat → Nat) (S1 : hw_St) (hA1 : hw_al nb1) (a : Int32) (hM : hw_MX l yH_service cH_service 4 (some .int) ({ frames := 6, cells := 1, slots := 6, locals := 90 }) B [.ref (hw_a B 0 0), .int x, .int y] nb S z (hw_qp (.inl (some (.int a))) nb1 S1)) : hw_MW l yL_service cL_service 5 (some .int) [(0, 10, 13, 13)] ({ frames := 7, cells := 1, slots := 6, locals := 113 }) B [.ref (hw_a B 0 0), .int x, .int y, .ref (hw_a B 50 0)] nb S z (hw_pq 0 nb1 (hw_sv S1 50 0 0 a)) := by
  refine hw_MW.of (by decide) (Nat.le_of_ble_eq_true rfl) ?_
  intro X fr hl hR G hr htab
  refine hr_aload_n G dL_service_0 rfl rfl ?_
  refine hr_iconst (v := 0) G dL_service_1 (by decide) ?_
  refine hr_aload_n G dL_service_2 rfl rfl ?_
  refine hr_iload_n G dL_service_3 rfl rfl ?_
  refine hr_iload_n G dL_service_4 rfl rfl ?_
  refine hr_callX (k := 0) (i := 0) (ci := 0) (T0 := FH) (N := 12) G rfl rfl (hA.lt (show 0 < hw_n0 0 by decide)) kL_25.1 kL_25.2.1 kL_25.2.2.1 lL_25 iH_service vH_service (by rw [hl]; exact hM) rfl rfl (Nat.le_of_ble_eq_true rfl) ⟨by rw [hR]; decide, by rw [hR]; decide⟩ ⟨by rw [hR]; decide, by rw [hR]; decide⟩ dL_service_5 (fun r nb2 S2 z2 hp => ?_) (fun E e nb2 S2 z2 hp => ?_)
  · obtain ⟨h1, rfl, h3⟩ := hp
    obtain rfl := Sum.inl.inj h1
    refine hr_i2l G dL_service_8 ?_
    refine hr_last (k := 50) (i := 0) (n := 0) (y := a) G rfl (by decide) rfl (hA1.lt (show 0 < hw_n0 50 by decide)) rfl (by decide) rfl dL_service_9 ?_
    refine hr_goto (tgt := 17) G dL_service_10 (by decide) ?_
    refine hr_iconst (v := 0) G dL_service_17 (by decide) ?_
    exact hr_iret G hr (fun _ h => h) dL_service_18 ⟨rfl, rfl, eqv_out h3⟩
  · exact absurd hp.1 (fun q => by cases q)
set_option maxRecDepth 100000 in
set_option maxHeartbeats 1000000 in
theorem m_L_service_IAE (l : Launch) (B : hw_B) (nb : Nat → Nat) (S : hw_St) (z : Nat) (hA : hw_al nb) (x y : Int32) (nb1 : Nat → Nat) (S1 : hw_St) (hA1 : hw_al nb1) (hM : hw_MX l yH_service cH_service 4 (some .int) ({ frames := 6, cells := 1, slots := 6, locals := 90 }) B [.ref (hw_a B 0 0), .int x, .int y] nb S z (hw_qp (.inr "java/lang/IllegalArgumentException") nb1 S1)) : hw_MW l yL_service cL_service 5 (some .int) [(0, 10, 13, 13)] ({ frames := 7, cells := 1, slots := 6, locals := 113 }) B [.ref (hw_a B 0 0), .int x, .int y, .ref (hw_a B 50 0)] nb S z (hw_pq 1 nb1 S1) := by
  refine hw_MW.of (by decide) (Nat.le_of_ble_eq_true rfl) ?_
  intro X fr hl hR G hr htab
  refine hr_aload_n G dL_service_0 rfl rfl ?_
  refine hr_iconst (v := 0) G dL_service_1 (by decide) ?_
  refine hr_aload_n G dL_service_2 rfl rfl ?_
  refine hr_iload_n G dL_service_3 rfl rfl ?_
  refine hr_iload_n G dL_service_4 rfl rfl ?_
  refine hr_callX (k := 0) (i := 0) (ci := 0) (T0 := FH) (N := 12) G rfl rfl (hA.lt (show 0 < hw_n0 0 by decide)) kL_25.1 kL_25.2.1 kL_25.2.2.1 lL_25 iH_service vH_service (by rw [hl]; exact hM) rfl rfl (Nat.le_of_ble_eq_true rfl) ⟨by rw [hR]; decide, by rw [hR]; decide⟩ ⟨by rw [hR]; decide, by rw [hR]; decide⟩ dL_service_5 (fun r nb2 S2 z2 hp => ?_) (fun E e nb2 S2 z2 hp => ?_)
  · exact absurd hp.1 (fun q => by cases q)
  · obtain ⟨h1, rfl, h3⟩ := hp
    obtain rfl := Sum.inr.inj h1
    refine ⟨13, ⟨[], _, _, "java/lang/IllegalArgumentException", htab, (fun y hy => absurd hy List.not_mem_nil), by decide, by decide, rfl, qL_13, ca_IAE⟩, ?_⟩
    refine hr_astore (i := 4) G dL_service_13 (by decide) ?_
    refine hr_iconst (v := 1) G dL_service_15 (by decide) ?_
    exact hr_iret G hr (fun _ h => h) dL_service_16 ⟨rfl, rfl, h3⟩
theorem lL_7 : Cond.methodLink "TicketHouseLaw" 7 yH_letter ∈ hw_TS := hw_in 166 (by decide +kernel) rfl
set_option maxRecDepth 100000 in
set_option maxHeartbeats 1000000 in
theorem m_L_letter_ok (l : Launch) (B : hw_B) (nb : Nat → Nat) (S : hw_St) (z : Nat) (hA : hw_al nb) (x : Int32) (nb1 : Nat → Nat) (S1 : hw_St) (hA1 : hw_al nb1) (a : Int32) (hM : hw_MX l yH_letter cH_letter 2 (some .int) ({ frames := 6, cells := 1, slots := 6, locals := 90 }) B [.ref (hw_a B 0 0), .int x] nb S z (hw_qp (.inl (some (.int a))) nb1 S1)) : hw_MW l yL_letter cL_letter 4 (some .int) [(0, 9, 12, 13), (0, 9, 15, 15)] ({ frames := 7, cells := 1, slots := 6, locals := 111 }) B [.ref (hw_a B 0 0), .int x, .ref (hw_a B 50 0)] nb S z (hw_pq 0 nb1 (hw_sv S1 50 0 0 a)) := by
  refine hw_MW.of (by decide) (Nat.le_of_ble_eq_true rfl) ?_
  intro X fr hl hR G hr htab
  refine hr_aload_n G dL_letter_0 rfl rfl ?_
  refine hr_iconst (v := 0) G dL_letter_1 (by decide) ?_
  refine hr_aload_n G dL_letter_2 rfl rfl ?_
  refine hr_iload_n G dL_letter_3 rfl rfl ?_
  refine hr_callX (k := 0) (i := 0) (ci := 0) (T0 := FH) (N := 12) G rfl rfl (hA.lt (show 0 < hw_n0 0 by decide)) kL_7.1 kL_7.2.1 kL_7.2.2.1 lL_7 iH_letter vH_letter (by rw [hl]; exact hM) rfl rfl (Nat.le_of_ble_eq_true rfl) ⟨by rw [hR]; decide, by rw [hR]; decide⟩ ⟨by rw [hR]; decide, by rw [hR]; decide⟩ dL_letter_4 (fun r nb2 S2 z2 hp => ?_) (fun E e nb2 S2 z2 hp => ?_)
  · obtain ⟨h1, rfl, h3⟩ := hp
    obtain rfl := Sum.inl.inj h1
    refine hr_i2l G dL_letter_7 ?_
    refine hr_last (k := 50) (i := 0) (n := 0) (y := a) G rfl (by decide) rfl (hA1.lt (show 0 < hw_n0 50 by decide)) rfl (by decide) rfl dL_letter_8 ?_
    refine hr_goto (tgt := 18) G dL_letter_9 (by decide) ?_
    refine hr_iconst (v := 0) G dL_letter_18 (by decide) ?_
    exact hr_iret G hr (fun _ h => h) dL_letter_19 ⟨rfl, rfl, eqv_out h3⟩
  · exact absurd hp.1 (fun q => by cases q)
set_option maxRecDepth 100000 in
set_option maxHeartbeats 1000000 in
theorem m_L_letter_IAE (l : Launch) (B : hw_B) (nb : Nat → Nat) (S : hw_St) (z : Nat) (hA : hw_al nb) (x : Int32) (nb1 : Nat → Nat) (S1 : hw_St) (hA1 : hw_al nb1) (hM : hw_MX l yH_letter cH_letter 2 (some .int) ({ frames := 6, cells := 1, slots := 6, locals := 90 }) B [.ref (hw_a B 0 0), .int x] nb S z (hw_qp (.inr "java/lang/IllegalArgumentException") nb1 S1)) : hw_MW l yL_letter cL_letter 4 (some .int) [(0, 9, 12, 13), (0, 9, 15, 15)] ({ frames := 7, cells := 1, slots := 6, locals := 111 }) B [.ref (hw_a B 0 0), .int x, .ref (hw_a B 50 0)] nb S z (hw_pq 1 nb1 S1) := by
  refine hw_MW.of (by decide) (Nat.le_of_ble_eq_true rfl) ?_
  intro X fr hl hR G hr htab
  refine hr_aload_n G dL_letter_0 rfl rfl ?_
  refine hr_iconst (v := 0) G dL_letter_1 (by decide) ?_
  refine hr_aload_n G dL_letter_2 rfl rfl ?_
  refine hr_iload_n G dL_letter_3 rfl rfl ?_
  refine hr_callX (k := 0) (i := 0) (ci := 0) (T0 := FH) (N := 12) G rfl rfl (hA.lt (show 0 < hw_n0 0 by decide)) kL_7.1 kL_7.2.1 kL_7.2.2.1 lL_7 iH_letter vH_letter (by rw [hl]; exact hM) rfl rfl (Nat.le_of_ble_eq_true rfl) ⟨by rw [hR]; decide, by rw [hR]; decide⟩ ⟨by rw [hR]; decide, by rw [hR]; decide⟩ dL_letter_4 (fun r nb2 S2 z2 hp => ?_) (fun E e nb2 S2 z2 hp => ?_)
  · exact absurd hp.1 (fun q => by cases q)
  · obtain ⟨h1, rfl, h3⟩ := hp
    obtain rfl := Sum.inr.inj h1
    refine ⟨12, ⟨[], _, _, "java/lang/IllegalArgumentException", htab, (fun y hy => absurd hy List.not_mem_nil), by decide, by decide, rfl, qL_13, ca_IAE⟩, ?_⟩
    refine hr_astore_n (i := 3) G dL_letter_12 rfl (by decide) ?_
    refine hr_iconst (v := 1) G dL_letter_13 (by decide) ?_
    exact hr_iret G hr (fun _ h => h) dL_letter_14 ⟨rfl, rfl, h3⟩
set_option maxRecDepth 100000 in
set_option maxHeartbeats 1000000 in
theorem m_L_letter_ISE (l : Launch) (B : hw_B) (nb : Nat → Nat) (S : hw_St) (z : Nat) (hA : hw_al nb) (x : Int32) (nb1 : Nat → Nat) (S1 : hw_St) (hA1 : hw_al nb1) (hM : hw_MX l yH_letter cH_letter 2 (some .int) ({ frames := 6, cells := 1, slots := 6, locals := 90 }) B [.ref (hw_a B 0 0), .int x] nb S z (hw_qp (.inr "java/lang/IllegalStateException") nb1 S1)) : hw_MW l yL_letter cL_letter 4 (some .int) [(0, 9, 12, 13), (0, 9, 15, 15)] ({ frames := 7, cells := 1, slots := 6, locals := 111 }) B [.ref (hw_a B 0 0), .int x, .ref (hw_a B 50 0)] nb S z (hw_pq 2 nb1 S1) := by
  refine hw_MW.of (by decide) (Nat.le_of_ble_eq_true rfl) ?_
  intro X fr hl hR G hr htab
  refine hr_aload_n G dL_letter_0 rfl rfl ?_
  refine hr_iconst (v := 0) G dL_letter_1 (by decide) ?_
  refine hr_aload_n G dL_letter_2 rfl rfl ?_
  refine hr_iload_n G dL_letter_3 rfl rfl ?_
  refine hr_callX (k := 0) (i := 0) (ci := 0) (T0 := FH) (N := 12) G rfl rfl (hA.lt (show 0 < hw_n0 0 by decide)) kL_7.1 kL_7.2.1 kL_7.2.2.1 lL_7 iH_letter vH_letter (by rw [hl]; exact hM) rfl rfl (Nat.le_of_ble_eq_true rfl) ⟨by rw [hR]; decide, by rw [hR]; decide⟩ ⟨by rw [hR]; decide, by rw [hR]; decide⟩ dL_letter_4 (fun r nb2 S2 z2 hp => ?_) (fun E e nb2 S2 z2 hp => ?_)
  · exact absurd hp.1 (fun q => by cases q)
  · obtain ⟨h1, rfl, h3⟩ := hp
    obtain rfl := Sum.inr.inj h1
    refine ⟨15, ⟨[_], _, _, "java/lang/IllegalStateException", htab, (fun y hy => by rw [List.mem_singleton.mp hy]; exact ⟨by decide, rfl, qL_13⟩), by decide, by decide, rfl, qL_15, ca_ISE⟩, ?_⟩
    refine hr_astore_n (i := 3) G dL_letter_15 rfl (by decide) ?_
    refine hr_iconst (v := 2) G dL_letter_16 (by decide) ?_
    exact hr_iret G hr (fun _ h => h) dL_letter_17 ⟨rfl, rfl, h3⟩
theorem lL_21 : Cond.methodLink "TicketHouseLaw" 21 yH_password ∈ hw_TS := hw_in 278 (by decide +kernel) rfl
set_option maxRecDepth 100000 in
set_option maxHeartbeats 1000000 in
theorem m_L_password_ok (l : Launch) (B : hw_B) (nb : Nat → Nat) (S : hw_St) (z : Nat) (hA : hw_al nb) (x y : Int32) (nb1 : Nat → Nat) (S1 : hw_St) (hA1 : hw_al nb1) (a : Int32) (hM : hw_MX l yH_password cH_password 4 (some .boolean) ({ frames := 6, cells := 1, slots := 6, locals := 90 }) B [.ref (hw_a B 0 0), .int x, .int y] nb S z (hw_qp (.inl (some (.int a))) nb1 S1)) : hw_MW l yL_password cL_password 5 (some .int) [(0, 17, 20, 13)] ({ frames := 7, cells := 1, slots := 6, locals := 113 }) B [.ref (hw_a B 0 0), .int x, .int y, .ref (hw_a B 50 0)] nb S z (hw_pq 0 nb1 (hw_sv S1 50 0 0 (if a = 0 then 0 else 1))) := by
  refine hw_MW.of (by decide) (Nat.le_of_ble_eq_true rfl) ?_
  intro X fr hl hR G hr htab
  refine hr_aload_n G dL_password_0 rfl rfl ?_
  refine hr_iconst (v := 0) G dL_password_1 (by decide) ?_
  refine hr_aload_n G dL_password_2 rfl rfl ?_
  refine hr_iload_n G dL_password_3 rfl rfl ?_
  refine hr_iload_n G dL_password_4 rfl rfl ?_
  refine hr_callX (k := 0) (i := 0) (ci := 0) (T0 := FH) (N := 12) G rfl rfl (hA.lt (show 0 < hw_n0 0 by decide)) kL_21.1 kL_21.2.1 kL_21.2.2.1 lL_21 iH_password vH_password (by rw [hl]; exact hM) rfl rfl (Nat.le_of_ble_eq_true rfl) ⟨by rw [hR]; decide, by rw [hR]; decide⟩ ⟨by rw [hR]; decide, by rw [hR]; decide⟩ dL_password_5 (fun r nb2 S2 z2 hp => ?_) (fun E e nb2 S2 z2 hp => ?_)
  · obtain ⟨h1, rfl, h3⟩ := hp
    obtain rfl := Sum.inl.inj h1
    refine hr_if_eq (tgt := 15) G dL_password_8 (by decide) (fun h8 => ?_) (fun h8 => ?_)
    · skip
      refine hr_lconst (v := 0) G dL_password_15 (by decide) ?_
      refine hr_last (k := 50) (i := 0) (n := 0) (y := 0) G rfl (by decide) rfl (hA1.lt (show 0 < hw_n0 50 by decide)) rfl (by decide) rfl dL_password_16 ?_
      refine hr_goto (tgt := 24) G dL_password_17 (by decide) ?_
      refine hr_iconst (v := 0) G dL_password_24 (by decide) ?_
      exact hr_iret G hr (fun _ h => h) dL_password_25 ⟨rfl, rfl, by first | (rw [if_pos h8]; exact eqv_out h3) | (rw [if_neg h8]; exact eqv_out h3)⟩
    · skip
      refine hr_lconst (v := 1) G dL_password_11 (by decide) ?_
      refine hr_goto (tgt := 16) G dL_password_12 (by decide) ?_
      refine hr_last (k := 50) (i := 0) (n := 0) (y := 1) G rfl (by decide) rfl (hA1.lt (show 0 < hw_n0 50 by decide)) rfl (by decide) rfl dL_password_16 ?_
      refine hr_goto (tgt := 24) G dL_password_17 (by decide) ?_
      refine hr_iconst (v := 0) G dL_password_24 (by decide) ?_
      exact hr_iret G hr (fun _ h => h) dL_password_25 ⟨rfl, rfl, by first | (rw [if_pos h8]; exact eqv_out h3) | (rw [if_neg h8]; exact eqv_out h3)⟩
  · exact absurd hp.1 (fun q => by cases q)
set_option maxRecDepth 100000 in
set_option maxHeartbeats 1000000 in
theorem m_L_password_IAE (l : Launch) (B : hw_B) (nb : Nat → Nat) (S : hw_St) (z : Nat) (hA : hw_al nb) (x y : Int32) (nb1 : Nat → Nat) (S1 : hw_St) (hA1 : hw_al nb1) (hM : hw_MX l yH_password cH_password 4 (some .boolean) ({ frames := 6, cells := 1, slots := 6, locals := 90 }) B [.ref (hw_a B 0 0), .int x, .int y] nb S z (hw_qp (.inr "java/lang/IllegalArgumentException") nb1 S1)) : hw_MW l yL_password cL_password 5 (some .int) [(0, 17, 20, 13)] ({ frames := 7, cells := 1, slots := 6, locals := 113 }) B [.ref (hw_a B 0 0), .int x, .int y, .ref (hw_a B 50 0)] nb S z (hw_pq 1 nb1 S1) := by
  refine hw_MW.of (by decide) (Nat.le_of_ble_eq_true rfl) ?_
  intro X fr hl hR G hr htab
  refine hr_aload_n G dL_password_0 rfl rfl ?_
  refine hr_iconst (v := 0) G dL_password_1 (by decide) ?_
  refine hr_aload_n G dL_password_2 rfl rfl ?_
  refine hr_iload_n G dL_password_3 rfl rfl ?_
  refine hr_iload_n G dL_password_4 rfl rfl ?_
  refine hr_callX (k := 0) (i := 0) (ci := 0) (T0 := FH) (N := 12) G rfl rfl (hA.lt (show 0 < hw_n0 0 by decide)) kL_21.1 kL_21.2.1 kL_21.2.2.1 lL_21 iH_password vH_password (by rw [hl]; exact hM) rfl rfl (Nat.le_of_ble_eq_true rfl) ⟨by rw [hR]; decide, by rw [hR]; decide⟩ ⟨by rw [hR]; decide, by rw [hR]; decide⟩ dL_password_5 (fun r nb2 S2 z2 hp => ?_) (fun E e nb2 S2 z2 hp => ?_)
  · exact absurd hp.1 (fun q => by cases q)
  · obtain ⟨h1, rfl, h3⟩ := hp
    obtain rfl := Sum.inr.inj h1
    refine ⟨20, ⟨[], _, _, "java/lang/IllegalArgumentException", htab, (fun y hy => absurd hy List.not_mem_nil), by decide, by decide, rfl, qL_13, ca_IAE⟩, ?_⟩
    refine hr_astore (i := 4) G dL_password_20 (by decide) ?_
    refine hr_iconst (v := 1) G dL_password_22 (by decide) ?_
    exact hr_iret G hr (fun _ h => h) dL_password_23 ⟨rfl, rfl, h3⟩
