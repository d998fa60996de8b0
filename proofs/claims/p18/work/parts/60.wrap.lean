/-! The law: its wrappers. -/
theorem eqv_out {S S' : hw_St} {a : Int32} (h : eqv S S') : eqv (hw_sv S 50 0 0 a) (hw_sv S' 50 0 0 a) := ⟨fun k i j x y => by
  unfold hw_sv
  split
  · rfl
  · exact h.1 k i j x y, h.2⟩
def hw_pq (a : Int32) (nb : Nat → Nat) (S : hw_St) : hw_T := fun oc nb' S' _ => oc = .inl (some (.int a)) ∧ nb' = nb ∧ eqv S S'
theorem lL_25 : Cond.methodLink "TicketHouseLaw" 25 yH_service ∈ hw_TS := hw_in 290 (by decide +kernel) rfl
set_option maxRecDepth 100000 in
set_option maxHeartbeats 1000000 in
theorem m_L_service_ok (l : Launch) (B : hw_B) (nb : Nat → Nat) (S : hw_St) (z : Nat) (hA : hw_al nb) (x y : Int32) (nb1 : Nat → Nat) (S1 : hw_St) (hA1 : hw_al nb1) (a : Int32) (hM : hw_MX l yH_service cH_service 4 (some .int) ({ frames := 6, cells := 1, slots := 6, locals := 90 }) B [.ref (hw_a B 0 0), .int x, .int y] nb S z (hw_qp (.inl (some (.int a))) nb1 S1)) : hw_MW l yL_service cL_service 5 (some .int) [(0, 10, 13, 13)] ({ frames := 7, cells := 1, slots := 6, locals := 113 }) B [.ref (hw_a B 0 0), .int x, .int y, .ref (hw_a B 50 0)] nb S z (hw_pq 0 nb1 (hw_sv S1 50 0 0 a)) := by
  refine hw_MW.of (by decide) (Nat.le_of_ble_eq_true rfl) ?_
  intro X fr hl hR G hr htab
  refine hr_aload_n G dL_service_0 rfl rfl ?_
  refine hr_iconst (v := 0) G dL_service_1 (by decide) ?_
  refine hr_aload_n G dL_service_2 rfl rfl ?_
  refine hr_iload_n G dL_service_3 rfl rfl ?_
  refine hr_iload_n G dL_service_4 rfl rfl ?_
  refine hr_callX (k := 0) (i := 0) (ci := 0) (T0 := FH) (N := 12) G rfl rfl (hA.lt (show 0 < hw_n0 0 by decide)) kL_25.1 kL_25.2.1 kL_25.2.2.1 lL_25 iH_service vH_service (by rw [hl]; exact hM) rfl rfl (Nat.le_of_ble_eq_true rfl) ⟨by rw [hR]; decide, by rw [hR]; decide⟩ ⟨by rw [hR]; decide, by rw [hR]; decide⟩ dL_service_5 (fun r nb2 S2 z2 hp => ?_) (fun E e nb2 S2 z2 hp => ?_)
  · obtain ⟨h1, rfl, h3⟩ := hp
    obtain rfl := Sum.inl.inj h1
    refine hr_i2l G dL_service_8 ?_
    refine hr_last (k := 50) (i := 0) (n := 0) (y := a) G rfl (by decide) rfl (hA1.lt (show 0 < hw_n0 50 by decide)) rfl (by decide) rfl dL_service_9 ?_
    refine hr_goto (tgt := 17) G dL_service_10 (by decide) ?_
    refine hr_iconst (v := 0) G dL_service_17 (by decide) ?_
    exact hr_iret G hr (fun _ h => h) dL_service_18 ⟨rfl, rfl, eqv_out h3⟩
  · exact absurd hp.1 (fun q => by cases q)
set_option maxRecDepth 100000 in
set_option maxHeartbeats 1000000 in
theorem m_L_service_IAE (l : Launch) (B : hw_B) (nb : Nat → Nat) (S : hw_St) (z : Nat) (hA : hw_al nb) (x y : Int32) (nb1 : Nat → Nat) (S1 : hw_St) (hA1 : hw_al nb1) (hM : hw_MX l yH_service cH_service 4 (some .int) ({ frames := 6, cells := 1, slots := 6, locals := 90 }) B [.ref (hw_a B 0 0), .int x, .int y] nb S z (hw_qp (.inr "java/lang/IllegalArgumentException") nb1 S1)) : hw_MW l yL_service cL_service 5 (some .int) [(0, 10, 13, 13)] ({ frames := 7, cells := 1, slots := 6, locals := 113 }) B [.ref (hw_a B 0 0), .int x, .int y, .ref (hw_a B 50 0)] nb S z (hw_pq 1 nb1 S1) := by
  refine hw_MW.of (by decide) (Nat.le_of_ble_eq_true rfl) ?_
  intro X fr hl hR G hr htab
  refine hr_aload_n G dL_service_0 rfl rfl ?_
  refine hr_iconst (v := 0) G dL_service_1 (by decide) ?_
  refine hr_aload_n G dL_service_2 rfl rfl ?_
  refine hr_iload_n G dL_service_3 rfl rfl ?_
  refine hr_iload_n G dL_service_4 rfl rfl ?_
  refine hr_callX (k := 0) (i := 0) (ci := 0) (T0 := FH) (N := 12) G rfl rfl (hA.lt (show 0 < hw_n0 0 by decide)) kL_25.1 kL_25.2.1 kL_25.2.2.1 lL_25 iH_service vH_service (by rw [hl]; exact hM) rfl rfl (Nat.le_of_ble_eq_true rfl) ⟨by rw [hR]; decide, by rw [hR]; decide⟩ ⟨by rw [hR]; decide, by rw [hR]; decide⟩ dL_service_5 (fun r nb2 S2 z2 hp => ?_) (fun E e nb2 S2 z2 hp => ?_)
  · exact absurd hp.1 (fun q => by cases q)
  · obtain ⟨h1, rfl, h3⟩ := hp
    obtain rfl := Sum.inr.inj h1
    refine ⟨13, ⟨[], _, _, "java/lang/IllegalArgumentException", htab, (fun y hy => absurd hy List.not_mem_nil), by decide, by decide, rfl, qL_13, ca_IAE⟩, ?_⟩
    refine hr_astore (i := 4) G dL_service_13 (by decide) ?_
    refine hr_iconst (v := 1) G dL_service_15 (by decide) ?_
    exact hr_iret G hr (fun _ h => h) dL_service_16 ⟨rfl, rfl, h3⟩
theorem lL_7 : Cond.methodLink "TicketHouseLaw" 7 yH_letter ∈ hw_TS := hw_in 166 (by decide +kernel) rfl
set_option maxRecDepth 100000 in
set_option maxHeartbeats 1000000 in
theorem m_L_letter_ok (l : Launch) (B : hw_B) (nb : Nat → Nat) (S : hw_St) (z : Nat) (hA : hw_al nb) (x : Int32) (nb1 : Nat → Nat) (S1 : hw_St) (hA1 : hw_al nb1) (a : Int32) (hM : hw_MX l yH_letter cH_letter 2 (some .int) ({ frames := 6, cells := 1, slots := 6, locals := 90 }) B [.ref (hw_a B 0 0), .int x] nb S z (hw_qp (.inl (some (.int a))) nb1 S1)) : hw_MW l yL_letter cL_letter 4 (some .int) [(0, 9, 12, 13), (0, 9, 15, 15)] ({ frames := 7, cells := 1, slots := 6, locals := 111 }) B [.ref (hw_a B 0 0), .int x, .ref (hw_a B 50 0)] nb S z (hw_pq 0 nb1 (hw_sv S1 50 0 0 a)) := by
  refine hw_MW.of (by decide) (Nat.le_of_ble_eq_true rfl) ?_
  intro X fr hl hR G hr htab
  refine hr_aload_n G dL_letter_0 rfl rfl ?_
  refine hr_iconst (v := 0) G dL_letter_1 (by decide) ?_
  refine hr_aload_n G dL_letter_2 rfl rfl ?_
  refine hr_iload_n G dL_letter_3 rfl rfl ?_
  refine hr_callX (k := 0) (i := 0) (ci := 0) (T0 := FH) (N := 12) G rfl rfl (hA.lt (show 0 < hw_n0 0 by decide)) kL_7.1 kL_7.2.1 kL_7.2.2.1 lL_7 iH_letter vH_letter (by rw [hl]; exact hM) rfl rfl (Nat.le_of_ble_eq_true rfl) ⟨by rw [hR]; decide, by rw [hR]; decide⟩ ⟨by rw [hR]; decide, by rw [hR]; decide⟩ dL_letter_4 (fun r nb2 S2 z2 hp => ?_) (fun E e nb2 S2 z2 hp => ?_)
  · obtain ⟨h1, rfl, h3⟩ := hp
    obtain rfl := Sum.inl.inj h1
    refine hr_i2l G dL_letter_7 ?_
    refine hr_last (k := 50) (i := 0) (n := 0) (y := a) G rfl (by decide) rfl (hA1.lt (show 0 < hw_n0 50 by decide)) rfl (by decide) rfl dL_letter_8 ?_
    refine hr_goto (tgt := 18) G dL_letter_9 (by decide) ?_
    refine hr_iconst (v := 0) G dL_letter_18 (by decide) ?_
    exact hr_iret G hr (fun _ h => h) dL_letter_19 ⟨rfl, rfl, eqv_out h3⟩
  · exact absurd hp.1 (fun q => by cases q)
set_option maxRecDepth 100000 in
set_option maxHeartbeats 1000000 in
theorem m_L_letter_IAE (l : Launch) (B : hw_B) (nb : Nat → Nat) (S : hw_St) (z : Nat) (hA : hw_al nb) (x : Int32) (nb1 : Nat → Nat) (S1 : hw_St) (hA1 : hw_al nb1) (hM : hw_MX l yH_letter cH_letter 2 (some .int) ({ frames := 6, cells := 1, slots := 6, locals := 90 }) B [.ref (hw_a B 0 0), .int x] nb S z (hw_qp (.inr "java/lang/IllegalArgumentException") nb1 S1)) : hw_MW l yL_letter cL_letter 4 (some .int) [(0, 9, 12, 13), (0, 9, 15, 15)] ({ frames := 7, cells := 1, slots := 6, locals := 111 }) B [.ref (hw_a B 0 0), .int x, .ref (hw_a B 50 0)] nb S z (hw_pq 1 nb1 S1) := by
  refine hw_MW.of (by decide) (Nat.le_of_ble_eq_true rfl) ?_
  intro X fr hl hR G hr htab
  refine hr_aload_n G dL_letter_0 rfl rfl ?_
  refine hr_iconst (v := 0) G dL_letter_1 (by decide) ?_
  refine hr_aload_n G dL_letter_2 rfl rfl ?_
  refine hr_iload_n G dL_letter_3 rfl rfl ?_
  refine hr_callX (k := 0) (i := 0) (ci := 0) (T0 := FH) (N := 12) G rfl rfl (hA.lt (show 0 < hw_n0 0 by decide)) kL_7.1 kL_7.2.1 kL_7.2.2.1 lL_7 iH_letter vH_letter (by rw [hl]; exact hM) rfl rfl (Nat.le_of_ble_eq_true rfl) ⟨by rw [hR]; decide, by rw [hR]; decide⟩ ⟨by rw [hR]; decide, by rw [hR]; decide⟩ dL_letter_4 (fun r nb2 S2 z2 hp => ?_) (fun E e nb2 S2 z2 hp => ?_)
  · exact absurd hp.1 (fun q => by cases q)
  · obtain ⟨h1, rfl, h3⟩ := hp
    obtain rfl := Sum.inr.inj h1
    refine ⟨12, ⟨[], _, _, "java/lang/IllegalArgumentException", htab, (fun y hy => absurd hy List.not_mem_nil), by decide, by decide, rfl, qL_13, ca_IAE⟩, ?_⟩
    refine hr_astore_n (i := 3) G dL_letter_12 rfl (by decide) ?_
    refine hr_iconst (v := 1) G dL_letter_13 (by decide) ?_
    exact hr_iret G hr (fun _ h => h) dL_letter_14 ⟨rfl, rfl, h3⟩
set_option maxRecDepth 100000 in
set_option maxHeartbeats 1000000 in
theorem m_L_letter_ISE (l : Launch) (B : hw_B) (nb : Nat → Nat) (S : hw_St) (z : Nat) (hA : hw_al nb) (x : Int32) (nb1 : Nat → Nat) (S1 : hw_St) (hA1 : hw_al nb1) (hM : hw_MX l yH_letter cH_letter 2 (some .int) ({ frames := 6, cells := 1, slots := 6, locals := 90 }) B [.ref (hw_a B 0 0), .int x] nb S z (hw_qp (.inr "java/lang/IllegalStateException") nb1 S1)) : hw_MW l yL_letter cL_letter 4 (some .int) [(0, 9, 12, 13), (0, 9, 15, 15)] ({ frames := 7, cells := 1, slots := 6, locals := 111 }) B [.ref (hw_a B 0 0), .int x, .ref (hw_a B 50 0)] nb S z (hw_pq 2 nb1 S1) := by
  refine hw_MW.of (by decide) (Nat.le_of_ble_eq_true rfl) ?_
  intro X fr hl hR G hr htab
  refine hr_aload_n G dL_letter_0 rfl rfl ?_
  refine hr_iconst (v := 0) G dL_letter_1 (by decide) ?_
  refine hr_aload_n G dL_letter_2 rfl rfl ?_
  refine hr_iload_n G dL_letter_3 rfl rfl ?_
  refine hr_callX (k := 0) (i := 0) (ci := 0) (T0 := FH) (N := 12) G rfl rfl (hA.lt (show 0 < hw_n0 0 by decide)) kL_7.1 kL_7.2.1 kL_7.2.2.1 lL_7 iH_letter vH_letter (by rw [hl]; exact hM) rfl rfl (Nat.le_of_ble_eq_true rfl) ⟨by rw [hR]; decide, by rw [hR]; decide⟩ ⟨by rw [hR]; decide, by rw [hR]; decide⟩ dL_letter_4 (fun r nb2 S2 z2 hp => ?_) (fun E e nb2 S2 z2 hp => ?_)
  · exact absurd hp.1 (fun q => by cases q)
  · obtain ⟨h1, rfl, h3⟩ := hp
    obtain rfl := Sum.inr.inj h1
    refine ⟨15, ⟨[_], _, _, "java/lang/IllegalStateException", htab, (fun y hy => by rw [List.mem_singleton.mp hy]; exact ⟨by decide, rfl, qL_13⟩), by decide, by decide, rfl, qL_15, ca_ISE⟩, ?_⟩
    refine hr_astore_n (i := 3) G dL_letter_15 rfl (by decide) ?_
    refine hr_iconst (v := 2) G dL_letter_16 (by decide) ?_
    exact hr_iret G hr (fun _ h => h) dL_letter_17 ⟨rfl, rfl, h3⟩
theorem lL_21 : Cond.methodLink "TicketHouseLaw" 21 yH_password ∈ hw_TS := hw_in 278 (by decide +kernel) rfl
set_option maxRecDepth 100000 in
set_option maxHeartbeats 1000000 in
theorem m_L_password_ok (l : Launch) (B : hw_B) (nb : Nat → Nat) (S : hw_St) (z : Nat) (hA : hw_al nb) (x y : Int32) (nb1 : Nat → Nat) (S1 : hw_St) (hA1 : hw_al nb1) (a : Int32) (hM : hw_MX l yH_password cH_password 4 (some .boolean) ({ frames := 6, cells := 1, slots := 6, locals := 90 }) B [.ref (hw_a B 0 0), .int x, .int y] nb S z (hw_qp (.inl (some (.int a))) nb1 S1)) : hw_MW l yL_password cL_password 5 (some .int) [(0, 17, 20, 13)] ({ frames := 7, cells := 1, slots := 6, locals := 113 }) B [.ref (hw_a B 0 0), .int x, .int y, .ref (hw_a B 50 0)] nb S z (hw_pq 0 nb1 (hw_sv S1 50 0 0 (if a = 0 then 0 else 1))) := by
  refine hw_MW.of (by decide) (Nat.le_of_ble_eq_true rfl) ?_
  intro X fr hl hR G hr htab
  refine hr_aload_n G dL_password_0 rfl rfl ?_
  refine hr_iconst (v := 0) G dL_password_1 (by decide) ?_
  refine hr_aload_n G dL_password_2 rfl rfl ?_
  refine hr_iload_n G dL_password_3 rfl rfl ?_
  refine hr_iload_n G dL_password_4 rfl rfl ?_
  refine hr_callX (k := 0) (i := 0) (ci := 0) (T0 := FH) (N := 12) G rfl rfl (hA.lt (show 0 < hw_n0 0 by decide)) kL_21.1 kL_21.2.1 kL_21.2.2.1 lL_21 iH_password vH_password (by rw [hl]; exact hM) rfl rfl (Nat.le_of_ble_eq_true rfl) ⟨by rw [hR]; decide, by rw [hR]; decide⟩ ⟨by rw [hR]; decide, by rw [hR]; decide⟩ dL_password_5 (fun r nb2 S2 z2 hp => ?_) (fun E e nb2 S2 z2 hp => ?_)
  · obtain ⟨h1, rfl, h3⟩ := hp
    obtain rfl := Sum.inl.inj h1
    refine hr_if_eq (tgt := 15) G dL_password_8 (by decide) (fun h8 => ?_) (fun h8 => ?_)
    · skip
      refine hr_lconst (v := 0) G dL_password_15 (by decide) ?_
      refine hr_last (k := 50) (i := 0) (n := 0) (y := 0) G rfl (by decide) rfl (hA1.lt (show 0 < hw_n0 50 by decide)) rfl (by decide) rfl dL_password_16 ?_
      refine hr_goto (tgt := 24) G dL_password_17 (by decide) ?_
      refine hr_iconst (v := 0) G dL_password_24 (by decide) ?_
      exact hr_iret G hr (fun _ h => h) dL_password_25 ⟨rfl, rfl, by first | (rw [if_pos h8]; exact eqv_out h3) | (rw [if_neg h8]; exact eqv_out h3)⟩
    · skip
      refine hr_lconst (v := 1) G dL_password_11 (by decide) ?_
      refine hr_goto (tgt := 16) G dL_password_12 (by decide) ?_
      refine hr_last (k := 50) (i := 0) (n := 0) (y := 1) G rfl (by decide) rfl (hA1.lt (show 0 < hw_n0 50 by decide)) rfl (by decide) rfl dL_password_16 ?_
      refine hr_goto (tgt := 24) G dL_password_17 (by decide) ?_
      refine hr_iconst (v := 0) G dL_password_24 (by decide) ?_
      exact hr_iret G hr (fun _ h => h) dL_password_25 ⟨rfl, rfl, by first | (rw [if_pos h8]; exact eqv_out h3) | (rw [if_neg h8]; exact eqv_out h3)⟩
  · exact absurd hp.1 (fun q => by cases q)
set_option maxRecDepth 100000 in
set_option maxHeartbeats 1000000 in
theorem m_L_password_IAE (l : Launch) (B : hw_B) (nb : Nat → Nat) (S : hw_St) (z : Nat) (hA : hw_al nb) (x y : Int32) (nb1 : Nat → Nat) (S1 : hw_St) (hA1 : hw_al nb1) (hM : hw_MX l yH_password cH_password 4 (some .boolean) ({ frames := 6, cells := 1, slots := 6, locals := 90 }) B [.ref (hw_a B 0 0), .int x, .int y] nb S z (hw_qp (.inr "java/lang/IllegalArgumentException") nb1 S1)) : hw_MW l yL_password cL_password 5 (some .int) [(0, 17, 20, 13)] ({ frames := 7, cells := 1, slots := 6, locals := 113 }) B [.ref (hw_a B 0 0), .int x, .int y, .ref (hw_a B 50 0)] nb S z (hw_pq 1 nb1 S1) := by
  refine hw_MW.of (by decide) (Nat.le_of_ble_eq_true rfl) ?_
  intro X fr hl hR G hr htab
  refine hr_aload_n G dL_password_0 rfl rfl ?_
  refine hr_iconst (v := 0) G dL_password_1 (by decide) ?_
  refine hr_aload_n G dL_password_2 rfl rfl ?_
  refine hr_iload_n G dL_password_3 rfl rfl ?_
  refine hr_iload_n G dL_password_4 rfl rfl ?_
  refine hr_callX (k := 0) (i := 0) (ci := 0) (T0 := FH) (N := 12) G rfl rfl (hA.lt (show 0 < hw_n0 0 by decide)) kL_21.1 kL_21.2.1 kL_21.2.2.1 lL_21 iH_password vH_password (by rw [hl]; exact hM) rfl rfl (Nat.le_of_ble_eq_true rfl) ⟨by rw [hR]; decide, by rw [hR]; decide⟩ ⟨by rw [hR]; decide, by rw [hR]; decide⟩ dL_password_5 (fun r nb2 S2 z2 hp => ?_) (fun E e nb2 S2 z2 hp => ?_)
  · exact absurd hp.1 (fun q => by cases q)
  · obtain ⟨h1, rfl, h3⟩ := hp
    obtain rfl := Sum.inr.inj h1
    refine ⟨20, ⟨[], _, _, "java/lang/IllegalArgumentException", htab, (fun y hy => absurd hy List.not_mem_nil), by decide, by decide, rfl, qL_13, ca_IAE⟩, ?_⟩
    refine hr_astore (i := 4) G dL_password_20 (by decide) ?_
    refine hr_iconst (v := 1) G dL_password_22 (by decide) ?_
    exact hr_iret G hr (fun _ h => h) dL_password_23 ⟨rfl, rfl, h3⟩
theorem lL_17 : Cond.methodLink "TicketHouseLaw" 17 yH_text ∈ hw_TS := hw_in 260 (by decide +kernel) rfl
set_option maxRecDepth 100000 in
set_option maxHeartbeats 1000000 in
theorem m_L_text_ok (l : Launch) (B : hw_B) (nb : Nat → Nat) (S : hw_St) (z : Nat) (hA : hw_al nb) (x y : Int32) (nb1 : Nat → Nat) (S1 : hw_St) (hA1 : hw_al nb1) (a : Int32) (hM : hw_MX l yH_text cH_text 5 (some .int) ({ frames := 6, cells := 1, slots := 6, locals := 90 }) B [.ref (hw_a B 0 0), .int x, .int y] nb S z (hw_qp (.inl (some (.int a))) nb1 S1)) : hw_MW l yL_text cL_text 5 (some .int) [(0, 10, 13, 13)] ({ frames := 7, cells := 1, slots := 6, locals := 114 }) B [.ref (hw_a B 0 0), .int x, .int y, .ref (hw_a B 50 0)] nb S z (hw_pq 0 nb1 (hw_sv S1 50 0 0 a)) := by
  refine hw_MW.of (by decide) (Nat.le_of_ble_eq_true rfl) ?_
  intro X fr hl hR G hr htab
  refine hr_aload_n G dL_text_0 rfl rfl ?_
  refine hr_iconst (v := 0) G dL_text_1 (by decide) ?_
  refine hr_aload_n G dL_text_2 rfl rfl ?_
  refine hr_iload_n G dL_text_3 rfl rfl ?_
  refine hr_iload_n G dL_text_4 rfl rfl ?_
  refine hr_callX (k := 0) (i := 0) (ci := 0) (T0 := FH) (N := 12) G rfl rfl (hA.lt (show 0 < hw_n0 0 by decide)) kL_17.1 kL_17.2.1 kL_17.2.2.1 lL_17 iH_text vH_text (by rw [hl]; exact hM) rfl rfl (Nat.le_of_ble_eq_true rfl) ⟨by rw [hR]; decide, by rw [hR]; decide⟩ ⟨by rw [hR]; decide, by rw [hR]; decide⟩ dL_text_5 (fun r nb2 S2 z2 hp => ?_) (fun E e nb2 S2 z2 hp => ?_)
  · obtain ⟨h1, rfl, h3⟩ := hp
    obtain rfl := Sum.inl.inj h1
    refine hr_i2l G dL_text_8 ?_
    refine hr_last (k := 50) (i := 0) (n := 0) (y := a) G rfl (by decide) rfl (hA1.lt (show 0 < hw_n0 50 by decide)) rfl (by decide) rfl dL_text_9 ?_
    refine hr_goto (tgt := 17) G dL_text_10 (by decide) ?_
    refine hr_iconst (v := 0) G dL_text_17 (by decide) ?_
    exact hr_iret G hr (fun _ h => h) dL_text_18 ⟨rfl, rfl, eqv_out h3⟩
  · exact absurd hp.1 (fun q => by cases q)
set_option maxRecDepth 100000 in
set_option maxHeartbeats 1000000 in
theorem m_L_text_IAE (l : Launch) (B : hw_B) (nb : Nat → Nat) (S : hw_St) (z : Nat) (hA : hw_al nb) (x y : Int32) (nb1 : Nat → Nat) (S1 : hw_St) (hA1 : hw_al nb1) (hM : hw_MX l yH_text cH_text 5 (some .int) ({ frames := 6, cells := 1, slots := 6, locals := 90 }) B [.ref (hw_a B 0 0), .int x, .int y] nb S z (hw_qp (.inr "java/lang/IllegalArgumentException") nb1 S1)) : hw_MW l yL_text cL_text 5 (some .int) [(0, 10, 13, 13)] ({ frames := 7, cells := 1, slots := 6, locals := 114 }) B [.ref (hw_a B 0 0), .int x, .int y, .ref (hw_a B 50 0)] nb S z (hw_pq 1 nb1 S1) := by
  refine hw_MW.of (by decide) (Nat.le_of_ble_eq_true rfl) ?_
  intro X fr hl hR G hr htab
  refine hr_aload_n G dL_text_0 rfl rfl ?_
  refine hr_iconst (v := 0) G dL_text_1 (by decide) ?_
  refine hr_aload_n G dL_text_2 rfl rfl ?_
  refine hr_iload_n G dL_text_3 rfl rfl ?_
  refine hr_iload_n G dL_text_4 rfl rfl ?_
  refine hr_callX (k := 0) (i := 0) (ci := 0) (T0 := FH) (N := 12) G rfl rfl (hA.lt (show 0 < hw_n0 0 by decide)) kL_17.1 kL_17.2.1 kL_17.2.2.1 lL_17 iH_text vH_text (by rw [hl]; exact hM) rfl rfl (Nat.le_of_ble_eq_true rfl) ⟨by rw [hR]; decide, by rw [hR]; decide⟩ ⟨by rw [hR]; decide, by rw [hR]; decide⟩ dL_text_5 (fun r nb2 S2 z2 hp => ?_) (fun E e nb2 S2 z2 hp => ?_)
  · exact absurd hp.1 (fun q => by cases q)
  · obtain ⟨h1, rfl, h3⟩ := hp
    obtain rfl := Sum.inr.inj h1
    refine ⟨13, ⟨[], _, _, "java/lang/IllegalArgumentException", htab, (fun y hy => absurd hy List.not_mem_nil), by decide, by decide, rfl, qL_13, ca_IAE⟩, ?_⟩
    refine hr_astore (i := 4) G dL_text_13 (by decide) ?_
    refine hr_iconst (v := 1) G dL_text_15 (by decide) ?_
    exact hr_iret G hr (fun _ h => h) dL_text_16 ⟨rfl, rfl, h3⟩
theorem lL_28 : Cond.methodLink "TicketHouseLaw" 28 yH_callback ∈ hw_TS := hw_in 301 (by decide +kernel) rfl
set_option maxRecDepth 100000 in
set_option maxHeartbeats 1000000 in
theorem m_L_callback_ok (l : Launch) (B : hw_B) (nb : Nat → Nat) (S : hw_St) (z : Nat) (hA : hw_al nb) (x y : Int32) (nb1 : Nat → Nat) (S1 : hw_St) (hA1 : hw_al nb1) (a : Int32) (hM : hw_MX l yH_callback cH_callback 4 (some .boolean) ({ frames := 6, cells := 1, slots := 6, locals := 90 }) B [.ref (hw_a B 0 0), .int x, .int y] nb S z (hw_qp (.inl (some (.int a))) nb1 S1)) : hw_MW l yL_callback cL_callback 5 (some .int) [(0, 17, 20, 13)] ({ frames := 7, cells := 1, slots := 6, locals := 113 }) B [.ref (hw_a B 0 0), .int x, .int y, .ref (hw_a B 50 0)] nb S z (hw_pq 0 nb1 (hw_sv S1 50 0 0 (if a = 0 then 0 else 1))) := by
  refine hw_MW.of (by decide) (Nat.le_of_ble_eq_true rfl) ?_
  intro X fr hl hR G hr htab
  refine hr_aload_n G dL_callback_0 rfl rfl ?_
  refine hr_iconst (v := 0) G dL_callback_1 (by decide) ?_
  refine hr_aload_n G dL_callback_2 rfl rfl ?_
  refine hr_iload_n G dL_callback_3 rfl rfl ?_
  refine hr_iload_n G dL_callback_4 rfl rfl ?_
  refine hr_callX (k := 0) (i := 0) (ci := 0) (T0 := FH) (N := 12) G rfl rfl (hA.lt (show 0 < hw_n0 0 by decide)) kL_28.1 kL_28.2.1 kL_28.2.2.1 lL_28 iH_callback vH_callback (by rw [hl]; exact hM) rfl rfl (Nat.le_of_ble_eq_true rfl) ⟨by rw [hR]; decide, by rw [hR]; decide⟩ ⟨by rw [hR]; decide, by rw [hR]; decide⟩ dL_callback_5 (fun r nb2 S2 z2 hp => ?_) (fun E e nb2 S2 z2 hp => ?_)
  · obtain ⟨h1, rfl, h3⟩ := hp
    obtain rfl := Sum.inl.inj h1
    refine hr_if_eq (tgt := 15) G dL_callback_8 (by decide) (fun h8 => ?_) (fun h8 => ?_)
    · skip
      refine hr_lconst (v := 0) G dL_callback_15 (by decide) ?_
      refine hr_last (k := 50) (i := 0) (n := 0) (y := 0) G rfl (by decide) rfl (hA1.lt (show 0 < hw_n0 50 by decide)) rfl (by decide) rfl dL_callback_16 ?_
      refine hr_goto (tgt := 24) G dL_callback_17 (by decide) ?_
      refine hr_iconst (v := 0) G dL_callback_24 (by decide) ?_
      exact hr_iret G hr (fun _ h => h) dL_callback_25 ⟨rfl, rfl, by first | (rw [if_pos h8]; exact eqv_out h3) | (rw [if_neg h8]; exact eqv_out h3)⟩
    · skip
      refine hr_lconst (v := 1) G dL_callback_11 (by decide) ?_
      refine hr_goto (tgt := 16) G dL_callback_12 (by decide) ?_
      refine hr_last (k := 50) (i := 0) (n := 0) (y := 1) G rfl (by decide) rfl (hA1.lt (show 0 < hw_n0 50 by decide)) rfl (by decide) rfl dL_callback_16 ?_
      refine hr_goto (tgt := 24) G dL_callback_17 (by decide) ?_
      refine hr_iconst (v := 0) G dL_callback_24 (by decide) ?_
      exact hr_iret G hr (fun _ h => h) dL_callback_25 ⟨rfl, rfl, by first | (rw [if_pos h8]; exact eqv_out h3) | (rw [if_neg h8]; exact eqv_out h3)⟩
  · exact absurd hp.1 (fun q => by cases q)
set_option maxRecDepth 100000 in
set_option maxHeartbeats 1000000 in
theorem m_L_callback_IAE (l : Launch) (B : hw_B) (nb : Nat → Nat) (S : hw_St) (z : Nat) (hA : hw_al nb) (x y : Int32) (nb1 : Nat → Nat) (S1 : hw_St) (hA1 : hw_al nb1) (hM : hw_MX l yH_callback cH_callback 4 (some .boolean) ({ frames := 6, cells := 1, slots := 6, locals := 90 }) B [.ref (hw_a B 0 0), .int x, .int y] nb S z (hw_qp (.inr "java/lang/IllegalArgumentException") nb1 S1)) : hw_MW l yL_callback cL_callback 5 (some .int) [(0, 17, 20, 13)] ({ frames := 7, cells := 1, slots := 6, locals := 113 }) B [.ref (hw_a B 0 0), .int x, .int y, .ref (hw_a B 50 0)] nb S z (hw_pq 1 nb1 S1) := by
  refine hw_MW.of (by decide) (Nat.le_of_ble_eq_true rfl) ?_
  intro X fr hl hR G hr htab
  refine hr_aload_n G dL_callback_0 rfl rfl ?_
  refine hr_iconst (v := 0) G dL_callback_1 (by decide) ?_
  refine hr_aload_n G dL_callback_2 rfl rfl ?_
  refine hr_iload_n G dL_callback_3 rfl rfl ?_
  refine hr_iload_n G dL_callback_4 rfl rfl ?_
  refine hr_callX (k := 0) (i := 0) (ci := 0) (T0 := FH) (N := 12) G rfl rfl (hA.lt (show 0 < hw_n0 0 by decide)) kL_28.1 kL_28.2.1 kL_28.2.2.1 lL_28 iH_callback vH_callback (by rw [hl]; exact hM) rfl rfl (Nat.le_of_ble_eq_true rfl) ⟨by rw [hR]; decide, by rw [hR]; decide⟩ ⟨by rw [hR]; decide, by rw [hR]; decide⟩ dL_callback_5 (fun r nb2 S2 z2 hp => ?_) (fun E e nb2 S2 z2 hp => ?_)
  · exact absurd hp.1 (fun q => by cases q)
  · obtain ⟨h1, rfl, h3⟩ := hp
    obtain rfl := Sum.inr.inj h1
    refine ⟨20, ⟨[], _, _, "java/lang/IllegalArgumentException", htab, (fun y hy => absurd hy List.not_mem_nil), by decide, by decide, rfl, qL_13, ca_IAE⟩, ?_⟩
    refine hr_astore (i := 4) G dL_callback_20 (by decide) ?_
    refine hr_iconst (v := 1) G dL_callback_22 (by decide) ?_
    exact hr_iret G hr (fun _ h => h) dL_callback_23 ⟨rfl, rfl, h3⟩
theorem lL_32 : Cond.methodLink "TicketHouseLaw" 32 yH_login ∈ hw_TS := hw_in 309 (by decide +kernel) rfl
set_option maxRecDepth 100000 in
set_option maxHeartbeats 1000000 in
theorem m_L_login_ok (l : Launch) (B : hw_B) (nb : Nat → Nat) (S : hw_St) (z : Nat) (hA : hw_al nb) (x y v : Int32) (nb1 : Nat → Nat) (S1 : hw_St) (hA1 : hw_al nb1) (a : Int32) (hM : hw_MX l yH_login cH_login 6 (some .int) ({ frames := 6, cells := 1, slots := 6, locals := 90 }) B [.ref (hw_a B 0 0), .int x, .int y, .int v] nb S z (hw_qp (.inl (some (.int a))) nb1 S1)) : hw_MW l yL_login cL_login 6 (some .int) [(0, 12, 15, 13), (0, 12, 19, 15)] ({ frames := 7, cells := 1, slots := 6, locals := 115 }) B [.ref (hw_a B 0 0), .int x, .int y, .int v, .ref (hw_a B 50 0)] nb S z (hw_pq 0 nb1 (hw_sv S1 50 0 0 a)) := by
  refine hw_MW.of (by decide) (Nat.le_of_ble_eq_true rfl) ?_
  intro X fr hl hR G hr htab
  refine hr_aload G dL_login_0 rfl ?_
  refine hr_iconst (v := 0) G dL_login_2 (by decide) ?_
  refine hr_aload_n G dL_login_3 rfl rfl ?_
  refine hr_iload_n G dL_login_4 rfl rfl ?_
  refine hr_iload_n G dL_login_5 rfl rfl ?_
  refine hr_iload_n G dL_login_6 rfl rfl ?_
  refine hr_callX (k := 0) (i := 0) (ci := 0) (T0 := FH) (N := 12) G rfl rfl (hA.lt (show 0 < hw_n0 0 by decide)) kL_32.1 kL_32.2.1 kL_32.2.2.1 lL_32 iH_login vH_login (by rw [hl]; exact hM) rfl rfl (Nat.le_of_ble_eq_true rfl) ⟨by rw [hR]; decide, by rw [hR]; decide⟩ ⟨by rw [hR]; decide, by rw [hR]; decide⟩ dL_login_7 (fun r nb2 S2 z2 hp => ?_) (fun E e nb2 S2 z2 hp => ?_)
  · obtain ⟨h1, rfl, h3⟩ := hp
    obtain rfl := Sum.inl.inj h1
    refine hr_i2l G dL_login_10 ?_
    refine hr_last (k := 50) (i := 0) (n := 0) (y := a) G rfl (by decide) rfl (hA1.lt (show 0 < hw_n0 50 by decide)) rfl (by decide) rfl dL_login_11 ?_
    refine hr_goto (tgt := 23) G dL_login_12 (by decide) ?_
    refine hr_iconst (v := 0) G dL_login_23 (by decide) ?_
    exact hr_iret G hr (fun _ h => h) dL_login_24 ⟨rfl, rfl, eqv_out h3⟩
  · exact absurd hp.1 (fun q => by cases q)
set_option maxRecDepth 100000 in
set_option maxHeartbeats 1000000 in
theorem m_L_login_IAE (l : Launch) (B : hw_B) (nb : Nat → Nat) (S : hw_St) (z : Nat) (hA : hw_al nb) (x y v : Int32) (nb1 : Nat → Nat) (S1 : hw_St) (hA1 : hw_al nb1) (hM : hw_MX l yH_login cH_login 6 (some .int) ({ frames := 6, cells := 1, slots := 6, locals := 90 }) B [.ref (hw_a B 0 0), .int x, .int y, .int v] nb S z (hw_qp (.inr "java/lang/IllegalArgumentException") nb1 S1)) : hw_MW l yL_login cL_login 6 (some .int) [(0, 12, 15, 13), (0, 12, 19, 15)] ({ frames := 7, cells := 1, slots := 6, locals := 115 }) B [.ref (hw_a B 0 0), .int x, .int y, .int v, .ref (hw_a B 50 0)] nb S z (hw_pq 1 nb1 S1) := by
  refine hw_MW.of (by decide) (Nat.le_of_ble_eq_true rfl) ?_
  intro X fr hl hR G hr htab
  refine hr_aload G dL_login_0 rfl ?_
  refine hr_iconst (v := 0) G dL_login_2 (by decide) ?_
  refine hr_aload_n G dL_login_3 rfl rfl ?_
  refine hr_iload_n G dL_login_4 rfl rfl ?_
  refine hr_iload_n G dL_login_5 rfl rfl ?_
  refine hr_iload_n G dL_login_6 rfl rfl ?_
  refine hr_callX (k := 0) (i := 0) (ci := 0) (T0 := FH) (N := 12) G rfl rfl (hA.lt (show 0 < hw_n0 0 by decide)) kL_32.1 kL_32.2.1 kL_32.2.2.1 lL_32 iH_login vH_login (by rw [hl]; exact hM) rfl rfl (Nat.le_of_ble_eq_true rfl) ⟨by rw [hR]; decide, by rw [hR]; decide⟩ ⟨by rw [hR]; decide, by rw [hR]; decide⟩ dL_login_7 (fun r nb2 S2 z2 hp => ?_) (fun E e nb2 S2 z2 hp => ?_)
  · exact absurd hp.1 (fun q => by cases q)
  · obtain ⟨h1, rfl, h3⟩ := hp
    obtain rfl := Sum.inr.inj h1
    refine ⟨15, ⟨[], _, _, "java/lang/IllegalArgumentException", htab, (fun y hy => absurd hy List.not_mem_nil), by decide, by decide, rfl, qL_13, ca_IAE⟩, ?_⟩
    refine hr_astore (i := 5) G dL_login_15 (by decide) ?_
    refine hr_iconst (v := 1) G dL_login_17 (by decide) ?_
    exact hr_iret G hr (fun _ h => h) dL_login_18 ⟨rfl, rfl, h3⟩
set_option maxRecDepth 100000 in
set_option maxHeartbeats 1000000 in
theorem m_L_login_ISE (l : Launch) (B : hw_B) (nb : Nat → Nat) (S : hw_St) (z : Nat) (hA : hw_al nb) (x y v : Int32) (nb1 : Nat → Nat) (S1 : hw_St) (hA1 : hw_al nb1) (hM : hw_MX l yH_login cH_login 6 (some .int) ({ frames := 6, cells := 1, slots := 6, locals := 90 }) B [.ref (hw_a B 0 0), .int x, .int y, .int v] nb S z (hw_qp (.inr "java/lang/IllegalStateException") nb1 S1)) : hw_MW l yL_login cL_login 6 (some .int) [(0, 12, 15, 13), (0, 12, 19, 15)] ({ frames := 7, cells := 1, slots := 6, locals := 115 }) B [.ref (hw_a B 0 0), .int x, .int y, .int v, .ref (hw_a B 50 0)] nb S z (hw_pq 2 nb1 S1) := by
  refine hw_MW.of (by decide) (Nat.le_of_ble_eq_true rfl) ?_
  intro X fr hl hR G hr htab
  refine hr_aload G dL_login_0 rfl ?_
  refine hr_iconst (v := 0) G dL_login_2 (by decide) ?_
  refine hr_aload_n G dL_login_3 rfl rfl ?_
  refine hr_iload_n G dL_login_4 rfl rfl ?_
  refine hr_iload_n G dL_login_5 rfl rfl ?_
  refine hr_iload_n G dL_login_6 rfl rfl ?_
  refine hr_callX (k := 0) (i := 0) (ci := 0) (T0 := FH) (N := 12) G rfl rfl (hA.lt (show 0 < hw_n0 0 by decide)) kL_32.1 kL_32.2.1 kL_32.2.2.1 lL_32 iH_login vH_login (by rw [hl]; exact hM) rfl rfl (Nat.le_of_ble_eq_true rfl) ⟨by rw [hR]; decide, by rw [hR]; decide⟩ ⟨by rw [hR]; decide, by rw [hR]; decide⟩ dL_login_7 (fun r nb2 S2 z2 hp => ?_) (fun E e nb2 S2 z2 hp => ?_)
  · exact absurd hp.1 (fun q => by cases q)
  · obtain ⟨h1, rfl, h3⟩ := hp
    obtain rfl := Sum.inr.inj h1
    refine ⟨19, ⟨[_], _, _, "java/lang/IllegalStateException", htab, (fun y hy => by rw [List.mem_singleton.mp hy]; exact ⟨by decide, rfl, qL_13⟩), by decide, by decide, rfl, qL_15, ca_ISE⟩, ?_⟩
    refine hr_astore (i := 5) G dL_login_19 (by decide) ?_
    refine hr_iconst (v := 2) G dL_login_21 (by decide) ?_
    exact hr_iret G hr (fun _ h => h) dL_login_22 ⟨rfl, rfl, h3⟩
theorem lL_36 : Cond.methodLink "TicketHouseLaw" 36 yH_enter ∈ hw_TS := hw_in 356 (by decide +kernel) rfl
set_option maxRecDepth 100000 in
set_option maxHeartbeats 1000000 in
theorem m_L_enter_ok (l : Launch) (B : hw_B) (nb : Nat → Nat) (S : hw_St) (z : Nat) (hA : hw_al nb) (x y v : Int32) (nb1 : Nat → Nat) (S1 : hw_St) (hA1 : hw_al nb1) (a : Int32) (hM : hw_MX l yH_enter cH_enter 7 (some .int) ({ frames := 6, cells := 2, slots := 15, locals := 100 }) B [.ref (hw_a B 0 0), .int x, .int y, .int v] nb S z (hw_qp (.inl (some (.int a))) nb1 S1)) : hw_MW l yL_enter cL_enter 6 (some .int) [(0, 12, 15, 13), (0, 12, 19, 15)] ({ frames := 7, cells := 2, slots := 15, locals := 126 }) B [.ref (hw_a B 0 0), .int x, .int y, .int v, .ref (hw_a B 50 0)] nb S z (hw_pq 0 nb1 (hw_sv S1 50 0 0 a)) := by
  refine hw_MW.of (by decide) (Nat.le_of_ble_eq_true rfl) ?_
  intro X fr hl hR G hr htab
  refine hr_aload G dL_enter_0 rfl ?_
  refine hr_iconst (v := 0) G dL_enter_2 (by decide) ?_
  refine hr_aload_n G dL_enter_3 rfl rfl ?_
  refine hr_iload_n G dL_enter_4 rfl rfl ?_
  refine hr_iload_n G dL_enter_5 rfl rfl ?_
  refine hr_iload_n G dL_enter_6 rfl rfl ?_
  refine hr_callX (k := 0) (i := 0) (ci := 0) (T0 := FH) (N := 12) G rfl rfl (hA.lt (show 0 < hw_n0 0 by decide)) kL_36.1 kL_36.2.1 kL_36.2.2.1 lL_36 iH_enter vH_enter (by rw [hl]; exact hM) rfl rfl (Nat.le_of_ble_eq_true rfl) ⟨by rw [hR]; decide, by rw [hR]; decide⟩ ⟨by rw [hR]; decide, by rw [hR]; decide⟩ dL_enter_7 (fun r nb2 S2 z2 hp => ?_) (fun E e nb2 S2 z2 hp => ?_)
  · obtain ⟨h1, rfl, h3⟩ := hp
    obtain rfl := Sum.inl.inj h1
    refine hr_i2l G dL_enter_10 ?_
    refine hr_last (k := 50) (i := 0) (n := 0) (y := a) G rfl (by decide) rfl (hA1.lt (show 0 < hw_n0 50 by decide)) rfl (by decide) rfl dL_enter_11 ?_
    refine hr_goto (tgt := 23) G dL_enter_12 (by decide) ?_
    refine hr_iconst (v := 0) G dL_enter_23 (by decide) ?_
    exact hr_iret G hr (fun _ h => h) dL_enter_24 ⟨rfl, rfl, eqv_out h3⟩
  · exact absurd hp.1 (fun q => by cases q)
set_option maxRecDepth 100000 in
set_option maxHeartbeats 1000000 in
theorem m_L_enter_IAE (l : Launch) (B : hw_B) (nb : Nat → Nat) (S : hw_St) (z : Nat) (hA : hw_al nb) (x y v : Int32) (nb1 : Nat → Nat) (S1 : hw_St) (hA1 : hw_al nb1) (hM : hw_MX l yH_enter cH_enter 7 (some .int) ({ frames := 6, cells := 2, slots := 15, locals := 100 }) B [.ref (hw_a B 0 0), .int x, .int y, .int v] nb S z (hw_qp (.inr "java/lang/IllegalArgumentException") nb1 S1)) : hw_MW l yL_enter cL_enter 6 (some .int) [(0, 12, 15, 13), (0, 12, 19, 15)] ({ frames := 7, cells := 2, slots := 15, locals := 126 }) B [.ref (hw_a B 0 0), .int x, .int y, .int v, .ref (hw_a B 50 0)] nb S z (hw_pq 1 nb1 S1) := by
  refine hw_MW.of (by decide) (Nat.le_of_ble_eq_true rfl) ?_
  intro X fr hl hR G hr htab
  refine hr_aload G dL_enter_0 rfl ?_
  refine hr_iconst (v := 0) G dL_enter_2 (by decide) ?_
  refine hr_aload_n G dL_enter_3 rfl rfl ?_
  refine hr_iload_n G dL_enter_4 rfl rfl ?_
  refine hr_iload_n G dL_enter_5 rfl rfl ?_
  refine hr_iload_n G dL_enter_6 rfl rfl ?_
  refine hr_callX (k := 0) (i := 0) (ci := 0) (T0 := FH) (N := 12) G rfl rfl (hA.lt (show 0 < hw_n0 0 by decide)) kL_36.1 kL_36.2.1 kL_36.2.2.1 lL_36 iH_enter vH_enter (by rw [hl]; exact hM) rfl rfl (Nat.le_of_ble_eq_true rfl) ⟨by rw [hR]; decide, by rw [hR]; decide⟩ ⟨by rw [hR]; decide, by rw [hR]; decide⟩ dL_enter_7 (fun r nb2 S2 z2 hp => ?_) (fun E e nb2 S2 z2 hp => ?_)
  · exact absurd hp.1 (fun q => by cases q)
  · obtain ⟨h1, rfl, h3⟩ := hp
    obtain rfl := Sum.inr.inj h1
    refine ⟨15, ⟨[], _, _, "java/lang/IllegalArgumentException", htab, (fun y hy => absurd hy List.not_mem_nil), by decide, by decide, rfl, qL_13, ca_IAE⟩, ?_⟩
    refine hr_astore (i := 5) G dL_enter_15 (by decide) ?_
    refine hr_iconst (v := 1) G dL_enter_17 (by decide) ?_
    exact hr_iret G hr (fun _ h => h) dL_enter_18 ⟨rfl, rfl, h3⟩
set_option maxRecDepth 100000 in
set_option maxHeartbeats 1000000 in
theorem m_L_enter_ISE (l : Launch) (B : hw_B) (nb : Nat → Nat) (S : hw_St) (z : Nat) (hA : hw_al nb) (x y v : Int32) (nb1 : Nat → Nat) (S1 : hw_St) (hA1 : hw_al nb1) (hM : hw_MX l yH_enter cH_enter 7 (some .int) ({ frames := 6, cells := 2, slots := 15, locals := 100 }) B [.ref (hw_a B 0 0), .int x, .int y, .int v] nb S z (hw_qp (.inr "java/lang/IllegalStateException") nb1 S1)) : hw_MW l yL_enter cL_enter 6 (some .int) [(0, 12, 15, 13), (0, 12, 19, 15)] ({ frames := 7, cells := 2, slots := 15, locals := 126 }) B [.ref (hw_a B 0 0), .int x, .int y, .int v, .ref (hw_a B 50 0)] nb S z (hw_pq 2 nb1 S1) := by
  refine hw_MW.of (by decide) (Nat.le_of_ble_eq_true rfl) ?_
  intro X fr hl hR G hr htab
  refine hr_aload G dL_enter_0 rfl ?_
  refine hr_iconst (v := 0) G dL_enter_2 (by decide) ?_
  refine hr_aload_n G dL_enter_3 rfl rfl ?_
  refine hr_iload_n G dL_enter_4 rfl rfl ?_
  refine hr_iload_n G dL_enter_5 rfl rfl ?_
  refine hr_iload_n G dL_enter_6 rfl rfl ?_
  refine hr_callX (k := 0) (i := 0) (ci := 0) (T0 := FH) (N := 12) G rfl rfl (hA.lt (show 0 < hw_n0 0 by decide)) kL_36.1 kL_36.2.1 kL_36.2.2.1 lL_36 iH_enter vH_enter (by rw [hl]; exact hM) rfl rfl (Nat.le_of_ble_eq_true rfl) ⟨by rw [hR]; decide, by rw [hR]; decide⟩ ⟨by rw [hR]; decide, by rw [hR]; decide⟩ dL_enter_7 (fun r nb2 S2 z2 hp => ?_) (fun E e nb2 S2 z2 hp => ?_)
  · exact absurd hp.1 (fun q => by cases q)
  · obtain ⟨h1, rfl, h3⟩ := hp
    obtain rfl := Sum.inr.inj h1
    refine ⟨19, ⟨[_], _, _, "java/lang/IllegalStateException", htab, (fun y hy => by rw [List.mem_singleton.mp hy]; exact ⟨by decide, rfl, qL_13⟩), by decide, by decide, rfl, qL_15, ca_ISE⟩, ?_⟩
    refine hr_astore (i := 5) G dL_enter_19 (by decide) ?_
    refine hr_iconst (v := 2) G dL_enter_21 (by decide) ?_
    exact hr_iret G hr (fun _ h => h) dL_enter_22 ⟨rfl, rfl, h3⟩
theorem lL_40 : Cond.methodLink "TicketHouseLaw" 40 yH_ticket ∈ hw_TS := hw_in 419 (by decide +kernel) rfl
set_option maxRecDepth 100000 in
set_option maxHeartbeats 1000000 in
theorem m_L_ticket_ok (l : Launch) (B : hw_B) (nb : Nat → Nat) (S : hw_St) (z : Nat) (hA : hw_al nb) (x y : Int32) (nb1 : Nat → Nat) (S1 : hw_St) (hA1 : hw_al nb1) (a : Int32) (hM : hw_MX l yH_ticket cH_ticket 4 (some .int) ({ frames := 6, cells := 1, slots := 9, locals := 90 }) B [.ref (hw_a B 0 0), .int x, .int y] nb S z (hw_qp (.inl (some (.int a))) nb1 S1)) : hw_MW l yL_ticket cL_ticket 5 (some .int) [(0, 10, 13, 13), (0, 10, 17, 15)] ({ frames := 7, cells := 1, slots := 9, locals := 113 }) B [.ref (hw_a B 0 0), .int x, .int y, .ref (hw_a B 50 0)] nb S z (hw_pq 0 nb1 (hw_sv S1 50 0 0 a)) := by
  refine hw_MW.of (by decide) (Nat.le_of_ble_eq_true rfl) ?_
  intro X fr hl hR G hr htab
  refine hr_aload_n G dL_ticket_0 rfl rfl ?_
  refine hr_iconst (v := 0) G dL_ticket_1 (by decide) ?_
  refine hr_aload_n G dL_ticket_2 rfl rfl ?_
  refine hr_iload_n G dL_ticket_3 rfl rfl ?_
  refine hr_iload_n G dL_ticket_4 rfl rfl ?_
  refine hr_callX (k := 0) (i := 0) (ci := 0) (T0 := FH) (N := 12) G rfl rfl (hA.lt (show 0 < hw_n0 0 by decide)) kL_40.1 kL_40.2.1 kL_40.2.2.1 lL_40 iH_ticket vH_ticket (by rw [hl]; exact hM) rfl rfl (Nat.le_of_ble_eq_true rfl) ⟨by rw [hR]; decide, by rw [hR]; decide⟩ ⟨by rw [hR]; decide, by rw [hR]; decide⟩ dL_ticket_5 (fun r nb2 S2 z2 hp => ?_) (fun E e nb2 S2 z2 hp => ?_)
  · obtain ⟨h1, rfl, h3⟩ := hp
    obtain rfl := Sum.inl.inj h1
    refine hr_i2l G dL_ticket_8 ?_
    refine hr_last (k := 50) (i := 0) (n := 0) (y := a) G rfl (by decide) rfl (hA1.lt (show 0 < hw_n0 50 by decide)) rfl (by decide) rfl dL_ticket_9 ?_
    refine hr_goto (tgt := 21) G dL_ticket_10 (by decide) ?_
    refine hr_iconst (v := 0) G dL_ticket_21 (by decide) ?_
    exact hr_iret G hr (fun _ h => h) dL_ticket_22 ⟨rfl, rfl, eqv_out h3⟩
  · exact absurd hp.1 (fun q => by cases q)
set_option maxRecDepth 100000 in
set_option maxHeartbeats 1000000 in
theorem m_L_ticket_IAE (l : Launch) (B : hw_B) (nb : Nat → Nat) (S : hw_St) (z : Nat) (hA : hw_al nb) (x y : Int32) (nb1 : Nat → Nat) (S1 : hw_St) (hA1 : hw_al nb1) (hM : hw_MX l yH_ticket cH_ticket 4 (some .int) ({ frames := 6, cells := 1, slots := 9, locals := 90 }) B [.ref (hw_a B 0 0), .int x, .int y] nb S z (hw_qp (.inr "java/lang/IllegalArgumentException") nb1 S1)) : hw_MW l yL_ticket cL_ticket 5 (some .int) [(0, 10, 13, 13), (0, 10, 17, 15)] ({ frames := 7, cells := 1, slots := 9, locals := 113 }) B [.ref (hw_a B 0 0), .int x, .int y, .ref (hw_a B 50 0)] nb S z (hw_pq 1 nb1 S1) := by
  refine hw_MW.of (by decide) (Nat.le_of_ble_eq_true rfl) ?_
  intro X fr hl hR G hr htab
  refine hr_aload_n G dL_ticket_0 rfl rfl ?_
  refine hr_iconst (v := 0) G dL_ticket_1 (by decide) ?_
  refine hr_aload_n G dL_ticket_2 rfl rfl ?_
  refine hr_iload_n G dL_ticket_3 rfl rfl ?_
  refine hr_iload_n G dL_ticket_4 rfl rfl ?_
  refine hr_callX (k := 0) (i := 0) (ci := 0) (T0 := FH) (N := 12) G rfl rfl (hA.lt (show 0 < hw_n0 0 by decide)) kL_40.1 kL_40.2.1 kL_40.2.2.1 lL_40 iH_ticket vH_ticket (by rw [hl]; exact hM) rfl rfl (Nat.le_of_ble_eq_true rfl) ⟨by rw [hR]; decide, by rw [hR]; decide⟩ ⟨by rw [hR]; decide, by rw [hR]; decide⟩ dL_ticket_5 (fun r nb2 S2 z2 hp => ?_) (fun E e nb2 S2 z2 hp => ?_)
  · exact absurd hp.1 (fun q => by cases q)
  · obtain ⟨h1, rfl, h3⟩ := hp
    obtain rfl := Sum.inr.inj h1
    refine ⟨13, ⟨[], _, _, "java/lang/IllegalArgumentException", htab, (fun y hy => absurd hy List.not_mem_nil), by decide, by decide, rfl, qL_13, ca_IAE⟩, ?_⟩
    refine hr_astore (i := 4) G dL_ticket_13 (by decide) ?_
    refine hr_iconst (v := 1) G dL_ticket_15 (by decide) ?_
    exact hr_iret G hr (fun _ h => h) dL_ticket_16 ⟨rfl, rfl, h3⟩
set_option maxRecDepth 100000 in
set_option maxHeartbeats 1000000 in
theorem m_L_ticket_ISE (l : Launch) (B : hw_B) (nb : Nat → Nat) (S : hw_St) (z : Nat) (hA : hw_al nb) (x y : Int32) (nb1 : Nat → Nat) (S1 : hw_St) (hA1 : hw_al nb1) (hM : hw_MX l yH_ticket cH_ticket 4 (some .int) ({ frames := 6, cells := 1, slots := 9, locals := 90 }) B [.ref (hw_a B 0 0), .int x, .int y] nb S z (hw_qp (.inr "java/lang/IllegalStateException") nb1 S1)) : hw_MW l yL_ticket cL_ticket 5 (some .int) [(0, 10, 13, 13), (0, 10, 17, 15)] ({ frames := 7, cells := 1, slots := 9, locals := 113 }) B [.ref (hw_a B 0 0), .int x, .int y, .ref (hw_a B 50 0)] nb S z (hw_pq 2 nb1 S1) := by
  refine hw_MW.of (by decide) (Nat.le_of_ble_eq_true rfl) ?_
  intro X fr hl hR G hr htab
  refine hr_aload_n G dL_ticket_0 rfl rfl ?_
  refine hr_iconst (v := 0) G dL_ticket_1 (by decide) ?_
  refine hr_aload_n G dL_ticket_2 rfl rfl ?_
  refine hr_iload_n G dL_ticket_3 rfl rfl ?_
  refine hr_iload_n G dL_ticket_4 rfl rfl ?_
  refine hr_callX (k := 0) (i := 0) (ci := 0) (T0 := FH) (N := 12) G rfl rfl (hA.lt (show 0 < hw_n0 0 by decide)) kL_40.1 kL_40.2.1 kL_40.2.2.1 lL_40 iH_ticket vH_ticket (by rw [hl]; exact hM) rfl rfl (Nat.le_of_ble_eq_true rfl) ⟨by rw [hR]; decide, by rw [hR]; decide⟩ ⟨by rw [hR]; decide, by rw [hR]; decide⟩ dL_ticket_5 (fun r nb2 S2 z2 hp => ?_) (fun E e nb2 S2 z2 hp => ?_)
  · exact absurd hp.1 (fun q => by cases q)
  · obtain ⟨h1, rfl, h3⟩ := hp
    obtain rfl := Sum.inr.inj h1
    refine ⟨17, ⟨[_], _, _, "java/lang/IllegalStateException", htab, (fun y hy => by rw [List.mem_singleton.mp hy]; exact ⟨by decide, rfl, qL_13⟩), by decide, by decide, rfl, qL_15, ca_ISE⟩, ?_⟩
    refine hr_astore (i := 4) G dL_ticket_17 (by decide) ?_
    refine hr_iconst (v := 2) G dL_ticket_19 (by decide) ?_
    exact hr_iret G hr (fun _ h => h) dL_ticket_20 ⟨rfl, rfl, h3⟩
theorem lL_43 : Cond.methodLink "TicketHouseLaw" 43 yH_proxy ∈ hw_TS := hw_in 428 (by decide +kernel) rfl
set_option maxRecDepth 100000 in
set_option maxHeartbeats 1000000 in
theorem m_L_proxy_ok (l : Launch) (B : hw_B) (nb : Nat → Nat) (S : hw_St) (z : Nat) (hA : hw_al nb) (x y : Int32) (nb1 : Nat → Nat) (S1 : hw_St) (hA1 : hw_al nb1) (a : Int32) (hM : hw_MX l yH_proxy cH_proxy 4 (some .int) ({ frames := 6, cells := 1, slots := 9, locals := 90 }) B [.ref (hw_a B 0 0), .int x, .int y] nb S z (hw_qp (.inl (some (.int a))) nb1 S1)) : hw_MW l yL_proxy cL_proxy 5 (some .int) [(0, 10, 13, 13), (0, 10, 17, 15)] ({ frames := 7, cells := 1, slots := 9, locals := 113 }) B [.ref (hw_a B 0 0), .int x, .int y, .ref (hw_a B 50 0)] nb S z (hw_pq 0 nb1 (hw_sv S1 50 0 0 a)) := by
  refine hw_MW.of (by decide) (Nat.le_of_ble_eq_true rfl) ?_
  intro X fr hl hR G hr htab
  refine hr_aload_n G dL_proxy_0 rfl rfl ?_
  refine hr_iconst (v := 0) G dL_proxy_1 (by decide) ?_
  refine hr_aload_n G dL_proxy_2 rfl rfl ?_
  refine hr_iload_n G dL_proxy_3 rfl rfl ?_
  refine hr_iload_n G dL_proxy_4 rfl rfl ?_
  refine hr_callX (k := 0) (i := 0) (ci := 0) (T0 := FH) (N := 12) G rfl rfl (hA.lt (show 0 < hw_n0 0 by decide)) kL_43.1 kL_43.2.1 kL_43.2.2.1 lL_43 iH_proxy vH_proxy (by rw [hl]; exact hM) rfl rfl (Nat.le_of_ble_eq_true rfl) ⟨by rw [hR]; decide, by rw [hR]; decide⟩ ⟨by rw [hR]; decide, by rw [hR]; decide⟩ dL_proxy_5 (fun r nb2 S2 z2 hp => ?_) (fun E e nb2 S2 z2 hp => ?_)
  · obtain ⟨h1, rfl, h3⟩ := hp
    obtain rfl := Sum.inl.inj h1
    refine hr_i2l G dL_proxy_8 ?_
    refine hr_last (k := 50) (i := 0) (n := 0) (y := a) G rfl (by decide) rfl (hA1.lt (show 0 < hw_n0 50 by decide)) rfl (by decide) rfl dL_proxy_9 ?_
    refine hr_goto (tgt := 21) G dL_proxy_10 (by decide) ?_
    refine hr_iconst (v := 0) G dL_proxy_21 (by decide) ?_
    exact hr_iret G hr (fun _ h => h) dL_proxy_22 ⟨rfl, rfl, eqv_out h3⟩
  · exact absurd hp.1 (fun q => by cases q)
set_option maxRecDepth 100000 in
set_option maxHeartbeats 1000000 in
theorem m_L_proxy_IAE (l : Launch) (B : hw_B) (nb : Nat → Nat) (S : hw_St) (z : Nat) (hA : hw_al nb) (x y : Int32) (nb1 : Nat → Nat) (S1 : hw_St) (hA1 : hw_al nb1) (hM : hw_MX l yH_proxy cH_proxy 4 (some .int) ({ frames := 6, cells := 1, slots := 9, locals := 90 }) B [.ref (hw_a B 0 0), .int x, .int y] nb S z (hw_qp (.inr "java/lang/IllegalArgumentException") nb1 S1)) : hw_MW l yL_proxy cL_proxy 5 (some .int) [(0, 10, 13, 13), (0, 10, 17, 15)] ({ frames := 7, cells := 1, slots := 9, locals := 113 }) B [.ref (hw_a B 0 0), .int x, .int y, .ref (hw_a B 50 0)] nb S z (hw_pq 1 nb1 S1) := by
  refine hw_MW.of (by decide) (Nat.le_of_ble_eq_true rfl) ?_
  intro X fr hl hR G hr htab
  refine hr_aload_n G dL_proxy_0 rfl rfl ?_
  refine hr_iconst (v := 0) G dL_proxy_1 (by decide) ?_
  refine hr_aload_n G dL_proxy_2 rfl rfl ?_
  refine hr_iload_n G dL_proxy_3 rfl rfl ?_
  refine hr_iload_n G dL_proxy_4 rfl rfl ?_
  refine hr_callX (k := 0) (i := 0) (ci := 0) (T0 := FH) (N := 12) G rfl rfl (hA.lt (show 0 < hw_n0 0 by decide)) kL_43.1 kL_43.2.1 kL_43.2.2.1 lL_43 iH_proxy vH_proxy (by rw [hl]; exact hM) rfl rfl (Nat.le_of_ble_eq_true rfl) ⟨by rw [hR]; decide, by rw [hR]; decide⟩ ⟨by rw [hR]; decide, by rw [hR]; decide⟩ dL_proxy_5 (fun r nb2 S2 z2 hp => ?_) (fun E e nb2 S2 z2 hp => ?_)
  · exact absurd hp.1 (fun q => by cases q)
  · obtain ⟨h1, rfl, h3⟩ := hp
    obtain rfl := Sum.inr.inj h1
    refine ⟨13, ⟨[], _, _, "java/lang/IllegalArgumentException", htab, (fun y hy => absurd hy List.not_mem_nil), by decide, by decide, rfl, qL_13, ca_IAE⟩, ?_⟩
    refine hr_astore (i := 4) G dL_proxy_13 (by decide) ?_
    refine hr_iconst (v := 1) G dL_proxy_15 (by decide) ?_
    exact hr_iret G hr (fun _ h => h) dL_proxy_16 ⟨rfl, rfl, h3⟩
set_option maxRecDepth 100000 in
set_option maxHeartbeats 1000000 in
theorem m_L_proxy_ISE (l : Launch) (B : hw_B) (nb : Nat → Nat) (S : hw_St) (z : Nat) (hA : hw_al nb) (x y : Int32) (nb1 : Nat → Nat) (S1 : hw_St) (hA1 : hw_al nb1) (hM : hw_MX l yH_proxy cH_proxy 4 (some .int) ({ frames := 6, cells := 1, slots := 9, locals := 90 }) B [.ref (hw_a B 0 0), .int x, .int y] nb S z (hw_qp (.inr "java/lang/IllegalStateException") nb1 S1)) : hw_MW l yL_proxy cL_proxy 5 (some .int) [(0, 10, 13, 13), (0, 10, 17, 15)] ({ frames := 7, cells := 1, slots := 9, locals := 113 }) B [.ref (hw_a B 0 0), .int x, .int y, .ref (hw_a B 50 0)] nb S z (hw_pq 2 nb1 S1) := by
  refine hw_MW.of (by decide) (Nat.le_of_ble_eq_true rfl) ?_
  intro X fr hl hR G hr htab
  refine hr_aload_n G dL_proxy_0 rfl rfl ?_
  refine hr_iconst (v := 0) G dL_proxy_1 (by decide) ?_
  refine hr_aload_n G dL_proxy_2 rfl rfl ?_
  refine hr_iload_n G dL_proxy_3 rfl rfl ?_
  refine hr_iload_n G dL_proxy_4 rfl rfl ?_
  refine hr_callX (k := 0) (i := 0) (ci := 0) (T0 := FH) (N := 12) G rfl rfl (hA.lt (show 0 < hw_n0 0 by decide)) kL_43.1 kL_43.2.1 kL_43.2.2.1 lL_43 iH_proxy vH_proxy (by rw [hl]; exact hM) rfl rfl (Nat.le_of_ble_eq_true rfl) ⟨by rw [hR]; decide, by rw [hR]; decide⟩ ⟨by rw [hR]; decide, by rw [hR]; decide⟩ dL_proxy_5 (fun r nb2 S2 z2 hp => ?_) (fun E e nb2 S2 z2 hp => ?_)
  · exact absurd hp.1 (fun q => by cases q)
  · obtain ⟨h1, rfl, h3⟩ := hp
    obtain rfl := Sum.inr.inj h1
    refine ⟨17, ⟨[_], _, _, "java/lang/IllegalStateException", htab, (fun y hy => by rw [List.mem_singleton.mp hy]; exact ⟨by decide, rfl, qL_13⟩), by decide, by decide, rfl, qL_15, ca_ISE⟩, ?_⟩
    refine hr_astore (i := 4) G dL_proxy_17 (by decide) ?_
    refine hr_iconst (v := 2) G dL_proxy_19 (by decide) ?_
    exact hr_iret G hr (fun _ h => h) dL_proxy_20 ⟨rfl, rfl, h3⟩
theorem lL_46 : Cond.methodLink "TicketHouseLaw" 46 yH_validate ∈ hw_TS := hw_in 437 (by decide +kernel) rfl
set_option maxRecDepth 100000 in
set_option maxHeartbeats 1000000 in
theorem m_L_validate_ok (l : Launch) (B : hw_B) (nb : Nat → Nat) (S : hw_St) (z : Nat) (hA : hw_al nb) (x y v w : Int32) (nb1 : Nat → Nat) (S1 : hw_St) (hA1 : hw_al nb1) (a : Int32) (hM : hw_MX l yH_validate cH_validate 7 (some .int) ({ frames := 9, cells := 1, slots := 9, locals := 200 }) B [.ref (hw_a B 0 0), .int x, .int y, .int v, .int w] nb S z (hw_qp (.inl (some (.int a))) nb1 S1)) : hw_MW l yL_validate cL_validate 7 (some .int) [(0, 14, 17, 13)] ({ frames := 10, cells := 1, slots := 9, locals := 226 }) B [.ref (hw_a B 0 0), .int x, .int y, .int v, .int w, .ref (hw_a B 50 0)] nb S z (hw_pq 0 nb1 (hw_sv S1 50 0 0 a)) := by
  refine hw_MW.of (by decide) (Nat.le_of_ble_eq_true rfl) ?_
  intro X fr hl hR G hr htab
  refine hr_aload G dL_validate_0 rfl ?_
  refine hr_iconst (v := 0) G dL_validate_2 (by decide) ?_
  refine hr_aload_n G dL_validate_3 rfl rfl ?_
  refine hr_iload_n G dL_validate_4 rfl rfl ?_
  refine hr_iload_n G dL_validate_5 rfl rfl ?_
  refine hr_iload_n G dL_validate_6 rfl rfl ?_
  refine hr_iload G dL_validate_7 rfl ?_
  refine hr_callX (k := 0) (i := 0) (ci := 0) (T0 := FH) (N := 12) G rfl rfl (hA.lt (show 0 < hw_n0 0 by decide)) kL_46.1 kL_46.2.1 kL_46.2.2.1 lL_46 iH_validate vH_validate (by rw [hl]; exact hM) rfl rfl (Nat.le_of_ble_eq_true rfl) ⟨by rw [hR]; decide, by rw [hR]; decide⟩ ⟨by rw [hR]; decide, by rw [hR]; decide⟩ dL_validate_9 (fun r nb2 S2 z2 hp => ?_) (fun E e nb2 S2 z2 hp => ?_)
  · obtain ⟨h1, rfl, h3⟩ := hp
    obtain rfl := Sum.inl.inj h1
    refine hr_i2l G dL_validate_12 ?_
    refine hr_last (k := 50) (i := 0) (n := 0) (y := a) G rfl (by decide) rfl (hA1.lt (show 0 < hw_n0 50 by decide)) rfl (by decide) rfl dL_validate_13 ?_
    refine hr_goto (tgt := 21) G dL_validate_14 (by decide) ?_
    refine hr_iconst (v := 0) G dL_validate_21 (by decide) ?_
    exact hr_iret G hr (fun _ h => h) dL_validate_22 ⟨rfl, rfl, eqv_out h3⟩
  · exact absurd hp.1 (fun q => by cases q)
set_option maxRecDepth 100000 in
set_option maxHeartbeats 1000000 in
theorem m_L_validate_IAE (l : Launch) (B : hw_B) (nb : Nat → Nat) (S : hw_St) (z : Nat) (hA : hw_al nb) (x y v w : Int32) (nb1 : Nat → Nat) (S1 : hw_St) (hA1 : hw_al nb1) (hM : hw_MX l yH_validate cH_validate 7 (some .int) ({ frames := 9, cells := 1, slots := 9, locals := 200 }) B [.ref (hw_a B 0 0), .int x, .int y, .int v, .int w] nb S z (hw_qp (.inr "java/lang/IllegalArgumentException") nb1 S1)) : hw_MW l yL_validate cL_validate 7 (some .int) [(0, 14, 17, 13)] ({ frames := 10, cells := 1, slots := 9, locals := 226 }) B [.ref (hw_a B 0 0), .int x, .int y, .int v, .int w, .ref (hw_a B 50 0)] nb S z (hw_pq 1 nb1 S1) := by
  refine hw_MW.of (by decide) (Nat.le_of_ble_eq_true rfl) ?_
  intro X fr hl hR G hr htab
  refine hr_aload G dL_validate_0 rfl ?_
  refine hr_iconst (v := 0) G dL_validate_2 (by decide) ?_
  refine hr_aload_n G dL_validate_3 rfl rfl ?_
  refine hr_iload_n G dL_validate_4 rfl rfl ?_
  refine hr_iload_n G dL_validate_5 rfl rfl ?_
  refine hr_iload_n G dL_validate_6 rfl rfl ?_
  refine hr_iload G dL_validate_7 rfl ?_
  refine hr_callX (k := 0) (i := 0) (ci := 0) (T0 := FH) (N := 12) G rfl rfl (hA.lt (show 0 < hw_n0 0 by decide)) kL_46.1 kL_46.2.1 kL_46.2.2.1 lL_46 iH_validate vH_validate (by rw [hl]; exact hM) rfl rfl (Nat.le_of_ble_eq_true rfl) ⟨by rw [hR]; decide, by rw [hR]; decide⟩ ⟨by rw [hR]; decide, by rw [hR]; decide⟩ dL_validate_9 (fun r nb2 S2 z2 hp => ?_) (fun E e nb2 S2 z2 hp => ?_)
  · exact absurd hp.1 (fun q => by cases q)
  · obtain ⟨h1, rfl, h3⟩ := hp
    obtain rfl := Sum.inr.inj h1
    refine ⟨17, ⟨[], _, _, "java/lang/IllegalArgumentException", htab, (fun y hy => absurd hy List.not_mem_nil), by decide, by decide, rfl, qL_13, ca_IAE⟩, ?_⟩
    refine hr_astore (i := 6) G dL_validate_17 (by decide) ?_
    refine hr_iconst (v := 1) G dL_validate_19 (by decide) ?_
    exact hr_iret G hr (fun _ h => h) dL_validate_20 ⟨rfl, rfl, h3⟩
theorem lL_50 : Cond.methodLink "TicketHouseLaw" 50 yH_logout ∈ hw_TS := hw_in 556 (by decide +kernel) rfl
set_option maxRecDepth 100000 in
set_option maxHeartbeats 1000000 in
theorem m_L_logout_ok (l : Launch) (B : hw_B) (nb : Nat → Nat) (S : hw_St) (z : Nat) (hA : hw_al nb) (x : Int32) (nb1 : Nat → Nat) (S1 : hw_St) (hA1 : hw_al nb1) (a : Int32) (hM : hw_MX l yH_logout cH_logout 3 (some .int) ({ frames := 6, cells := 1, slots := 6, locals := 100 }) B [.ref (hw_a B 0 0), .int x] nb S z (hw_qp (.inl (some (.int a))) nb1 S1)) : hw_MW l yL_logout cL_logout 4 (some .int) [(0, 9, 12, 13), (0, 9, 15, 15)] ({ frames := 7, cells := 1, slots := 6, locals := 122 }) B [.ref (hw_a B 0 0), .int x, .ref (hw_a B 50 0)] nb S z (hw_pq 0 nb1 (hw_sv S1 50 0 0 a)) := by
  refine hw_MW.of (by decide) (Nat.le_of_ble_eq_true rfl) ?_
  intro X fr hl hR G hr htab
  refine hr_aload_n G dL_logout_0 rfl rfl ?_
  refine hr_iconst (v := 0) G dL_logout_1 (by decide) ?_
  refine hr_aload_n G dL_logout_2 rfl rfl ?_
  refine hr_iload_n G dL_logout_3 rfl rfl ?_
  refine hr_callX (k := 0) (i := 0) (ci := 0) (T0 := FH) (N := 12) G rfl rfl (hA.lt (show 0 < hw_n0 0 by decide)) kL_50.1 kL_50.2.1 kL_50.2.2.1 lL_50 iH_logout vH_logout (by rw [hl]; exact hM) rfl rfl (Nat.le_of_ble_eq_true rfl) ⟨by rw [hR]; decide, by rw [hR]; decide⟩ ⟨by rw [hR]; decide, by rw [hR]; decide⟩ dL_logout_4 (fun r nb2 S2 z2 hp => ?_) (fun E e nb2 S2 z2 hp => ?_)
  · obtain ⟨h1, rfl, h3⟩ := hp
    obtain rfl := Sum.inl.inj h1
    refine hr_i2l G dL_logout_7 ?_
    refine hr_last (k := 50) (i := 0) (n := 0) (y := a) G rfl (by decide) rfl (hA1.lt (show 0 < hw_n0 50 by decide)) rfl (by decide) rfl dL_logout_8 ?_
    refine hr_goto (tgt := 18) G dL_logout_9 (by decide) ?_
    refine hr_iconst (v := 0) G dL_logout_18 (by decide) ?_
    exact hr_iret G hr (fun _ h => h) dL_logout_19 ⟨rfl, rfl, eqv_out h3⟩
  · exact absurd hp.1 (fun q => by cases q)
set_option maxRecDepth 100000 in
set_option maxHeartbeats 1000000 in
theorem m_L_logout_IAE (l : Launch) (B : hw_B) (nb : Nat → Nat) (S : hw_St) (z : Nat) (hA : hw_al nb) (x : Int32) (nb1 : Nat → Nat) (S1 : hw_St) (hA1 : hw_al nb1) (hM : hw_MX l yH_logout cH_logout 3 (some .int) ({ frames := 6, cells := 1, slots := 6, locals := 100 }) B [.ref (hw_a B 0 0), .int x] nb S z (hw_qp (.inr "java/lang/IllegalArgumentException") nb1 S1)) : hw_MW l yL_logout cL_logout 4 (some .int) [(0, 9, 12, 13), (0, 9, 15, 15)] ({ frames := 7, cells := 1, slots := 6, locals := 122 }) B [.ref (hw_a B 0 0), .int x, .ref (hw_a B 50 0)] nb S z (hw_pq 1 nb1 S1) := by
  refine hw_MW.of (by decide) (Nat.le_of_ble_eq_true rfl) ?_
  intro X fr hl hR G hr htab
  refine hr_aload_n G dL_logout_0 rfl rfl ?_
  refine hr_iconst (v := 0) G dL_logout_1 (by decide) ?_
  refine hr_aload_n G dL_logout_2 rfl rfl ?_
  refine hr_iload_n G dL_logout_3 rfl rfl ?_
  refine hr_callX (k := 0) (i := 0) (ci := 0) (T0 := FH) (N := 12) G rfl rfl (hA.lt (show 0 < hw_n0 0 by decide)) kL_50.1 kL_50.2.1 kL_50.2.2.1 lL_50 iH_logout vH_logout (by rw [hl]; exact hM) rfl rfl (Nat.le_of_ble_eq_true rfl) ⟨by rw [hR]; decide, by rw [hR]; decide⟩ ⟨by rw [hR]; decide, by rw [hR]; decide⟩ dL_logout_4 (fun r nb2 S2 z2 hp => ?_) (fun E e nb2 S2 z2 hp => ?_)
  · exact absurd hp.1 (fun q => by cases q)
  · obtain ⟨h1, rfl, h3⟩ := hp
    obtain rfl := Sum.inr.inj h1
    refine ⟨12, ⟨[], _, _, "java/lang/IllegalArgumentException", htab, (fun y hy => absurd hy List.not_mem_nil), by decide, by decide, rfl, qL_13, ca_IAE⟩, ?_⟩
    refine hr_astore_n (i := 3) G dL_logout_12 rfl (by decide) ?_
    refine hr_iconst (v := 1) G dL_logout_13 (by decide) ?_
    exact hr_iret G hr (fun _ h => h) dL_logout_14 ⟨rfl, rfl, h3⟩
set_option maxRecDepth 100000 in
set_option maxHeartbeats 1000000 in
theorem m_L_logout_ISE (l : Launch) (B : hw_B) (nb : Nat → Nat) (S : hw_St) (z : Nat) (hA : hw_al nb) (x : Int32) (nb1 : Nat → Nat) (S1 : hw_St) (hA1 : hw_al nb1) (hM : hw_MX l yH_logout cH_logout 3 (some .int) ({ frames := 6, cells := 1, slots := 6, locals := 100 }) B [.ref (hw_a B 0 0), .int x] nb S z (hw_qp (.inr "java/lang/IllegalStateException") nb1 S1)) : hw_MW l yL_logout cL_logout 4 (some .int) [(0, 9, 12, 13), (0, 9, 15, 15)] ({ frames := 7, cells := 1, slots := 6, locals := 122 }) B [.ref (hw_a B 0 0), .int x, .ref (hw_a B 50 0)] nb S z (hw_pq 2 nb1 S1) := by
  refine hw_MW.of (by decide) (Nat.le_of_ble_eq_true rfl) ?_
  intro X fr hl hR G hr htab
  refine hr_aload_n G dL_logout_0 rfl rfl ?_
  refine hr_iconst (v := 0) G dL_logout_1 (by decide) ?_
  refine hr_aload_n G dL_logout_2 rfl rfl ?_
  refine hr_iload_n G dL_logout_3 rfl rfl ?_
  refine hr_callX (k := 0) (i := 0) (ci := 0) (T0 := FH) (N := 12) G rfl rfl (hA.lt (show 0 < hw_n0 0 by decide)) kL_50.1 kL_50.2.1 kL_50.2.2.1 lL_50 iH_logout vH_logout (by rw [hl]; exact hM) rfl rfl (Nat.le_of_ble_eq_true rfl) ⟨by rw [hR]; decide, by rw [hR]; decide⟩ ⟨by rw [hR]; decide, by rw [hR]; decide⟩ dL_logout_4 (fun r nb2 S2 z2 hp => ?_) (fun E e nb2 S2 z2 hp => ?_)
  · exact absurd hp.1 (fun q => by cases q)
  · obtain ⟨h1, rfl, h3⟩ := hp
    obtain rfl := Sum.inr.inj h1
    refine ⟨15, ⟨[_], _, _, "java/lang/IllegalStateException", htab, (fun y hy => by rw [List.mem_singleton.mp hy]; exact ⟨by decide, rfl, qL_13⟩), by decide, by decide, rfl, qL_15, ca_ISE⟩, ?_⟩
    refine hr_astore_n (i := 3) G dL_logout_15 rfl (by decide) ?_
    refine hr_iconst (v := 2) G dL_logout_16 (by decide) ?_
    exact hr_iret G hr (fun _ h => h) dL_logout_17 ⟨rfl, rfl, h3⟩
theorem lL_53 : Cond.methodLink "TicketHouseLaw" 53 yH_tick ∈ hw_TS := hw_in 573 (by decide +kernel) rfl
set_option maxRecDepth 100000 in
set_option maxHeartbeats 1000000 in
theorem m_L_tick_ok (l : Launch) (B : hw_B) (nb : Nat → Nat) (S : hw_St) (z : Nat) (hA : hw_al nb) (x : Int32) (nb1 : Nat → Nat) (S1 : hw_St) (hA1 : hw_al nb1) (a : Int32) (hM : hw_MX l yH_tick cH_tick 3 (some .int) ({ frames := 6, cells := 1, slots := 6, locals := 100 }) B [.ref (hw_a B 0 0), .int x] nb S z (hw_qp (.inl (some (.int a))) nb1 S1)) : hw_MW l yL_tick cL_tick 4 (some .int) [(0, 9, 12, 13)] ({ frames := 7, cells := 1, slots := 6, locals := 122 }) B [.ref (hw_a B 0 0), .int x, .ref (hw_a B 50 0)] nb S z (hw_pq 0 nb1 (hw_sv S1 50 0 0 a)) := by
  refine hw_MW.of (by decide) (Nat.le_of_ble_eq_true rfl) ?_
  intro X fr hl hR G hr htab
  refine hr_aload_n G dL_tick_0 rfl rfl ?_
  refine hr_iconst (v := 0) G dL_tick_1 (by decide) ?_
  refine hr_aload_n G dL_tick_2 rfl rfl ?_
  refine hr_iload_n G dL_tick_3 rfl rfl ?_
  refine hr_callX (k := 0) (i := 0) (ci := 0) (T0 := FH) (N := 12) G rfl rfl (hA.lt (show 0 < hw_n0 0 by decide)) kL_53.1 kL_53.2.1 kL_53.2.2.1 lL_53 iH_tick vH_tick (by rw [hl]; exact hM) rfl rfl (Nat.le_of_ble_eq_true rfl) ⟨by rw [hR]; decide, by rw [hR]; decide⟩ ⟨by rw [hR]; decide, by rw [hR]; decide⟩ dL_tick_4 (fun r nb2 S2 z2 hp => ?_) (fun E e nb2 S2 z2 hp => ?_)
  · obtain ⟨h1, rfl, h3⟩ := hp
    obtain rfl := Sum.inl.inj h1
    refine hr_i2l G dL_tick_7 ?_
    refine hr_last (k := 50) (i := 0) (n := 0) (y := a) G rfl (by decide) rfl (hA1.lt (show 0 < hw_n0 50 by decide)) rfl (by decide) rfl dL_tick_8 ?_
    refine hr_goto (tgt := 15) G dL_tick_9 (by decide) ?_
    refine hr_iconst (v := 0) G dL_tick_15 (by decide) ?_
    exact hr_iret G hr (fun _ h => h) dL_tick_16 ⟨rfl, rfl, eqv_out h3⟩
  · exact absurd hp.1 (fun q => by cases q)
set_option maxRecDepth 100000 in
set_option maxHeartbeats 1000000 in
theorem m_L_tick_IAE (l : Launch) (B : hw_B) (nb : Nat → Nat) (S : hw_St) (z : Nat) (hA : hw_al nb) (x : Int32) (nb1 : Nat → Nat) (S1 : hw_St) (hA1 : hw_al nb1) (hM : hw_MX l yH_tick cH_tick 3 (some .int) ({ frames := 6, cells := 1, slots := 6, locals := 100 }) B [.ref (hw_a B 0 0), .int x] nb S z (hw_qp (.inr "java/lang/IllegalArgumentException") nb1 S1)) : hw_MW l yL_tick cL_tick 4 (some .int) [(0, 9, 12, 13)] ({ frames := 7, cells := 1, slots := 6, locals := 122 }) B [.ref (hw_a B 0 0), .int x, .ref (hw_a B 50 0)] nb S z (hw_pq 1 nb1 S1) := by
  refine hw_MW.of (by decide) (Nat.le_of_ble_eq_true rfl) ?_
  intro X fr hl hR G hr htab
  refine hr_aload_n G dL_tick_0 rfl rfl ?_
  refine hr_iconst (v := 0) G dL_tick_1 (by decide) ?_
  refine hr_aload_n G dL_tick_2 rfl rfl ?_
  refine hr_iload_n G dL_tick_3 rfl rfl ?_
  refine hr_callX (k := 0) (i := 0) (ci := 0) (T0 := FH) (N := 12) G rfl rfl (hA.lt (show 0 < hw_n0 0 by decide)) kL_53.1 kL_53.2.1 kL_53.2.2.1 lL_53 iH_tick vH_tick (by rw [hl]; exact hM) rfl rfl (Nat.le_of_ble_eq_true rfl) ⟨by rw [hR]; decide, by rw [hR]; decide⟩ ⟨by rw [hR]; decide, by rw [hR]; decide⟩ dL_tick_4 (fun r nb2 S2 z2 hp => ?_) (fun E e nb2 S2 z2 hp => ?_)
  · exact absurd hp.1 (fun q => by cases q)
  · obtain ⟨h1, rfl, h3⟩ := hp
    obtain rfl := Sum.inr.inj h1
    refine ⟨12, ⟨[], _, _, "java/lang/IllegalArgumentException", htab, (fun y hy => absurd hy List.not_mem_nil), by decide, by decide, rfl, qL_13, ca_IAE⟩, ?_⟩
    refine hr_astore_n (i := 3) G dL_tick_12 rfl (by decide) ?_
    refine hr_iconst (v := 1) G dL_tick_13 (by decide) ?_
    exact hr_iret G hr (fun _ h => h) dL_tick_14 ⟨rfl, rfl, h3⟩
