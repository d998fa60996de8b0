/-! Finding and asking. -/
set_option maxRecDepth 100000 in
set_option maxHeartbeats 1000000 in
theorem m_H_isService_y (l : Launch) (B : hw_B) (nb : Nat → Nat) (S : hw_St) (z : Nat) (s : Nat) (hs : s < 6) : hw_M l yH_isService cH_isService 1 (some .boolean) ({ frames := 0, cells := 0, slots := 0, locals := 0 }) B [.int (nI s)] nb S z (hw_p (.inl (some (.int 1))) nb S z) := by
  refine hw_M.of (by decide) (Nat.le_of_ble_eq_true rfl) ?_
  intro X fr hl hR G hr hnm
  refine hr_iload_n G dH_isService_0 rfl rfl ?_
  refine hr_if_lt (tgt := 14) G dH_isService_1 (by decide) (fun h => absurd h (nI_pos (by omega))) (fun _ => ?_)
  refine hr_iload_n G dH_isService_4 rfl rfl ?_
  refine hr_bipush (v := 6) G dH_isService_5 (by decide) ?_
  refine hr_icmp_ge (tgt := 14) G dH_isService_7 (by decide) (fun h => absurd h (show ¬ (6 : Int32) ≤ nI s from nI_ge (b := 6) hs (by decide))) (fun _ => ?_)
  refine hr_iconst (v := 1) G dH_isService_10 (by decide) ?_
  refine hr_goto (tgt := 15) G dH_isService_11 (by decide) ?_
  exact hr_zret G hr (rfl) (fun _ h => h) dH_isService_15 hw_pi
set_option maxRecDepth 100000 in
set_option maxHeartbeats 1000000 in
theorem m_H_isService_n (l : Launch) (B : hw_B) (nb : Nat → Nat) (S : hw_St) (z : Nat) (x : Int32) (hx : x < 0 ∨ 6 ≤ x) : hw_M l yH_isService cH_isService 1 (some .boolean) ({ frames := 0, cells := 0, slots := 0, locals := 0 }) B [.int x] nb S z (hw_p (.inl (some (.int 0))) nb S z) := by
  refine hw_M.of (by decide) (Nat.le_of_ble_eq_true rfl) ?_
  intro X fr hl hR G hr hnm
  refine hr_iload_n G dH_isService_0 rfl rfl ?_
  refine hr_if_lt (tgt := 14) G dH_isService_1 (by decide) (fun h1 => ?_) (fun h1 => ?_)
  · skip
    refine hr_iconst (v := 0) G dH_isService_14 (by decide) ?_
    exact hr_zret G hr (rfl) (fun _ h => h) dH_isService_15 hw_pi
  · skip
    refine hr_iload_n G dH_isService_4 rfl rfl ?_
    refine hr_bipush (v := 6) G dH_isService_5 (by decide) ?_
    refine hr_icmp_ge (tgt := 14) G dH_isService_7 (by decide) (fun _ => ?_) (fun h => absurd (hx.resolve_left h1) h)
    refine hr_iconst (v := 0) G dH_isService_14 (by decide) ?_
    exact hr_zret G hr (rfl) (fun _ h => h) dH_isService_15 hw_pi
set_option maxRecDepth 100000 in
set_option maxHeartbeats 1000000 in
theorem m_H_findUser_y (l : Launch) (B : hw_B) (nb : Nat → Nat) (S : hw_St) (z : Nat) (hA : hw_al nb) (hF : hw_Fx S) (u : Nat) (hu : u < 4) : hw_M l yH_findUser cH_findUser 2 (some (.object "TicketHouse$User")) ({ frames := 0, cells := 0, slots := 0, locals := 0 }) B [.ref (hw_a B 0 0), .int (nI u)] nb S z (hw_p (.inl (some (.ref (hw_a B 2 u)))) nb S z) := by
  refine hw_M.of (by decide) (Nat.le_of_ble_eq_true rfl) ?_
  intro X fr hl hR G hr hnm
  refine hr_iload_n G dH_findUser_0 rfl rfl ?_
  refine hr_if_lt (tgt := 18) G dH_findUser_1 (by decide) (fun h => absurd h (nI_pos (by omega))) (fun _ => ?_)
  refine hr_iload_n G dH_findUser_4 rfl rfl ?_
  refine hr_iconst (v := 4) G dH_findUser_5 (by decide) ?_
  refine hr_icmp_ge (tgt := 18) G dH_findUser_6 (by decide) (fun h => absurd h (show ¬ (4 : Int32) ≤ nI u from nI_ge (b := 4) hu (by decide))) (fun _ => ?_)
  refine hr_aload_n G dH_findUser_9 rfl rfl ?_
  refine hr_get (v := .ref (hw_a B 1 0)) G fH_11 (hA.lt (show 0 < hw_n0 0 by decide)) (hw_rfx hF (by decide) rfl (by decide)) dH_findUser_10 ?_
  refine hr_iload_n G dH_findUser_13 rfl rfl ?_
  refine hr_aald (n := u) (v := .ref (hw_a B 2 u)) G rfl (by decide) rfl (hA.lt (show 0 < hw_n0 1 by decide)) rfl hu (hw_rfx hF (by decide) rfl (by omega)) dH_findUser_14 ?_
  refine hr_goto (tgt := 19) G dH_findUser_15 (by decide) ?_
  exact hr_aret G hr (Or.inr ⟨_, rfl⟩) (fun _ h => h) dH_findUser_19 hw_pi
set_option maxRecDepth 100000 in
set_option maxHeartbeats 1000000 in
theorem m_H_findUser_n (l : Launch) (B : hw_B) (nb : Nat → Nat) (S : hw_St) (z : Nat) (x : Int32) (hx : x < 0 ∨ 4 ≤ x) : hw_M l yH_findUser cH_findUser 2 (some (.object "TicketHouse$User")) ({ frames := 0, cells := 0, slots := 0, locals := 0 }) B [.ref (hw_a B 0 0), .int x] nb S z (hw_p (.inl (some .null)) nb S z) := by
  refine hw_M.of (by decide) (Nat.le_of_ble_eq_true rfl) ?_
  intro X fr hl hR G hr hnm
  refine hr_iload_n G dH_findUser_0 rfl rfl ?_
  refine hr_if_lt (tgt := 18) G dH_findUser_1 (by decide) (fun h1 => ?_) (fun h1 => ?_)
  · skip
    refine hr_null G dH_findUser_18 ?_
    exact hr_aret G hr (Or.inl rfl) (fun _ h => h) dH_findUser_19 hw_pi
  · skip
    refine hr_iload_n G dH_findUser_4 rfl rfl ?_
    refine hr_iconst (v := 4) G dH_findUser_5 (by decide) ?_
    refine hr_icmp_ge (tgt := 18) G dH_findUser_6 (by decide) (fun _ => ?_) (fun h => absurd (hx.resolve_left h1) h)
    refine hr_null G dH_findUser_18 ?_
    exact hr_aret G hr (Or.inl rfl) (fun _ h => h) dH_findUser_19 hw_pi
set_option maxRecDepth 100000 in
set_option maxHeartbeats 1000000 in
theorem m_H_findSession_y (l : Launch) (B : hw_B) (nb : Nat → Nat) (S : hw_St) (z : Nat) (hA : hw_al nb) (hF : hw_Fx S) (i n : Nat) (hc : S 0 0 8 = nI n) (hn : n ≤ 40) (hi : i < n) (he : S 8 0 i = nI i) : hw_M l yH_findSession cH_findSession 2 (some (.object "TicketHouse$Session")) ({ frames := 0, cells := 0, slots := 0, locals := 0 }) B [.ref (hw_a B 0 0), .int (nI i)] nb S z (hw_p (.inl (some (.ref (hw_a B 9 i)))) nb S z) := by
  refine hw_M.of (by decide) (Nat.le_of_ble_eq_true rfl) ?_
  intro X fr hl hR G hr hnm
  refine hr_iload_n G dH_findSession_0 rfl rfl ?_
  refine hr_if_lt (tgt := 21) G dH_findSession_1 (by decide) (fun h => absurd h (nI_pos (by omega))) (fun _ => ?_)
  refine hr_iload_n G dH_findSession_4 rfl rfl ?_
  refine hr_aload_n G dH_findSession_5 rfl rfl ?_
  refine hr_get (v := .int (S 0 0 8)) G fH_101 (hA.lt (show 0 < hw_n0 0 by decide)) rfl dH_findSession_6 ?_
  refine hr_icmp_ge (tgt := 21) G dH_findSession_9 (by decide) (fun h => absurd h (show ¬ (S 0 0 8) ≤ nI i from by rw [hc]; exact nI_ge hi (by omega))) (fun _ => ?_)
  refine hr_aload_n G dH_findSession_12 rfl rfl ?_
  refine hr_get (v := .ref (hw_a B 8 0)) G fH_25 (hA.lt (show 0 < hw_n0 0 by decide)) (hw_rfx hF (by decide) rfl (by decide)) dH_findSession_13 ?_
  refine hr_iload_n G dH_findSession_16 rfl rfl ?_
  refine hr_aald (n := i) (v := .ref (hw_a B 9 i)) G rfl (by decide) rfl (hA.lt (show 0 < hw_n0 8 by decide)) rfl (show i < 40 by omega) (hw_rdy he (by omega)) dH_findSession_17 ?_
  refine hr_goto (tgt := 22) G dH_findSession_18 (by decide) ?_
  exact hr_aret G hr (Or.inr ⟨_, rfl⟩) (fun _ h => h) dH_findSession_22 hw_pi
set_option maxRecDepth 100000 in
set_option maxHeartbeats 1000000 in
theorem m_H_findSession_n (l : Launch) (B : hw_B) (nb : Nat → Nat) (S : hw_St) (z : Nat) (hA : hw_al nb) (hF : hw_Fx S) (x : Int32) (hx : x < 0 ∨ (S 0 0 8) ≤ x) : hw_M l yH_findSession cH_findSession 2 (some (.object "TicketHouse$Session")) ({ frames := 0, cells := 0, slots := 0, locals := 0 }) B [.ref (hw_a B 0 0), .int x] nb S z (hw_p (.inl (some .null)) nb S z) := by
  refine hw_M.of (by decide) (Nat.le_of_ble_eq_true rfl) ?_
  intro X fr hl hR G hr hnm
  refine hr_iload_n G dH_findSession_0 rfl rfl ?_
  refine hr_if_lt (tgt := 21) G dH_findSession_1 (by decide) (fun h1 => ?_) (fun h1 => ?_)
  · skip
    refine hr_null G dH_findSession_21 ?_
    exact hr_aret G hr (Or.inl rfl) (fun _ h => h) dH_findSession_22 hw_pi
  · skip
    refine hr_iload_n G dH_findSession_4 rfl rfl ?_
    refine hr_aload_n G dH_findSession_5 rfl rfl ?_
    refine hr_get (v := .int (S 0 0 8)) G fH_101 (hA.lt (show 0 < hw_n0 0 by decide)) rfl dH_findSession_6 ?_
    refine hr_icmp_ge (tgt := 21) G dH_findSession_9 (by decide) (fun _ => ?_) (fun h => absurd (hx.resolve_left h1) h)
    refine hr_null G dH_findSession_21 ?_
    exact hr_aret G hr (Or.inl rfl) (fun _ h => h) dH_findSession_22 hw_pi
set_option maxRecDepth 100000 in
set_option maxHeartbeats 1000000 in
theorem m_H_findTicket_y (l : Launch) (B : hw_B) (nb : Nat → Nat) (S : hw_St) (z : Nat) (hA : hw_al nb) (hF : hw_Fx S) (i n : Nat) (hc : S 0 0 9 = nI n) (hn : n ≤ 150) (hi : i < n) (he : S 10 0 i = nI i) : hw_M l yH_findTicket cH_findTicket 2 (some (.object "TicketHouse$Ticket")) ({ frames := 0, cells := 0, slots := 0, locals := 0 }) B [.ref (hw_a B 0 0), .int (nI i)] nb S z (hw_p (.inl (some (.ref (hw_a B 11 i)))) nb S z) := by
  refine hw_M.of (by decide) (Nat.le_of_ble_eq_true rfl) ?_
  intro X fr hl hR G hr hnm
  refine hr_iload_n G dH_findTicket_0 rfl rfl ?_
  refine hr_if_lt (tgt := 21) G dH_findTicket_1 (by decide) (fun h => absurd h (nI_pos (by omega))) (fun _ => ?_)
  refine hr_iload_n G dH_findTicket_4 rfl rfl ?_
  refine hr_aload_n G dH_findTicket_5 rfl rfl ?_
  refine hr_get (v := .int (S 0 0 9)) G fH_125 (hA.lt (show 0 < hw_n0 0 by decide)) rfl dH_findTicket_6 ?_
  refine hr_icmp_ge (tgt := 21) G dH_findTicket_9 (by decide) (fun h => absurd h (show ¬ (S 0 0 9) ≤ nI i from by rw [hc]; exact nI_ge hi (by omega))) (fun _ => ?_)
  refine hr_aload_n G dH_findTicket_12 rfl rfl ?_
  refine hr_get (v := .ref (hw_a B 10 0)) G fH_31 (hA.lt (show 0 < hw_n0 0 by decide)) (hw_rfx hF (by decide) rfl (by decide)) dH_findTicket_13 ?_
  refine hr_iload_n G dH_findTicket_16 rfl rfl ?_
  refine hr_aald (n := i) (v := .ref (hw_a B 11 i)) G rfl (by decide) rfl (hA.lt (show 0 < hw_n0 10 by decide)) rfl (show i < 150 by omega) (hw_rdy he (by omega)) dH_findTicket_17 ?_
  refine hr_goto (tgt := 22) G dH_findTicket_18 (by decide) ?_
  exact hr_aret G hr (Or.inr ⟨_, rfl⟩) (fun _ h => h) dH_findTicket_22 hw_pi
set_option maxRecDepth 100000 in
set_option maxHeartbeats 1000000 in
theorem m_H_findTicket_n (l : Launch) (B : hw_B) (nb : Nat → Nat) (S : hw_St) (z : Nat) (hA : hw_al nb) (hF : hw_Fx S) (x : Int32) (hx : x < 0 ∨ (S 0 0 9) ≤ x) : hw_M l yH_findTicket cH_findTicket 2 (some (.object "TicketHouse$Ticket")) ({ frames := 0, cells := 0, slots := 0, locals := 0 }) B [.ref (hw_a B 0 0), .int x] nb S z (hw_p (.inl (some .null)) nb S z) := by
  refine hw_M.of (by decide) (Nat.le_of_ble_eq_true rfl) ?_
  intro X fr hl hR G hr hnm
  refine hr_iload_n G dH_findTicket_0 rfl rfl ?_
  refine hr_if_lt (tgt := 21) G dH_findTicket_1 (by decide) (fun h1 => ?_) (fun h1 => ?_)
  · skip
    refine hr_null G dH_findTicket_21 ?_
    exact hr_aret G hr (Or.inl rfl) (fun _ h => h) dH_findTicket_22 hw_pi
  · skip
    refine hr_iload_n G dH_findTicket_4 rfl rfl ?_
    refine hr_aload_n G dH_findTicket_5 rfl rfl ?_
    refine hr_get (v := .int (S 0 0 9)) G fH_125 (hA.lt (show 0 < hw_n0 0 by decide)) rfl dH_findTicket_6 ?_
    refine hr_icmp_ge (tgt := 21) G dH_findTicket_9 (by decide) (fun _ => ?_) (fun h => absurd (hx.resolve_left h1) h)
    refine hr_null G dH_findTicket_21 ?_
    exact hr_aret G hr (Or.inl rfl) (fun _ h => h) dH_findTicket_22 hw_pi
def hs_fl (S : hw_St) (s : Nat) (f : Int32) : Int32 := if S 6 0 s &&& f = 0 then 0 else 1
set_option maxRecDepth 100000 in
set_option maxHeartbeats 1000000 in
theorem m_H_hasFlag_y (l : Launch) (B : hw_B) (nb : Nat → Nat) (S : hw_St) (z : Nat) (hA : hw_al nb) (hF : hw_Fx S) (s : Nat) (f : Int32) (hs : s < 6) : hw_M l yH_hasFlag cH_hasFlag 3 (some .boolean) ({ frames := 1, cells := 0, slots := 0, locals := 20 }) B [.ref (hw_a B 0 0), .int (nI s), .int f] nb S z (hw_p (.inl (some (.int (hs_fl S s f)))) nb S z) := by
  refine hw_M.of (by decide) (Nat.le_of_ble_eq_true rfl) ?_
  intro X fr hl hR G hr hnm
  refine hr_iload_n G dH_hasFlag_0 rfl rfl ?_
  refine hr_callSs G kH_93 sH_isService (m_H_isService_y _ _ _ _ _ s hs) rfl rfl (Nat.le_of_ble_eq_true rfl) ⟨by rw [hR]; decide, by rw [hR]; decide⟩ ⟨by rw [hR]; decide, by rw [hR]; decide⟩ dH_hasFlag_1 ?_
  refine hr_if_eq (tgt := 22) G dH_hasFlag_4 (by decide) (fun h => absurd h (by decide)) (fun _ => ?_)
  refine hr_aload_n G dH_hasFlag_7 rfl rfl ?_
  refine hr_get (v := .ref (hw_a B 6 0)) G fH_15 (hA.lt (show 0 < hw_n0 0 by decide)) (hw_rfx hF (by decide) rfl (by decide)) dH_hasFlag_8 ?_
  refine hr_iload_n G dH_hasFlag_11 rfl rfl ?_
  refine hr_iald (n := s) (v := .int (S 6 0 s)) G rfl (by decide) rfl (hA.lt (show 0 < hw_n0 6 by decide)) rfl hs rfl dH_hasFlag_12 ?_
  refine hr_iload_n G dH_hasFlag_13 rfl rfl ?_
  refine hr_iand G dH_hasFlag_14 ?_
  refine hr_if_eq (tgt := 22) G dH_hasFlag_15 (by decide) (fun h15 => ?_) (fun h15 => ?_)
  · skip
    refine hr_iconst (v := 0) G dH_hasFlag_22 (by decide) ?_
    exact hr_zret G hr (rfl) (fun _ h => h) dH_hasFlag_23 ⟨by simp only [hs_fl, h15, ↓reduceIte, eq_self, true_or, or_true, or_self], rfl, (by first | rfl | simp only [hs_fl, h15, ↓reduceIte, eq_self, true_or, or_true, or_self]), rfl⟩
  · skip
    refine hr_iconst (v := 1) G dH_hasFlag_18 (by decide) ?_
    refine hr_goto (tgt := 23) G dH_hasFlag_19 (by decide) ?_
    exact hr_zret G hr (rfl) (fun _ h => h) dH_hasFlag_23 ⟨by simp only [hs_fl, h15, ↓reduceIte, eq_self, true_or, or_true, or_self], rfl, (by first | rfl | simp only [hs_fl, h15, ↓reduceIte, eq_self, true_or, or_true, or_self]), rfl⟩
set_option maxRecDepth 100000 in
set_option maxHeartbeats 1000000 in
theorem m_H_hasFlag_n (l : Launch) (B : hw_B) (nb : Nat → Nat) (S : hw_St) (z : Nat) (x : Int32) (f : Int32) (hx : x < 0 ∨ 6 ≤ x) : hw_M l yH_hasFlag cH_hasFlag 3 (some .boolean) ({ frames := 1, cells := 0, slots := 0, locals := 20 }) B [.ref (hw_a B 0 0), .int x, .int f] nb S z (hw_p (.inl (some (.int 0))) nb S z) := by
  refine hw_M.of (by decide) (Nat.le_of_ble_eq_true rfl) ?_
  intro X fr hl hR G hr hnm
  refine hr_iload_n G dH_hasFlag_0 rfl rfl ?_
  refine hr_callSs G kH_93 sH_isService (m_H_isService_n _ _ _ _ _ x hx) rfl rfl (Nat.le_of_ble_eq_true rfl) ⟨by rw [hR]; decide, by rw [hR]; decide⟩ ⟨by rw [hR]; decide, by rw [hR]; decide⟩ dH_hasFlag_1 ?_
  refine hr_if_eq (tgt := 22) G dH_hasFlag_4 (by decide) (fun _ => ?_) (fun h => absurd (by decide) h)
  refine hr_iconst (v := 0) G dH_hasFlag_22 (by decide) ?_
  exact hr_zret G hr (rfl) (fun _ h => h) dH_hasFlag_23 hw_pi
theorem hs_fl01 (S : hw_St) (s : Nat) (f : Int32) : narrow .boolean (.int (hs_fl S s f)) = .int (hs_fl S s f) := by
  unfold hs_fl; split <;> rfl
set_option maxRecDepth 100000 in
set_option maxHeartbeats 1000000 in
theorem m_H_isEnabled_y (l : Launch) (B : hw_B) (nb : Nat → Nat) (S : hw_St) (z : Nat) (hA : hw_al nb) (hF : hw_Fx S) (s : Nat) (hs : s < 6) : hw_M l yH_isEnabled cH_isEnabled 2 (some .boolean) ({ frames := 2, cells := 0, slots := 0, locals := 42 }) B [.ref (hw_a B 0 0), .int (nI s)] nb S z (hw_p (.inl (some (.int (hs_fl S s 1)))) nb S z) := by
  refine hw_M.of (by decide) (Nat.le_of_ble_eq_true rfl) ?_
  intro X fr hl hR G hr hnm
  refine hr_aload_n G dH_isEnabled_0 rfl rfl ?_
  refine hr_iload_n G dH_isEnabled_1 rfl rfl ?_
  refine hr_iconst (v := 1) G dH_isEnabled_2 (by decide) ?_
  refine hr_callVs (k := 0) (i := 0) G rfl rfl (hA.lt (show 0 < hw_n0 0 by decide)) kH_247 iH_hasFlag vH_hasFlag (m_H_hasFlag_y _ _ _ _ _ hA hF s 1 hs) rfl rfl (Nat.le_of_ble_eq_true rfl) ⟨by rw [hR]; decide, by rw [hR]; decide⟩ ⟨by rw [hR]; decide, by rw [hR]; decide⟩ dH_isEnabled_3 ?_
  exact hr_zret G hr (hs_fl01 S s 1) (fun _ h => h) dH_isEnabled_6 hw_pi
set_option maxRecDepth 100000 in
set_option maxHeartbeats 1000000 in
theorem m_H_isEnabled_n (l : Launch) (B : hw_B) (nb : Nat → Nat) (S : hw_St) (z : Nat) (hA : hw_al nb) (x : Int32) (hx : x < 0 ∨ 6 ≤ x) : hw_M l yH_isEnabled cH_isEnabled 2 (some .boolean) ({ frames := 2, cells := 0, slots := 0, locals := 42 }) B [.ref (hw_a B 0 0), .int x] nb S z (hw_p (.inl (some (.int 0))) nb S z) := by
  refine hw_M.of (by decide) (Nat.le_of_ble_eq_true rfl) ?_
  intro X fr hl hR G hr hnm
  refine hr_aload_n G dH_isEnabled_0 rfl rfl ?_
  refine hr_iload_n G dH_isEnabled_1 rfl rfl ?_
  refine hr_iconst (v := 1) G dH_isEnabled_2 (by decide) ?_
  refine hr_callVs (k := 0) (i := 0) G rfl rfl (hA.lt (show 0 < hw_n0 0 by decide)) kH_247 iH_hasFlag vH_hasFlag (m_H_hasFlag_n _ _ _ _ _ x 1 hx) rfl rfl (Nat.le_of_ble_eq_true rfl) ⟨by rw [hR]; decide, by rw [hR]; decide⟩ ⟨by rw [hR]; decide, by rw [hR]; decide⟩ dH_isEnabled_3 ?_
  exact hr_zret G hr (rfl) (fun _ h => h) dH_isEnabled_6 hw_pi
