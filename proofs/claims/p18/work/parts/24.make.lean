/-! Sessions and tickets. -/
theorem ib_ft {x : Int32} (h : x = 0 ∨ x = 1) : fits .boolean (.int x) = true := by
  rcases h with rfl | rfl <;> rfl
theorem hw_nbs {nb : Nat → Nat} {k : Nat} : nb k < hw_nb nb k k := by
  unfold hw_nb; rw [if_pos rfl]; exact Nat.lt_succ_self _
def se_new (S : hw_St) (n : Nat) (x : Int32) (u : Nat) (t r : Int32) : hw_St := hw_sv (hw_sv (hw_sv (hw_sv (hw_sv (hw_sv S 9 n 5 1) 9 n 0 x) 9 n 1 (nI u)) 9 n 2 t) 9 n 3 r) 9 n 4 t
set_option maxRecDepth 100000 in
set_option maxHeartbeats 1000000 in
theorem m_S_init (l : Launch) (B : hw_B) (nb : Nat → Nat) (S : hw_St) (z : Nat) (n : Nat) (hi : n < nb 9) (x : Int32) (u : Nat) (hu : u < 4) (t r : Int32) (hr1 : ib_b r) : hw_M l yS_init cS_init 5 none ({ frames := 1, cells := 0, slots := 0, locals := 12 }) B [.ref (hw_a B 9 n), .int x, .ref (hw_a B 2 u), .int t, .int r] nb S z (hw_p (.inl none) nb (se_new S n x u t r) z) := by
  refine hw_M.of (by decide) (Nat.le_of_ble_eq_true rfl) ?_
  intro X fr hl hR G hr hnm
  refine hr_aload_n G dS_init_0 rfl rfl ?_
  refine hr_objInit G oS.1 oS.2.1 oS.2.2 dS_init_1 (by rw [hR]; decide) (by rw [hR]; decide) ?_
  refine hr_aload_n G dS_init_4 rfl rfl ?_
  refine hr_iconst (v := 1) G dS_init_5 (by decide) ?_
  refine hr_put (x := 1) G fS_7 hi rfl (rfl) rfl dS_init_6 ?_
  refine hr_aload_n G dS_init_9 rfl rfl ?_
  refine hr_iload_n G dS_init_10 rfl rfl ?_
  refine hr_putF (x := x) G fS_13 (fun _ _ _ _ h1 h2 => by cases h1; cases h2; rfl) hnm hi rfl (rfl) rfl dS_init_11 ?_
  refine hr_aload_n G dS_init_14 rfl rfl ?_
  refine hr_aload_n G dS_init_15 rfl rfl ?_
  refine hr_putF (x := nI u) (v := .ref (hw_a B 2 u)) G fS_17 (fun _ _ _ _ h1 h2 => by cases h1; cases h2; rfl) hnm hi (hw_rdr (by omega)) rfl rfl dS_init_16 ?_
  refine hr_aload_n G dS_init_19 rfl rfl ?_
  refine hr_iload_n G dS_init_20 rfl rfl ?_
  refine hr_putF (x := t) G fS_21 (fun _ _ _ _ h1 h2 => by cases h1; cases h2; rfl) hnm hi rfl (rfl) rfl dS_init_21 ?_
  refine hr_aload_n G dS_init_24 rfl rfl ?_
  refine hr_iload G dS_init_25 rfl ?_
  refine hr_putF (x := r) G fS_24 (fun _ _ _ _ h1 h2 => by cases h1; cases h2; rfl) hnm hi rfl (ib_01 hr1) (ib_ft hr1) dS_init_27 ?_
  refine hr_aload_n G dS_init_30 rfl rfl ?_
  refine hr_iload_n G dS_init_31 rfl rfl ?_
  refine hr_put (x := t) G fS_27 hi rfl (rfl) rfl dS_init_32 ?_
  exact hr_vret G hr (fun _ h => h) dS_init_35 ⟨rfl, rfl, rfl, rfl⟩
def hs_opn (S : hw_St) (n u : Nat) (r : Int32) : hw_St := hw_sv (hw_sv (se_new (hw_nw S 9 n) n (S 0 0 8) u (S 0 0 11) r) 8 0 n (nI n)) 0 0 8 (S 0 0 8 + 1)
theorem se_new_fx {S : hw_St} {n : Nat} {x : Int32} {u : Nat} {t r : Int32} (h : hw_Fx S) : hw_Fx (se_new S n x u t r) := (((((h.sv rfl).sv rfl).sv rfl).sv rfl).sv rfl).sv rfl
set_option maxRecDepth 100000 in
set_option maxHeartbeats 1000000 in
theorem m_H_openSession (l : Launch) (B : hw_B) (nb : Nat → Nat) (S : hw_St) (z : Nat) (hA : hw_al nb) (hF : hw_Fx S) (u : Nat) (hu : u < 4) (r : Int32) (hr1 : ib_b r) (hc9 : S 0 0 8 = nI (nb 9)) (hn9 : nb 9 < 40) (hz : hw_a B 9 (nb 9) = z) : hw_M l yH_openSession cH_openSession 4 (some (.object "TicketHouse$Session")) ({ frames := 2, cells := 1, slots := 6, locals := 36 }) B [.ref (hw_a B 0 0), .ref (hw_a B 2 u), .int r] nb S z (hw_p (.inl (some (.ref (hw_a B 9 (nb 9))))) (hw_nb nb 9) (hs_opn S (nb 9) u r) (z + 1)) := by
  refine hw_M.of (by decide) (Nat.le_of_ble_eq_true rfl) ?_
  intro X fr hl hR G hr hnm
  refine hr_new G wH_23 hz (by rw [hR]; decide) (by rw [hR]; decide) dH_openSession_0 ?_
  refine hr_dup G dH_openSession_3 rfl ?_
  refine hr_aload_n G dH_openSession_4 rfl rfl ?_
  refine hr_get (v := .int (S 0 0 8)) G fH_101 ((hA.nb (k := 9) rfl).lt (show 0 < hw_n0 0 by decide)) rfl dH_openSession_5 ?_
  refine hr_aload_n G dH_openSession_8 rfl rfl ?_
  refine hr_aload_n G dH_openSession_9 rfl rfl ?_
  refine hr_get (v := .int (S 0 0 11)) G fH_106 ((hA.nb (k := 9) rfl).lt (show 0 < hw_n0 0 by decide)) rfl dH_openSession_10 ?_
  refine hr_iload_n G dH_openSession_13 rfl rfl ?_
  refine hr_callIn (k := 9) (i := (nb 9)) G kH_251 iS_init rfl (m_S_init _ _ _ _ _ (nb 9) hw_nbs (S 0 0 8) u hu (S 0 0 11) r hr1) rfl rfl (Nat.le_of_ble_eq_true rfl) ⟨by rw [hR]; decide, by rw [hR]; decide⟩ ⟨by rw [hR]; decide, by rw [hR]; decide⟩ dH_openSession_14 ?_
  refine hr_astore_n (i := 3) G dH_openSession_17 rfl (by decide) ?_
  refine hr_aload_n G dH_openSession_18 rfl rfl ?_
  refine hr_get (v := .ref (hw_a B 8 0)) G fH_25 ((hA.nb (k := 9) rfl).lt (show 0 < hw_n0 0 by decide)) (hw_rfx (se_new_fx (hF.nw (k := 9) rfl)) (by decide) rfl (by decide)) dH_openSession_19 ?_
  refine hr_aload_n G dH_openSession_22 rfl rfl ?_
  refine hr_get (v := .int (S 0 0 8)) G fH_101 ((hA.nb (k := 9) rfl).lt (show 0 < hw_n0 0 by decide)) rfl dH_openSession_23 ?_
  refine hr_aload_n G dH_openSession_26 rfl rfl ?_
  refine hr_aast (n := (nb 9)) (v := (nb 9)) G rfl (by decide) rfl rfl rfl ((hA.nb (k := 9) rfl).lt (show 0 < hw_n0 8 by decide)) hw_nbs (by omega) hc9 hn9 rfl dH_openSession_27 ?_
  refine hr_aload_n G dH_openSession_28 rfl rfl ?_
  refine hr_dup G dH_openSession_29 rfl ?_
  refine hr_get (v := .int (S 0 0 8)) G fH_101 ((hA.nb (k := 9) rfl).lt (show 0 < hw_n0 0 by decide)) rfl dH_openSession_30 ?_
  refine hr_iconst (v := 1) G dH_openSession_33 (by decide) ?_
  refine hr_iadd G dH_openSession_34 ?_
  refine hr_put (x := ((S 0 0 8) + 1)) G fH_101 ((hA.nb (k := 9) rfl).lt (show 0 < hw_n0 0 by decide)) rfl (rfl) rfl dH_openSession_35 ?_
  refine hr_aload_n G dH_openSession_38 rfl rfl ?_
  exact hr_aret G hr (Or.inr ⟨_, rfl⟩) (fun _ h => h) dH_openSession_39 ⟨rfl, rfl, rfl, rfl⟩
def tk_new (S : hw_St) (n : Nat) (x k : Int32) (s : Nat) (w t f c : Int32) : hw_St := hw_sv (hw_sv (hw_sv (hw_sv (hw_sv (hw_sv (hw_sv S 11 n 0 x) 11 n 1 k) 11 n 2 (nI s)) 11 n 3 w) 11 n 4 t) 11 n 5 f) 11 n 6 c
theorem tk_new_fx {S : hw_St} {n : Nat} {x k : Int32} {s : Nat} {w t f c : Int32} (h : hw_Fx S) : hw_Fx (tk_new S n x k s w t f c) := ((((((h.sv rfl).sv rfl).sv rfl).sv rfl).sv rfl).sv rfl).sv rfl
def hs_giv (S : hw_St) (n : Nat) (k : Int32) (s : Nat) (w f c : Int32) : hw_St := hw_sv (hw_sv (tk_new (hw_nw S 11 n) n (S 0 0 9) k s w (S 0 0 11) f c) 10 0 n (nI n)) 0 0 9 (S 0 0 9 + 1)
set_option maxRecDepth 100000 in
set_option maxHeartbeats 1000000 in
theorem m_K_init_n (l : Launch) (B : hw_B) (nb : Nat → Nat) (S : hw_St) (z : Nat) (n : Nat) (hi : n < nb 11) (x k : Int32) (s : Nat) (hs : s < 2 ^ 31) (w t : Int32) : hw_M l yK_init cK_init 8 none ({ frames := 1, cells := 0, slots := 0, locals := 12 }) B [.ref (hw_a B 11 n), .int x, .int k, .ref (hw_a B 9 s), .int w, .int t, .null] nb S z (hw_p (.inl none) nb (tk_new S n x k s w t (-1) (if k = 2 then 0 + 1 else 0)) z) := by
  refine hw_M.of (by decide) (Nat.le_of_ble_eq_true rfl) ?_
  intro X fr hl hR G hr hnm
  refine hr_aload_n G dK_init_0 rfl rfl ?_
  refine hr_objInit G oK.1 oK.2.1 oK.2.2 dK_init_1 (by rw [hR]; decide) (by rw [hR]; decide) ?_
  refine hr_aload_n G dK_init_4 rfl rfl ?_
  refine hr_iload_n G dK_init_5 rfl rfl ?_
  refine hr_putF (x := x) G fK_9 (fun _ _ _ _ h1 h2 => by cases h1; cases h2; rfl) hnm hi rfl (rfl) rfl dK_init_6 ?_
  refine hr_aload_n G dK_init_9 rfl rfl ?_
  refine hr_iload_n G dK_init_10 rfl rfl ?_
  refine hr_putF (x := k) G fK_15 (fun _ _ _ _ h1 h2 => by cases h1; cases h2; rfl) hnm hi rfl (rfl) rfl dK_init_11 ?_
  refine hr_aload_n G dK_init_14 rfl rfl ?_
  refine hr_aload_n G dK_init_15 rfl rfl ?_
  refine hr_putF (x := nI s) (v := .ref (hw_a B 9 s)) G fK_18 (fun _ _ _ _ h1 h2 => by cases h1; cases h2; rfl) hnm hi (hw_rdr (by omega)) rfl rfl dK_init_16 ?_
  refine hr_aload_n G dK_init_19 rfl rfl ?_
  refine hr_iload G dK_init_20 rfl ?_
  refine hr_putF (x := w) G fK_22 (fun _ _ _ _ h1 h2 => by cases h1; cases h2; rfl) hnm hi rfl (rfl) rfl dK_init_22 ?_
  refine hr_aload_n G dK_init_25 rfl rfl ?_
  refine hr_iload G dK_init_26 rfl ?_
  refine hr_putF (x := t) G fK_25 (fun _ _ _ _ h1 h2 => by cases h1; cases h2; rfl) hnm hi rfl (rfl) rfl dK_init_28 ?_
  refine hr_aload_n G dK_init_31 rfl rfl ?_
  refine hr_aloadN G dK_init_32 rfl ?_
  refine hr_putF (x := -1) G fK_28 (fun _ _ _ _ h1 h2 => by cases h1; cases h2; rfl) hnm hi (hw_rdn (by decide)) rfl rfl dK_init_34 ?_
  refine hr_aloadN G dK_init_37 rfl ?_
  refine hr_ifnonnullN G dK_init_39 ?_
  refine hr_iconst (v := 0) G dK_init_42 (by decide) ?_
  refine hr_goto (tgt := 51) G dK_init_43 (by decide) ?_
  refine hr_istore (i := 7) G dK_init_51 (by decide) ?_
  refine hr_aload_n G dK_init_53 rfl rfl ?_
  refine hr_iload_n G dK_init_54 rfl rfl ?_
  refine hr_iconst (v := 2) G dK_init_55 (by decide) ?_
  refine hr_icmp_ne (tgt := 66) G dK_init_56 (by decide) (fun h56 => ?_) (fun h56 => ?_)
  · skip
    refine hr_iload G dK_init_66 rfl ?_
    refine hr_putF (x := 0) G fK_32 (fun _ _ _ _ h1 h2 => by cases h1; cases h2; rfl) hnm hi rfl (rfl) rfl dK_init_68 ?_
    exact hr_vret G hr (fun _ h => h) dK_init_71 ⟨rfl, rfl, by first | (rw [if_pos h56]; rfl) | (rw [if_neg h56]; rfl), rfl⟩
  · skip
    refine hr_iload G dK_init_59 rfl ?_
    refine hr_iconst (v := 1) G dK_init_61 (by decide) ?_
    refine hr_iadd G dK_init_62 ?_
    refine hr_goto (tgt := 68) G dK_init_63 (by decide) ?_
    refine hr_putF (x := (0 + 1)) G fK_32 (fun _ _ _ _ h1 h2 => by cases h1; cases h2; rfl) hnm hi rfl (rfl) rfl dK_init_68 ?_
    exact hr_vret G hr (fun _ h => h) dK_init_71 ⟨rfl, rfl, by first | (rw [if_pos h56]; rfl) | (rw [if_neg h56]; rfl), rfl⟩
set_option maxRecDepth 100000 in
set_option maxHeartbeats 1000000 in
theorem m_K_init_p (l : Launch) (B : hw_B) (nb : Nat → Nat) (S : hw_St) (z : Nat) (n : Nat) (hi : n < nb 11) (x k : Int32) (s : Nat) (hs : s < 2 ^ 31) (w t : Int32) (p : Nat) (hp : p < n) (h31 : n < 2 ^ 31) (c : Int32) (hc : S 11 p 6 = c) : hw_M l yK_init cK_init 8 none ({ frames := 1, cells := 0, slots := 0, locals := 12 }) B [.ref (hw_a B 11 n), .int x, .int k, .ref (hw_a B 9 s), .int w, .int t, .ref (hw_a B 11 p)] nb S z (hw_p (.inl none) nb (tk_new S n x k s w t (nI p) (if k = 2 then c + 1 else c)) z) := by
  refine hw_M.of (by decide) (Nat.le_of_ble_eq_true rfl) ?_
  intro X fr hl hR G hr hnm
  have hpn : ¬ p = n := Nat.ne_of_lt hp
  refine hr_aload_n G dK_init_0 rfl rfl ?_
  refine hr_objInit G oK.1 oK.2.1 oK.2.2 dK_init_1 (by rw [hR]; decide) (by rw [hR]; decide) ?_
  refine hr_aload_n G dK_init_4 rfl rfl ?_
  refine hr_iload_n G dK_init_5 rfl rfl ?_
  refine hr_putF (x := x) G fK_9 (fun _ _ _ _ h1 h2 => by cases h1; cases h2; rfl) hnm hi rfl (rfl) rfl dK_init_6 ?_
  refine hr_aload_n G dK_init_9 rfl rfl ?_
  refine hr_iload_n G dK_init_10 rfl rfl ?_
  refine hr_putF (x := k) G fK_15 (fun _ _ _ _ h1 h2 => by cases h1; cases h2; rfl) hnm hi rfl (rfl) rfl dK_init_11 ?_
  refine hr_aload_n G dK_init_14 rfl rfl ?_
  refine hr_aload_n G dK_init_15 rfl rfl ?_
  refine hr_putF (x := nI s) (v := .ref (hw_a B 9 s)) G fK_18 (fun _ _ _ _ h1 h2 => by cases h1; cases h2; rfl) hnm hi (hw_rdr (by omega)) rfl rfl dK_init_16 ?_
  refine hr_aload_n G dK_init_19 rfl rfl ?_
  refine hr_iload G dK_init_20 rfl ?_
  refine hr_putF (x := w) G fK_22 (fun _ _ _ _ h1 h2 => by cases h1; cases h2; rfl) hnm hi rfl (rfl) rfl dK_init_22 ?_
  refine hr_aload_n G dK_init_25 rfl rfl ?_
  refine hr_iload G dK_init_26 rfl ?_
  refine hr_putF (x := t) G fK_25 (fun _ _ _ _ h1 h2 => by cases h1; cases h2; rfl) hnm hi rfl (rfl) rfl dK_init_28 ?_
  refine hr_aload_n G dK_init_31 rfl rfl ?_
  refine hr_aload G dK_init_32 rfl ?_
  refine hr_putF (x := nI p) (v := .ref (hw_a B 11 p)) G fK_28 (fun _ _ _ _ h1 h2 => by cases h1; cases h2; rfl) hnm hi (hw_rdr (by omega)) rfl rfl dK_init_34 ?_
  refine hr_aload G dK_init_37 rfl ?_
  refine hr_ifnonnull (tgt := 46) G dK_init_39 (by decide) ?_
  refine hr_aload G dK_init_46 rfl ?_
  refine hr_get (v := .int c) G fK_32 (show p < nb 11 by omega) (by show Value.int _ = Value.int _; rw [← hc]; simp [hw_sv, hpn]) dK_init_48 ?_
  refine hr_istore (i := 7) G dK_init_51 (by decide) ?_
  refine hr_aload_n G dK_init_53 rfl rfl ?_
  refine hr_iload_n G dK_init_54 rfl rfl ?_
  refine hr_iconst (v := 2) G dK_init_55 (by decide) ?_
  refine hr_icmp_ne (tgt := 66) G dK_init_56 (by decide) (fun h56 => ?_) (fun h56 => ?_)
  · skip
    refine hr_iload G dK_init_66 rfl ?_
    refine hr_putF (x := c) G fK_32 (fun _ _ _ _ h1 h2 => by cases h1; cases h2; rfl) hnm hi rfl (rfl) rfl dK_init_68 ?_
    exact hr_vret G hr (fun _ h => h) dK_init_71 ⟨rfl, rfl, by first | (rw [if_pos h56]; rfl) | (rw [if_neg h56]; rfl), rfl⟩
  · skip
    refine hr_iload G dK_init_59 rfl ?_
    refine hr_iconst (v := 1) G dK_init_61 (by decide) ?_
    refine hr_iadd G dK_init_62 ?_
    refine hr_goto (tgt := 68) G dK_init_63 (by decide) ?_
    refine hr_putF (x := (c + 1)) G fK_32 (fun _ _ _ _ h1 h2 => by cases h1; cases h2; rfl) hnm hi rfl (rfl) rfl dK_init_68 ?_
    exact hr_vret G hr (fun _ h => h) dK_init_71 ⟨rfl, rfl, by first | (rw [if_pos h56]; rfl) | (rw [if_neg h56]; rfl), rfl⟩
set_option maxRecDepth 100000 in
set_option maxHeartbeats 1000000 in
theorem m_H_giveTicket_n (l : Launch) (B : hw_B) (nb : Nat → Nat) (S : hw_St) (z : Nat) (hA : hw_al nb) (hF : hw_Fx S) (k : Int32) (s : Nat) (hs : s < nb 9) (hs31 : s < 2 ^ 31) (w : Int32) (hc11 : S 0 0 9 = nI (nb 11)) (hn11 : nb 11 < 150) (hz : hw_a B 11 (nb 11) = z) : hw_M l yH_giveTicket cH_giveTicket 6 (some (.object "TicketHouse$Ticket")) ({ frames := 2, cells := 1, slots := 9, locals := 39 }) B [.ref (hw_a B 0 0), .int k, .ref (hw_a B 9 s), .int w, .null] nb S z (hw_p (.inl (some (.ref (hw_a B 11 (nb 11))))) (hw_nb nb 11) (hs_giv S (nb 11) k s w (-1) (if k = 2 then 0 + 1 else 0)) (z + 1)) := by
  refine hw_M.of (by decide) (Nat.le_of_ble_eq_true rfl) ?_
  intro X fr hl hR G hr hnm
  refine hr_new G wH_29 hz (by rw [hR]; decide) (by rw [hR]; decide) dH_giveTicket_0 ?_
  refine hr_dup G dH_giveTicket_3 rfl ?_
  refine hr_aload_n G dH_giveTicket_4 rfl rfl ?_
  refine hr_get (v := .int (S 0 0 9)) G fH_125 ((hA.nb (k := 11) rfl).lt (show 0 < hw_n0 0 by decide)) rfl dH_giveTicket_5 ?_
  refine hr_iload_n G dH_giveTicket_8 rfl rfl ?_
  refine hr_aload_n G dH_giveTicket_9 rfl rfl ?_
  refine hr_iload_n G dH_giveTicket_10 rfl rfl ?_
  refine hr_aload_n G dH_giveTicket_11 rfl rfl ?_
  refine hr_get (v := .int (S 0 0 11)) G fH_106 ((hA.nb (k := 11) rfl).lt (show 0 < hw_n0 0 by decide)) rfl dH_giveTicket_12 ?_
  refine hr_aloadN G dH_giveTicket_15 rfl ?_
  refine hr_callIn (k := 11) (i := (nb 11)) G kH_254 iK_init rfl (m_K_init_n _ _ _ _ _ (nb 11) hw_nbs (S 0 0 9) k s hs31 w (S 0 0 11)) rfl rfl (Nat.le_of_ble_eq_true rfl) ⟨by rw [hR]; decide, by rw [hR]; decide⟩ ⟨by rw [hR]; decide, by rw [hR]; decide⟩ dH_giveTicket_17 ?_
  refine hr_astore (i := 5) G dH_giveTicket_20 (by decide) ?_
  refine hr_aload_n G dH_giveTicket_22 rfl rfl ?_
  refine hr_get (v := .ref (hw_a B 10 0)) G fH_31 ((hA.nb (k := 11) rfl).lt (show 0 < hw_n0 0 by decide)) (hw_rfx (tk_new_fx (hF.nw (k := 11) rfl)) (by decide) rfl (by decide)) dH_giveTicket_23 ?_
  refine hr_aload_n G dH_giveTicket_26 rfl rfl ?_
  refine hr_get (v := .int (S 0 0 9)) G fH_125 ((hA.nb (k := 11) rfl).lt (show 0 < hw_n0 0 by decide)) rfl dH_giveTicket_27 ?_
  refine hr_aload G dH_giveTicket_30 rfl ?_
  refine hr_aast (n := (nb 11)) (v := (nb 11)) G rfl (by decide) rfl rfl rfl ((hA.nb (k := 11) rfl).lt (show 0 < hw_n0 10 by decide)) hw_nbs (by omega) hc11 hn11 rfl dH_giveTicket_32 ?_
  refine hr_aload_n G dH_giveTicket_33 rfl rfl ?_
  refine hr_dup G dH_giveTicket_34 rfl ?_
  refine hr_get (v := .int (S 0 0 9)) G fH_125 ((hA.nb (k := 11) rfl).lt (show 0 < hw_n0 0 by decide)) rfl dH_giveTicket_35 ?_
  refine hr_iconst (v := 1) G dH_giveTicket_38 (by decide) ?_
  refine hr_iadd G dH_giveTicket_39 ?_
  refine hr_put (x := ((S 0 0 9) + 1)) G fH_125 ((hA.nb (k := 11) rfl).lt (show 0 < hw_n0 0 by decide)) rfl (rfl) rfl dH_giveTicket_40 ?_
  refine hr_aload G dH_giveTicket_43 rfl ?_
  exact hr_aret G hr (Or.inr ⟨_, rfl⟩) (fun _ h => h) dH_giveTicket_45 ⟨rfl, rfl, rfl, rfl⟩
set_option maxRecDepth 100000 in
set_option maxHeartbeats 1000000 in
theorem m_H_giveTicket_p (l : Launch) (B : hw_B) (nb : Nat → Nat) (S : hw_St) (z : Nat) (hA : hw_al nb) (hF : hw_Fx S) (k : Int32) (s : Nat) (hs : s < nb 9) (hs31 : s < 2 ^ 31) (w : Int32) (hc11 : S 0 0 9 = nI (nb 11)) (hn11 : nb 11 < 150) (hz : hw_a B 11 (nb 11) = z) (p : Nat) (hp : p < nb 11) : hw_M l yH_giveTicket cH_giveTicket 6 (some (.object "TicketHouse$Ticket")) ({ frames := 2, cells := 1, slots := 9, locals := 39 }) B [.ref (hw_a B 0 0), .int k, .ref (hw_a B 9 s), .int w, .ref (hw_a B 11 p)] nb S z (hw_p (.inl (some (.ref (hw_a B 11 (nb 11))))) (hw_nb nb 11) (hs_giv S (nb 11) k s w (nI p) (if k = 2 then S 11 p 6 + 1 else S 11 p 6)) (z + 1)) := by
  refine hw_M.of (by decide) (Nat.le_of_ble_eq_true rfl) ?_
  intro X fr hl hR G hr hnm
  have hpc : hw_nw S 11 (nb 11) 11 p 6 = S 11 p 6 := by
    unfold hw_nw; rw [if_neg (by omega)]
  refine hr_new G wH_29 hz (by rw [hR]; decide) (by rw [hR]; decide) dH_giveTicket_0 ?_
  refine hr_dup G dH_giveTicket_3 rfl ?_
  refine hr_aload_n G dH_giveTicket_4 rfl rfl ?_
  refine hr_get (v := .int (S 0 0 9)) G fH_125 ((hA.nb (k := 11) rfl).lt (show 0 < hw_n0 0 by decide)) rfl dH_giveTicket_5 ?_
  refine hr_iload_n G dH_giveTicket_8 rfl rfl ?_
  refine hr_aload_n G dH_giveTicket_9 rfl rfl ?_
  refine hr_iload_n G dH_giveTicket_10 rfl rfl ?_
  refine hr_aload_n G dH_giveTicket_11 rfl rfl ?_
  refine hr_get (v := .int (S 0 0 11)) G fH_106 ((hA.nb (k := 11) rfl).lt (show 0 < hw_n0 0 by decide)) rfl dH_giveTicket_12 ?_
  refine hr_aload G dH_giveTicket_15 rfl ?_
  refine hr_callIn (k := 11) (i := (nb 11)) G kH_254 iK_init rfl (m_K_init_p _ _ _ _ _ (nb 11) hw_nbs (S 0 0 9) k s hs31 w (S 0 0 11) p hp (by omega) (S 11 p 6) hpc) rfl rfl (Nat.le_of_ble_eq_true rfl) ⟨by rw [hR]; decide, by rw [hR]; decide⟩ ⟨by rw [hR]; decide, by rw [hR]; decide⟩ dH_giveTicket_17 ?_
  refine hr_astore (i := 5) G dH_giveTicket_20 (by decide) ?_
  refine hr_aload_n G dH_giveTicket_22 rfl rfl ?_
  refine hr_get (v := .ref (hw_a B 10 0)) G fH_31 ((hA.nb (k := 11) rfl).lt (show 0 < hw_n0 0 by decide)) (hw_rfx (tk_new_fx (hF.nw (k := 11) rfl)) (by decide) rfl (by decide)) dH_giveTicket_23 ?_
  refine hr_aload_n G dH_giveTicket_26 rfl rfl ?_
  refine hr_get (v := .int (S 0 0 9)) G fH_125 ((hA.nb (k := 11) rfl).lt (show 0 < hw_n0 0 by decide)) rfl dH_giveTicket_27 ?_
  refine hr_aload G dH_giveTicket_30 rfl ?_
  refine hr_aast (n := (nb 11)) (v := (nb 11)) G rfl (by decide) rfl rfl rfl ((hA.nb (k := 11) rfl).lt (show 0 < hw_n0 10 by decide)) hw_nbs (by omega) hc11 hn11 rfl dH_giveTicket_32 ?_
  refine hr_aload_n G dH_giveTicket_33 rfl rfl ?_
  refine hr_dup G dH_giveTicket_34 rfl ?_
  refine hr_get (v := .int (S 0 0 9)) G fH_125 ((hA.nb (k := 11) rfl).lt (show 0 < hw_n0 0 by decide)) rfl dH_giveTicket_35 ?_
  refine hr_iconst (v := 1) G dH_giveTicket_38 (by decide) ?_
  refine hr_iadd G dH_giveTicket_39 ?_
  refine hr_put (x := ((S 0 0 9) + 1)) G fH_125 ((hA.nb (k := 11) rfl).lt (show 0 < hw_n0 0 by decide)) rfl (rfl) rfl dH_giveTicket_40 ?_
  refine hr_aload G dH_giveTicket_43 rfl ?_
  exact hr_aret G hr (Or.inr ⟨_, rfl⟩) (fun _ h => h) dH_giveTicket_45 ⟨rfl, rfl, rfl, rfl⟩
set_option maxRecDepth 100000 in
set_option maxHeartbeats 1000000 in
theorem m_H_grantFor_y (l : Launch) (B : hw_B) (nb : Nat → Nat) (S : hw_St) (z : Nat) (hA : hw_al nb) (hF : hw_Fx S) (i s w c : Nat) (hi : i < nb 11) (hs : s < nb 9) (hs31 : s < 2 ^ 31) (hts : S 11 i 2 = nI s) (hw : w < 6) (htw : S 11 i 3 = nI w) (hcb : c < 6) (hc11 : S 0 0 9 = nI (nb 11)) (hn11 : nb 11 < 150) (hz : hw_a B 11 (nb 11) = z) (hd1 : ¬ S 7 0 c = 0) (hd2 : ¬ hs_fl S w 2 = 0) : hw_M l yH_grantFor cH_grantFor 4 (some (.object "TicketHouse$Ticket")) ({ frames := 3, cells := 1, slots := 9, locals := 64 }) B [.ref (hw_a B 0 0), .ref (hw_a B 11 i), .int (nI c)] nb S z (hw_p (.inl (some (.ref (hw_a B 11 (nb 11))))) (hw_nb nb 11) (hs_giv S (nb 11) 2 s (nI c) (nI i) (S 11 i 6 + 1)) (z + 1)) := by
  refine hw_M.of (by decide) (Nat.le_of_ble_eq_true rfl) ?_
  intro X fr hl hR G hr hnm
  refine hr_aload_n G dH_grantFor_0 rfl rfl ?_
  refine hr_get (v := .ref (hw_a B 7 0)) G fH_19 (hA.lt (show 0 < hw_n0 0 by decide)) (hw_rfx hF (by decide) rfl (by decide)) dH_grantFor_1 ?_
  refine hr_iload_n G dH_grantFor_4 rfl rfl ?_
  refine hr_zald (n := c) (v := .int (S 7 0 c)) G rfl (by decide) rfl (hA.lt (show 0 < hw_n0 7 by decide)) rfl hcb rfl dH_grantFor_5 ?_
  refine hr_if_eq (tgt := 35) G dH_grantFor_6 (by decide) (fun h => absurd h hd1) (fun _ => ?_)
  refine hr_aload_n G dH_grantFor_9 rfl rfl ?_
  refine hr_aload_n G dH_grantFor_10 rfl rfl ?_
  refine hr_get (v := .int (S 11 i 3)) G fH_226 hi rfl dH_grantFor_11 ?_
  refine hr_iconst (v := 2) G dH_grantFor_14 (by decide) ?_
  refine hr_st (st' := [.int 2, .int (nI w), .ref (hw_a B 0 0)]) (by rw [htw]) ?_
  refine hr_callVs (k := 0) (i := 0) G rfl rfl (hA.lt (show 0 < hw_n0 0 by decide)) kH_247 iH_hasFlag vH_hasFlag (m_H_hasFlag_y _ _ _ _ _ hA hF w 2 hw) rfl rfl (Nat.le_of_ble_eq_true rfl) ⟨by rw [hR]; decide, by rw [hR]; decide⟩ ⟨by rw [hR]; decide, by rw [hR]; decide⟩ dH_grantFor_15 ?_
  refine hr_if_eq (tgt := 35) G dH_grantFor_18 (by decide) (fun h => absurd h hd2) (fun _ => ?_)
  refine hr_aload_n G dH_grantFor_21 rfl rfl ?_
  refine hr_get (v := .int (S 0 0 9)) G fH_125 (hA.lt (show 0 < hw_n0 0 by decide)) rfl dH_grantFor_22 ?_
  refine hr_sipush (v := 150) G dH_grantFor_25 (by decide) ?_
  refine hr_icmp_ge (tgt := 35) G dH_grantFor_28 (by decide) (fun h => absurd h (show ¬ (150 : Int32) ≤ S 0 0 9 by rw [hc11]; exact nI_ge (b := 150) hn11 (by decide))) (fun _ => ?_)
  refine hr_iconst (v := 1) G dH_grantFor_31 (by decide) ?_
  refine hr_goto (tgt := 36) G dH_grantFor_32 (by decide) ?_
  refine hr_istore_n (i := 3) G dH_grantFor_36 rfl (by decide) ?_
  refine hr_iload_n G dH_grantFor_37 rfl rfl ?_
  refine hr_if_eq (tgt := 55) G dH_grantFor_38 (by decide) (fun h => absurd h (by decide)) (fun _ => ?_)
  refine hr_aload_n G dH_grantFor_41 rfl rfl ?_
  refine hr_iconst (v := 2) G dH_grantFor_42 (by decide) ?_
  refine hr_aload_n G dH_grantFor_43 rfl rfl ?_
  refine hr_get (v := .ref (hw_a B 9 s)) G fH_167 hi (hw_rdy hts (by omega)) dH_grantFor_44 ?_
  refine hr_iload_n G dH_grantFor_47 rfl rfl ?_
  refine hr_aload_n G dH_grantFor_48 rfl rfl ?_
  refine hr_callVs (k := 0) (i := 0) G rfl rfl (hA.lt (show 0 < hw_n0 0 by decide)) kH_130 iH_giveTicket vH_giveTicket (m_H_giveTicket_p _ _ _ _ _ hA hF 2 s hs hs31 (nI c) hc11 hn11 hz i hi) rfl rfl (Nat.le_of_ble_eq_true rfl) ⟨by rw [hR]; decide, by rw [hR]; decide⟩ ⟨by rw [hR]; decide, by rw [hR]; decide⟩ dH_grantFor_49 ?_
  refine hr_goto (tgt := 56) G dH_grantFor_52 (by decide) ?_
  exact hr_aret G hr (Or.inr ⟨_, rfl⟩) (fun _ h => h) dH_grantFor_56 ⟨rfl, rfl, rfl, rfl⟩
set_option maxRecDepth 100000 in
set_option maxHeartbeats 1000000 in
theorem m_H_grantFor_n (l : Launch) (B : hw_B) (nb : Nat → Nat) (S : hw_St) (z : Nat) (hA : hw_al nb) (hF : hw_Fx S) (i s w c : Nat) (hi : i < nb 11) (hs : s < nb 9) (hs31 : s < 2 ^ 31) (hts : S 11 i 2 = nI s) (hw : w < 6) (htw : S 11 i 3 = nI w) (hcb : c < 6) (hc11 : S 0 0 9 = nI (nb 11)) (hn11 : nb 11 ≤ 150) (hnd : ¬ (¬ S 7 0 c = 0 ∧ ¬ hs_fl S w 2 = 0 ∧ nb 11 < 150)) : hw_M l yH_grantFor cH_grantFor 4 (some (.object "TicketHouse$Ticket")) ({ frames := 3, cells := 1, slots := 9, locals := 64 }) B [.ref (hw_a B 0 0), .ref (hw_a B 11 i), .int (nI c)] nb S z (hw_p (.inl (some .null)) nb S z) := by
  refine hw_M.of (by decide) (Nat.le_of_ble_eq_true rfl) ?_
  intro X fr hl hR G hr hnm
  refine hr_aload_n G dH_grantFor_0 rfl rfl ?_
  refine hr_get (v := .ref (hw_a B 7 0)) G fH_19 (hA.lt (show 0 < hw_n0 0 by decide)) (hw_rfx hF (by decide) rfl (by decide)) dH_grantFor_1 ?_
  refine hr_iload_n G dH_grantFor_4 rfl rfl ?_
  refine hr_zald (n := c) (v := .int (S 7 0 c)) G rfl (by decide) rfl (hA.lt (show 0 < hw_n0 7 by decide)) rfl hcb rfl dH_grantFor_5 ?_
  refine hr_if_eq (tgt := 35) G dH_grantFor_6 (by decide) (fun h6 => ?_) (fun h6 => ?_)
  · skip
    refine hr_iconst (v := 0) G dH_grantFor_35 (by decide) ?_
    refine hr_istore_n (i := 3) G dH_grantFor_36 rfl (by decide) ?_
    refine hr_iload_n G dH_grantFor_37 rfl rfl ?_
    refine hr_if_eq (tgt := 55) G dH_grantFor_38 (by decide) (fun _ => ?_) (fun h => absurd (by decide) h)
    refine hr_null G dH_grantFor_55 ?_
    refine hr_wide (c' := 1) (sl' := 9) (Nat.le_of_ble_eq_true rfl) (Nat.le_of_ble_eq_true rfl) ?_
    exact hr_aret G hr (Or.inl rfl) (fun _ h => h) dH_grantFor_56 ⟨rfl, rfl, rfl, rfl⟩
  · skip
    refine hr_aload_n G dH_grantFor_9 rfl rfl ?_
    refine hr_aload_n G dH_grantFor_10 rfl rfl ?_
    refine hr_get (v := .int (S 11 i 3)) G fH_226 hi rfl dH_grantFor_11 ?_
    refine hr_iconst (v := 2) G dH_grantFor_14 (by decide) ?_
    refine hr_st (st' := [.int 2, .int (nI w), .ref (hw_a B 0 0)]) (by rw [htw]) ?_
    refine hr_callVs (k := 0) (i := 0) G rfl rfl (hA.lt (show 0 < hw_n0 0 by decide)) kH_247 iH_hasFlag vH_hasFlag (m_H_hasFlag_y _ _ _ _ _ hA hF w 2 hw) rfl rfl (Nat.le_of_ble_eq_true rfl) ⟨by rw [hR]; decide, by rw [hR]; decide⟩ ⟨by rw [hR]; decide, by rw [hR]; decide⟩ dH_grantFor_15 ?_
    refine hr_if_eq (tgt := 35) G dH_grantFor_18 (by decide) (fun h18 => ?_) (fun h18 => ?_)
    · skip
      refine hr_iconst (v := 0) G dH_grantFor_35 (by decide) ?_
      refine hr_istore_n (i := 3) G dH_grantFor_36 rfl (by decide) ?_
      refine hr_iload_n G dH_grantFor_37 rfl rfl ?_
      refine hr_if_eq (tgt := 55) G dH_grantFor_38 (by decide) (fun _ => ?_) (fun h => absurd (by decide) h)
      refine hr_null G dH_grantFor_55 ?_
      refine hr_wide (c' := 1) (sl' := 9) (Nat.le_of_ble_eq_true rfl) (Nat.le_of_ble_eq_true rfl) ?_
      exact hr_aret G hr (Or.inl rfl) (fun _ h => h) dH_grantFor_56 ⟨rfl, rfl, rfl, rfl⟩
    · skip
      refine hr_aload_n G dH_grantFor_21 rfl rfl ?_
      refine hr_get (v := .int (S 0 0 9)) G fH_125 (hA.lt (show 0 < hw_n0 0 by decide)) rfl dH_grantFor_22 ?_
      refine hr_sipush (v := 150) G dH_grantFor_25 (by decide) ?_
      refine hr_icmp_ge (tgt := 35) G dH_grantFor_28 (by decide) (fun h28 => ?_) (fun h28 => ?_)
      · skip
        refine hr_iconst (v := 0) G dH_grantFor_35 (by decide) ?_
        refine hr_istore_n (i := 3) G dH_grantFor_36 rfl (by decide) ?_
        refine hr_iload_n G dH_grantFor_37 rfl rfl ?_
        refine hr_if_eq (tgt := 55) G dH_grantFor_38 (by decide) (fun _ => ?_) (fun h => absurd (by decide) h)
        refine hr_null G dH_grantFor_55 ?_
        refine hr_wide (c' := 1) (sl' := 9) (Nat.le_of_ble_eq_true rfl) (Nat.le_of_ble_eq_true rfl) ?_
        exact hr_aret G hr (Or.inl rfl) (fun _ h => h) dH_grantFor_56 ⟨rfl, rfl, rfl, rfl⟩
      · skip
        exact absurd ⟨h6, h18, Nat.not_le.mp fun q => h28 (by rw [hc11]; exact nI_le (a := 150) q (by omega))⟩ hnd
def hs_tell (S : hw_St) (i w m : Nat) : hw_St := if S 11 i 1 = 0 then (if hs_fl S w 4 = 0 then S else if 150 ≤ S 0 0 10 then S else hw_sv (hw_sv S 12 0 m (1000 * S 11 i 3 + S 11 i 0)) 0 0 10 (S 0 0 10 + 1)) else S
set_option maxRecDepth 100000 in
set_option maxHeartbeats 1000000 in
theorem m_H_tellOfEnd (l : Launch) (B : hw_B) (nb : Nat → Nat) (S : hw_St) (z : Nat) (hA : hw_al nb) (hF : hw_Fx S) (i w m : Nat) (hi : i < nb 11) (hw : w < 6) (htw : S 11 i 3 = nI w) (hm : m ≤ 150) (hmc : S 0 0 10 = nI m) : hw_M l yH_tellOfEnd cH_tellOfEnd 2 none ({ frames := 2, cells := 0, slots := 0, locals := 42 }) B [.ref (hw_a B 0 0), .ref (hw_a B 11 i)] nb S z (hw_p (.inl none) nb (hs_tell S i w m) z) := by
  refine hw_M.of (by decide) (Nat.le_of_ble_eq_true rfl) ?_
  intro X fr hl hR G hr hnm
  refine hr_aload_n G dH_tellOfEnd_0 rfl rfl ?_
  refine hr_get (v := .int (S 11 i 1)) G fH_157 hi rfl dH_tellOfEnd_1 ?_
  refine hr_if_ne (tgt := 63) G dH_tellOfEnd_4 (by decide) (fun h4 => ?_) (fun h4 => ?_)
  · skip
    exact hr_vret G hr (fun _ h => h) dH_tellOfEnd_63 ⟨rfl, rfl, by simp only [hs_tell, h4, ↓reduceIte, eq_self, true_or, or_true, or_self], rfl⟩
  · skip
    refine hr_aload_n G dH_tellOfEnd_7 rfl rfl ?_
    refine hr_aload_n G dH_tellOfEnd_8 rfl rfl ?_
    refine hr_get (v := .int (S 11 i 3)) G fH_226 hi rfl dH_tellOfEnd_9 ?_
    refine hr_iconst (v := 4) G dH_tellOfEnd_12 (by decide) ?_
    refine hr_st (st' := [.int 4, .int (nI w), .ref (hw_a B 0 0)]) (by rw [htw]) ?_
    refine hr_callVs (k := 0) (i := 0) G rfl rfl (hA.lt (show 0 < hw_n0 0 by decide)) kH_247 iH_hasFlag vH_hasFlag (m_H_hasFlag_y _ _ _ _ _ hA hF w 4 hw) rfl rfl (Nat.le_of_ble_eq_true rfl) ⟨by rw [hR]; decide, by rw [hR]; decide⟩ ⟨by rw [hR]; decide, by rw [hR]; decide⟩ dH_tellOfEnd_13 ?_
    refine hr_if_eq (tgt := 63) G dH_tellOfEnd_16 (by decide) (fun h16 => ?_) (fun h16 => ?_)
    · skip
      exact hr_vret G hr (fun _ h => h) dH_tellOfEnd_63 ⟨rfl, rfl, by simp only [hs_tell, h4, h16, ↓reduceIte, eq_self, true_or, or_true, or_self], rfl⟩
    · skip
      refine hr_aload_n G dH_tellOfEnd_19 rfl rfl ?_
      refine hr_get (v := .int (S 0 0 10)) G fH_239 (hA.lt (show 0 < hw_n0 0 by decide)) rfl dH_tellOfEnd_20 ?_
      refine hr_aload_n G dH_tellOfEnd_23 rfl rfl ?_
      refine hr_get (v := .ref (hw_a B 12 0)) G fH_35 (hA.lt (show 0 < hw_n0 0 by decide)) (hw_rfx hF (by decide) rfl (by decide)) dH_tellOfEnd_24 ?_
      refine hr_alen (v := 150) G rfl (by decide) (hA.lt (show 0 < hw_n0 12 by decide)) (by decide) dH_tellOfEnd_27 ?_
      refine hr_icmp_ge (tgt := 63) G dH_tellOfEnd_28 (by decide) (fun h28 => ?_) (fun h28 => ?_)
      · skip
        exact hr_vret G hr (fun _ h => h) dH_tellOfEnd_63 ⟨rfl, rfl, by simp only [hs_tell, h4, h16, h28, ↓reduceIte, eq_self, true_or, or_true, or_self], rfl⟩
      · skip
        refine hr_aload_n G dH_tellOfEnd_31 rfl rfl ?_
        refine hr_get (v := .ref (hw_a B 12 0)) G fH_35 (hA.lt (show 0 < hw_n0 0 by decide)) (hw_rfx hF (by decide) rfl (by decide)) dH_tellOfEnd_32 ?_
        refine hr_aload_n G dH_tellOfEnd_35 rfl rfl ?_
        refine hr_get (v := .int (S 0 0 10)) G fH_239 (hA.lt (show 0 < hw_n0 0 by decide)) rfl dH_tellOfEnd_36 ?_
        refine hr_sipush (v := 1000) G dH_tellOfEnd_39 (by decide) ?_
        refine hr_aload_n G dH_tellOfEnd_42 rfl rfl ?_
        refine hr_get (v := .int (S 11 i 3)) G fH_226 hi rfl dH_tellOfEnd_43 ?_
        refine hr_imul G dH_tellOfEnd_46 ?_
        refine hr_aload_n G dH_tellOfEnd_47 rfl rfl ?_
        refine hr_get (v := .int (S 11 i 0)) G fH_138 hi rfl dH_tellOfEnd_48 ?_
        refine hr_iadd G dH_tellOfEnd_51 ?_
        refine hr_iast (n := m) (y := ((1000 * (S 11 i 3)) + (S 11 i 0))) G rfl (by decide) rfl (hA.lt (show 0 < hw_n0 12 by decide)) hmc (Nat.not_le.mp fun q => h28 (by rw [hmc]; exact nI_le (a := 150) q (by omega))) rfl dH_tellOfEnd_52 ?_
        refine hr_aload_n G dH_tellOfEnd_53 rfl rfl ?_
        refine hr_dup G dH_tellOfEnd_54 rfl ?_
        refine hr_get (v := .int (S 0 0 10)) G fH_239 (hA.lt (show 0 < hw_n0 0 by decide)) rfl dH_tellOfEnd_55 ?_
        refine hr_iconst (v := 1) G dH_tellOfEnd_58 (by decide) ?_
        refine hr_iadd G dH_tellOfEnd_59 ?_
        refine hr_put (x := ((S 0 0 10) + 1)) G fH_239 (hA.lt (show 0 < hw_n0 0 by decide)) rfl (rfl) rfl dH_tellOfEnd_60 ?_
        exact hr_vret G hr (fun _ h => h) dH_tellOfEnd_63 ⟨rfl, rfl, by simp only [hs_tell, h4, h16, h28, ↓reduceIte, eq_self, true_or, or_true, or_self], rfl⟩
