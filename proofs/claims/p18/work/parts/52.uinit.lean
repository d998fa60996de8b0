/-! Constructors: User. -/
def us_0 (nb : Nat → Nat) (S : hw_St) (x : Int32) : hw_St := (hw_sv (hw_sv (hw_nw (hw_nw (hw_sv (hw_sv (hw_nw (hw_nw (hw_sv (hw_sv (hw_nw (hw_nw (hw_sv (hw_sv (hw_nw (hw_nw (hw_sv (hw_sv (hw_nw S 3 (nb 3)) 2 (nb 3) 1 (nI (nb 3))) 2 (nb 3) 0 x) 4 (nb 4)) 5 (nb 5)) 4 (nb 4) 0 (nI (nb 5))) 3 (nb 3) 0 (nI (nb 4))) 4 (nb 4 + 1)) 5 (nb 5 + 1)) 4 (nb 4 + 1) 0 (nI (nb 5 + 1))) 3 (nb 3) 1 (nI (nb 4 + 1))) 4 (nb 4 + 2)) 5 (nb 5 + 2)) 4 (nb 4 + 2) 0 (nI (nb 5 + 2))) 3 (nb 3) 2 (nI (nb 4 + 2))) 4 (nb 4 + 3)) 5 (nb 5 + 3)) 4 (nb 4 + 3) 0 (nI (nb 5 + 3))) 3 (nb 3) 3 (nI (nb 4 + 3)))
def n_U (nb : Nat → Nat) : Nat → Nat := (hw_nb (hw_nb (hw_nb (hw_nb (hw_nb (hw_nb (hw_nb (hw_nb (hw_nb nb 3) 4) 5) 4) 5) 4) 5) 4) 5)
set_option maxRecDepth 100000 in
set_option maxHeartbeats 1000000 in
theorem m_U_init (l : Launch) (B : hw_B) (nb : Nat → Nat) (S : hw_St) (z : Nat) (x : Int32) (hi : nb 3 < nb 2) (h3 : nb 3 < 4) (h4 : nb 4 ≤ 12) (h5 : nb 5 ≤ 12) (ha3 : hw_a B 3 (nb 3) = z) (ha4 : ∀ i, i < 4 → hw_a B 4 (nb 4 + i) = z + 1 + 2 * i) (ha5 : ∀ i, i < 4 → hw_a B 5 (nb 5 + i) = z + 2 + 2 * i) : hw_M l yU_init cU_init 3 none ({ frames := 2, cells := 9, slots := 44, locals := 33 }) B [.ref (hw_a B 2 (nb 3)), .int x] nb S z (hw_p (.inl none) (n_U nb) (us_0 nb S x) (z + 9)) := by
  refine hw_M.of (by decide) (Nat.le_of_ble_eq_true rfl) ?_
  intro X fr hl hR G hr hnm
  refine hr_aload_n G dU_init_0 rfl rfl ?_
  refine hr_objInit G oU.1 oU.2.1 oU.2.2 dU_init_1 (by rw [hR]; decide) (by rw [hR]; decide) ?_
  refine hr_aload_n G dU_init_4 rfl rfl ?_
  refine hr_iconst (v := 4) G dU_init_5 (by decide) ?_
  refine hr_anew (k := 3) (n := 4) (t := 4) G rfl (by decide) rfl qU_9 ao_Text (fun _ => rfl) (by decide) rfl (by decide) ha3 (by rw [hR]; decide) (by rw [hR]; decide) dU_init_6 ?_
  refine hr_putF (x := nI (nb 3)) (v := .ref (hw_a B 3 (nb 3))) G fU_11 (fun _ _ _ _ h1 h2 => by cases h1; cases h2; rfl) hnm hi (hw_rdr (by omega)) rfl rfl dU_init_9 ?_
  refine hr_aload_n G dU_init_12 rfl rfl ?_
  refine hr_iload_n G dU_init_13 rfl rfl ?_
  refine hr_putF (x := x) G fU_17 (fun _ _ _ _ h1 h2 => by cases h1; cases h2; rfl) hnm hi rfl (rfl) rfl dU_init_14 ?_
  refine hr_iconst (v := 0) G dU_init_17 (by decide) ?_
  refine hr_istore_n (i := 2) G dU_init_18 rfl (by decide) ?_
  refine hr_iload_n G dU_init_19 rfl rfl ?_
  refine hr_aload_n G dU_init_20 rfl rfl ?_
  refine hr_get (v := .ref (hw_a B 3 (nb 3))) G fU_11 hi (hw_rdy (t := 3) (v := nb 3) (by simp [hw_sv, hw_nw]) (by omega)) dU_init_21 ?_
  refine hr_alen (v := 4) G rfl (by decide) (show nb 3 < nb 3 + 1 by omega) rfl dU_init_24 ?_
  refine hr_icmp_ge (tgt := 49) G dU_init_25 (by decide) (fun h => absurd h (by decide)) (fun _ => ?_)
  refine hr_aload_n G dU_init_28 rfl rfl ?_
  refine hr_get (v := .ref (hw_a B 3 (nb 3))) G fU_11 hi (hw_rdy (t := 3) (v := nb 3) (by simp [hw_sv, hw_nw]) (by omega)) dU_init_29 ?_
  refine hr_iload_n G dU_init_32 rfl rfl ?_
  refine hr_new G wU_9 (ha4 0 (by decide)) (by rw [hR]; decide) (by rw [hR]; decide) dU_init_33 ?_
  refine hr_dup G dU_init_36 rfl ?_
  refine hr_bipush (v := 8) G dU_init_37 (by decide) ?_
  refine hr_callIn (k := 4) (i := (nb 4)) G kU_21 iT_init rfl (m_T_init _ _ (hw_nb (hw_nb nb 3) 4) _ _ (nb 4) (show nb 4 + 0 < nb 4 + 1 by omega) (show nb 5 + 0 < 2 ^ 31 by omega) (show 8 = hw_ln 5 (nb 5 + 0) from (hw_ln8 (by omega)).symm) (ha5 0 (by decide))) rfl rfl (Nat.le_of_ble_eq_true rfl) ⟨by rw [hR]; decide, by rw [hR]; decide⟩ ⟨by rw [hR]; decide, by rw [hR]; decide⟩ dU_init_39 ?_
  refine hr_aast (n := 0) (v := (nb 4)) G rfl (by decide) rfl rfl rfl (show nb 3 < nb 3 + 1 by omega) (show nb 4 + 0 < nb 4 + 1 by omega) (by omega) (by decide) (show 0 < 4 by decide) rfl dU_init_42 ?_
  refine hr_iinc (v := 1) G dU_init_43 rfl (by decide) (by decide) ?_
  refine hr_goto (tgt := 19) G dU_init_46 (by decide) ?_
  refine hr_iload_n G dU_init_19 rfl rfl ?_
  refine hr_aload_n G dU_init_20 rfl rfl ?_
  refine hr_get (v := .ref (hw_a B 3 (nb 3))) G fU_11 hi (hw_rdy (t := 3) (v := nb 3) (by simp [hw_sv, hw_nw]) (by omega)) dU_init_21 ?_
  refine hr_alen (v := 4) G rfl (by decide) (show nb 3 < nb 3 + 1 by omega) rfl dU_init_24 ?_
  refine hr_icmp_ge (tgt := 49) G dU_init_25 (by decide) (fun h => absurd h (by decide)) (fun _ => ?_)
  refine hr_aload_n G dU_init_28 rfl rfl ?_
  refine hr_get (v := .ref (hw_a B 3 (nb 3))) G fU_11 hi (hw_rdy (t := 3) (v := nb 3) (by simp [hw_sv, hw_nw]) (by omega)) dU_init_29 ?_
  refine hr_iload_n G dU_init_32 rfl rfl ?_
  refine hr_new G wU_9 (ha4 1 (by decide)) (by rw [hR]; decide) (by rw [hR]; decide) dU_init_33 ?_
  refine hr_dup G dU_init_36 rfl ?_
  refine hr_bipush (v := 8) G dU_init_37 (by decide) ?_
  refine hr_callIn (k := 4) (i := (nb 4 + 1)) G kU_21 iT_init rfl (m_T_init _ _ (hw_nb (hw_nb (hw_nb (hw_nb nb 3) 4) 5) 4) _ _ (nb 4 + 1) (show nb 4 + 1 < nb 4 + 2 by omega) (show nb 5 + 1 < 2 ^ 31 by omega) (show 8 = hw_ln 5 (nb 5 + 1) from (hw_ln8 (by omega)).symm) (ha5 1 (by decide))) rfl rfl (Nat.le_of_ble_eq_true rfl) ⟨by rw [hR]; decide, by rw [hR]; decide⟩ ⟨by rw [hR]; decide, by rw [hR]; decide⟩ dU_init_39 ?_
  refine hr_aast (n := 1) (v := (nb 4 + 1)) G rfl (by decide) rfl rfl rfl (show nb 3 < nb 3 + 1 by omega) (show nb 4 + 1 < nb 4 + 2 by omega) (by omega) (by decide) (show 1 < 4 by decide) rfl dU_init_42 ?_
  refine hr_iinc (v := 2) G dU_init_43 rfl (by decide) (by decide) ?_
  refine hr_goto (tgt := 19) G dU_init_46 (by decide) ?_
  refine hr_iload_n G dU_init_19 rfl rfl ?_
  refine hr_aload_n G dU_init_20 rfl rfl ?_
  refine hr_get (v := .ref (hw_a B 3 (nb 3))) G fU_11 hi (hw_rdy (t := 3) (v := nb 3) (by simp [hw_sv, hw_nw]) (by omega)) dU_init_21 ?_
  refine hr_alen (v := 4) G rfl (by decide) (show nb 3 < nb 3 + 1 by omega) rfl dU_init_24 ?_
  refine hr_icmp_ge (tgt := 49) G dU_init_25 (by decide) (fun h => absurd h (by decide)) (fun _ => ?_)
  refine hr_aload_n G dU_init_28 rfl rfl ?_
  refine hr_get (v := .ref (hw_a B 3 (nb 3))) G fU_11 hi (hw_rdy (t := 3) (v := nb 3) (by simp [hw_sv, hw_nw]) (by omega)) dU_init_29 ?_
  refine hr_iload_n G dU_init_32 rfl rfl ?_
  refine hr_new G wU_9 (ha4 2 (by decide)) (by rw [hR]; decide) (by rw [hR]; decide) dU_init_33 ?_
  refine hr_dup G dU_init_36 rfl ?_
  refine hr_bipush (v := 8) G dU_init_37 (by decide) ?_
  refine hr_callIn (k := 4) (i := (nb 4 + 2)) G kU_21 iT_init rfl (m_T_init _ _ (hw_nb (hw_nb (hw_nb (hw_nb (hw_nb (hw_nb nb 3) 4) 5) 4) 5) 4) _ _ (nb 4 + 2) (show nb 4 + 2 < nb 4 + 3 by omega) (show nb 5 + 2 < 2 ^ 31 by omega) (show 8 = hw_ln 5 (nb 5 + 2) from (hw_ln8 (by omega)).symm) (ha5 2 (by decide))) rfl rfl (Nat.le_of_ble_eq_true rfl) ⟨by rw [hR]; decide, by rw [hR]; decide⟩ ⟨by rw [hR]; decide, by rw [hR]; decide⟩ dU_init_39 ?_
  refine hr_aast (n := 2) (v := (nb 4 + 2)) G rfl (by decide) rfl rfl rfl (show nb 3 < nb 3 + 1 by omega) (show nb 4 + 2 < nb 4 + 3 by omega) (by omega) (by decide) (show 2 < 4 by decide) rfl dU_init_42 ?_
  refine hr_iinc (v := 3) G dU_init_43 rfl (by decide) (by decide) ?_
  refine hr_goto (tgt := 19) G dU_init_46 (by decide) ?_
  refine hr_iload_n G dU_init_19 rfl rfl ?_
  refine hr_aload_n G dU_init_20 rfl rfl ?_
  refine hr_get (v := .ref (hw_a B 3 (nb 3))) G fU_11 hi (hw_rdy (t := 3) (v := nb 3) (by simp [hw_sv, hw_nw]) (by omega)) dU_init_21 ?_
  refine hr_alen (v := 4) G rfl (by decide) (show nb 3 < nb 3 + 1 by omega) rfl dU_init_24 ?_
  refine hr_icmp_ge (tgt := 49) G dU_init_25 (by decide) (fun h => absurd h (by decide)) (fun _ => ?_)
  refine hr_aload_n G dU_init_28 rfl rfl ?_
  refine hr_get (v := .ref (hw_a B 3 (nb 3))) G fU_11 hi (hw_rdy (t := 3) (v := nb 3) (by simp [hw_sv, hw_nw]) (by omega)) dU_init_29 ?_
  refine hr_iload_n G dU_init_32 rfl rfl ?_
  refine hr_new G wU_9 (ha4 3 (by decide)) (by rw [hR]; decide) (by rw [hR]; decide) dU_init_33 ?_
  refine hr_dup G dU_init_36 rfl ?_
  refine hr_bipush (v := 8) G dU_init_37 (by decide) ?_
  refine hr_callIn (k := 4) (i := (nb 4 + 3)) G kU_21 iT_init rfl (m_T_init _ _ (hw_nb (hw_nb (hw_nb (hw_nb (hw_nb (hw_nb (hw_nb (hw_nb nb 3) 4) 5) 4) 5) 4) 5) 4) _ _ (nb 4 + 3) (show nb 4 + 3 < nb 4 + 4 by omega) (show nb 5 + 3 < 2 ^ 31 by omega) (show 8 = hw_ln 5 (nb 5 + 3) from (hw_ln8 (by omega)).symm) (ha5 3 (by decide))) rfl rfl (Nat.le_of_ble_eq_true rfl) ⟨by rw [hR]; decide, by rw [hR]; decide⟩ ⟨by rw [hR]; decide, by rw [hR]; decide⟩ dU_init_39 ?_
  refine hr_aast (n := 3) (v := (nb 4 + 3)) G rfl (by decide) rfl rfl rfl (show nb 3 < nb 3 + 1 by omega) (show nb 4 + 3 < nb 4 + 4 by omega) (by omega) (by decide) (show 3 < 4 by decide) rfl dU_init_42 ?_
  refine hr_iinc (v := 4) G dU_init_43 rfl (by decide) (by decide) ?_
  refine hr_goto (tgt := 19) G dU_init_46 (by decide) ?_
  refine hr_iload_n G dU_init_19 rfl rfl ?_
  refine hr_aload_n G dU_init_20 rfl rfl ?_
  refine hr_get (v := .ref (hw_a B 3 (nb 3))) G fU_11 hi (hw_rdy (t := 3) (v := nb 3) (by simp [hw_sv, hw_nw]) (by omega)) dU_init_21 ?_
  refine hr_alen (v := 4) G rfl (by decide) (show nb 3 < nb 3 + 1 by omega) rfl dU_init_24 ?_
  refine hr_icmp_ge (tgt := 49) G dU_init_25 (by decide) (fun _ => ?_) (fun h => absurd (by decide) h)
  exact hr_vret G hr (fun _ h => h) dU_init_49 ⟨rfl, rfl, rfl, rfl⟩
