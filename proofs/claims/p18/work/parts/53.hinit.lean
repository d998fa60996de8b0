/-! Constructors: TicketHouse. -/
def hw_ad (k i : Nat) : Nat := match k with
  | 1 => 0
  | 6 => 1
  | 7 => 2
  | 8 => 3
  | 10 => 4
  | 12 => 5
  | 14 => 6 + 2 * i
  | 15 => 7 + 2 * i
  | 2 => 10 + 10 * i
  | 3 => 11 + 10 * i
  | 4 => if i = 16 then 6 else if i = 17 then 8 else 12 + 10 * (i / 4) + 2 * (i % 4)
  | 5 => if i = 16 then 7 else if i = 17 then 9 else 13 + 10 * (i / 4) + 2 * (i % 4)
  | _ => 0
def n_H : Nat → Nat := fun k => if k = 0 then 1 else 0
def hs_0 (S : hw_St) : hw_St := (hw_sv (hw_sv (hw_sv (hw_sv (hw_sv (hw_sv (us_0 (hw_nb (n_U (hw_nb (n_U (hw_nb (n_U (hw_nb (hw_nb (hw_nb (hw_nb (hw_nb (hw_nb (hw_nb (hw_nb (hw_nb (hw_nb (hw_nb n_H 1) 6) 7) 8) 10) 12) 14) 15) 14) 15) 2)) 2)) 2)) 2) (hw_nw (hw_sv (us_0 (hw_nb (n_U (hw_nb (n_U (hw_nb (hw_nb (hw_nb (hw_nb (hw_nb (hw_nb (hw_nb (hw_nb (hw_nb (hw_nb (hw_nb n_H 1) 6) 7) 8) 10) 12) 14) 15) 14) 15) 2)) 2)) 2) (hw_nw (hw_sv (us_0 (hw_nb (n_U (hw_nb (hw_nb (hw_nb (hw_nb (hw_nb (hw_nb (hw_nb (hw_nb (hw_nb (hw_nb (hw_nb n_H 1) 6) 7) 8) 10) 12) 14) 15) 14) 15) 2)) 2) (hw_nw (hw_sv (us_0 (hw_nb (hw_nb (hw_nb (hw_nb (hw_nb (hw_nb (hw_nb (hw_nb (hw_nb (hw_nb (hw_nb n_H 1) 6) 7) 8) 10) 12) 14) 15) 14) 15) 2) (hw_nw (hw_sv (hw_sv (hw_nw (hw_nw (hw_sv (hw_sv (hw_nw (hw_nw (hw_sv (hw_nw (hw_sv (hw_nw (hw_sv (hw_nw (hw_sv (hw_nw (hw_sv (hw_nw (hw_sv (hw_nw S 1 0) 0 0 0 (nI 0)) 6 0) 0 0 1 (nI 0)) 7 0) 0 0 2 (nI 0)) 8 0) 0 0 3 (nI 0)) 10 0) 0 0 4 (nI 0)) 12 0) 0 0 5 (nI 0)) 14 0) 15 0) 14 0 0 (nI 16)) 0 0 6 (nI 16)) 14 1) 15 1) 14 1 0 (nI 17)) 0 0 7 (nI 17)) 2 0) 0) 1 0 0 (nI 0)) 2 1) 1) 1 0 1 (nI 1)) 2 2) 2) 1 0 2 (nI 2)) 2 3) 3) 1 0 3 (nI 3)) 7 0 1 1) 7 0 2 1) 7 0 3 1) 7 0 4 1) 7 0 5 1)
def n_C : Nat → Nat := (n_U (hw_nb (n_U (hw_nb (n_U (hw_nb (n_U (hw_nb (hw_nb (hw_nb (hw_nb (hw_nb (hw_nb (hw_nb (hw_nb (hw_nb (hw_nb (hw_nb n_H 1) 6) 7) 8) 10) 12) 14) 15) 14) 15) 2)) 2)) 2)) 2))
set_option maxRecDepth 100000 in
set_option maxHeartbeats 4000000 in
theorem m_H_init (l : Launch) (B : hw_B) (S : hw_St) (z : Nat) (ha : ∀ k i, 0 < k → k < 16 → ¬ k = 9 → ¬ k = 11 → hw_a B k i = z + hw_ad k i) : hw_M l yH_init cH_init 2 none ({ frames := 3, cells := 50, slots := 1592, locals := 55 }) B [.ref (hw_a B 0 0)] n_H S z (hw_p (.inl none) n_C (hs_0 S) (z + 50)) := by
  refine hw_M.of (by decide) (Nat.le_of_ble_eq_true rfl) ?_
  intro X fr hl hR G hr hnm
  refine hr_aload_n G dH_init_0 rfl rfl ?_
  refine hr_objInit G oH.1 oH.2.1 oH.2.2 dH_init_1 (by rw [hR]; decide) (by rw [hR]; decide) ?_
  refine hr_aload_n G dH_init_4 rfl rfl ?_
  refine hr_iconst (v := 4) G dH_init_5 (by decide) ?_
  refine hr_anew (k := 1) (n := 4) (t := 2) G rfl (by decide) rfl qH_9 ao_User (fun _ => rfl) (by decide) rfl (by decide) (show hw_a B 1 0 = z + 0 from ha 1 0 (by decide) (by decide) (by decide) (by decide)) (by rw [hR]; decide) (by rw [hR]; decide) dH_init_6 ?_
  refine hr_putF (x := nI 0) (v := .ref (hw_a B 1 0)) G fH_11 (fun _ _ _ _ h1 h2 => by cases h1; cases h2; rfl) hnm (show 0 < (hw_nb n_H 1) 0 by decide) (hw_rdr (by decide)) rfl rfl dH_init_9 ?_
  refine hr_aload_n G dH_init_12 rfl rfl ?_
  refine hr_bipush (v := 6) G dH_init_13 (by decide) ?_
  refine hr_newa (atype := .int) (k := 6) (n := 6) G rfl (by decide) rfl ac_int (fun h => h) (fun _ _ h => h) (fun _ _ => rfl) (by decide) rfl (by decide) (show hw_a B 6 0 = z + 1 from ha 6 0 (by decide) (by decide) (by decide) (by decide)) (by rw [hR]; decide) (by rw [hR]; decide) dH_init_15 ?_
  refine hr_putF (x := nI 0) (v := .ref (hw_a B 6 0)) G fH_15 (fun _ _ _ _ h1 h2 => by cases h1; cases h2; rfl) hnm (show 0 < (hw_nb (hw_nb n_H 1) 6) 0 by decide) (hw_rdr (by decide)) rfl rfl dH_init_17 ?_
  refine hr_aload_n G dH_init_20 rfl rfl ?_
  refine hr_bipush (v := 6) G dH_init_21 (by decide) ?_
  refine hr_newa (atype := .boolean) (k := 7) (n := 6) G rfl (by decide) rfl ac_boolean (fun h => h) (fun _ _ h => h) (fun _ _ => rfl) (by decide) rfl (by decide) (show hw_a B 7 0 = z + 2 from ha 7 0 (by decide) (by decide) (by decide) (by decide)) (by rw [hR]; decide) (by rw [hR]; decide) dH_init_23 ?_
  refine hr_putF (x := nI 0) (v := .ref (hw_a B 7 0)) G fH_19 (fun _ _ _ _ h1 h2 => by cases h1; cases h2; rfl) hnm (show 0 < (hw_nb (hw_nb (hw_nb n_H 1) 6) 7) 0 by decide) (hw_rdr (by decide)) rfl rfl dH_init_25 ?_
  refine hr_aload_n G dH_init_28 rfl rfl ?_
  refine hr_bipush (v := 40) G dH_init_29 (by decide) ?_
  refine hr_anew (k := 8) (n := 40) (t := 9) G rfl (by decide) rfl qH_23 ao_Session (fun _ => rfl) (by decide) rfl (by decide) (show hw_a B 8 0 = z + 3 from ha 8 0 (by decide) (by decide) (by decide) (by decide)) (by rw [hR]; decide) (by rw [hR]; decide) dH_init_31 ?_
  refine hr_putF (x := nI 0) (v := .ref (hw_a B 8 0)) G fH_25 (fun _ _ _ _ h1 h2 => by cases h1; cases h2; rfl) hnm (show 0 < (hw_nb (hw_nb (hw_nb (hw_nb n_H 1) 6) 7) 8) 0 by decide) (hw_rdr (by decide)) rfl rfl dH_init_34 ?_
  refine hr_aload_n G dH_init_37 rfl rfl ?_
  refine hr_sipush (v := 150) G dH_init_38 (by decide) ?_
  refine hr_anew (k := 10) (n := 150) (t := 11) G rfl (by decide) rfl qH_29 ao_Ticket (fun _ => rfl) (by decide) rfl (by decide) (show hw_a B 10 0 = z + 4 from ha 10 0 (by decide) (by decide) (by decide) (by decide)) (by rw [hR]; decide) (by rw [hR]; decide) dH_init_41 ?_
  refine hr_putF (x := nI 0) (v := .ref (hw_a B 10 0)) G fH_31 (fun _ _ _ _ h1 h2 => by cases h1; cases h2; rfl) hnm (show 0 < (hw_nb (hw_nb (hw_nb (hw_nb (hw_nb n_H 1) 6) 7) 8) 10) 0 by decide) (hw_rdr (by decide)) rfl rfl dH_init_44 ?_
  refine hr_aload_n G dH_init_47 rfl rfl ?_
  refine hr_sipush (v := 150) G dH_init_48 (by decide) ?_
  refine hr_newa (atype := .int) (k := 12) (n := 150) G rfl (by decide) rfl ac_int (fun h => h) (fun _ _ h => h) (fun _ _ => rfl) (by decide) rfl (by decide) (show hw_a B 12 0 = z + 5 from ha 12 0 (by decide) (by decide) (by decide) (by decide)) (by rw [hR]; decide) (by rw [hR]; decide) dH_init_51 ?_
  refine hr_putF (x := nI 0) (v := .ref (hw_a B 12 0)) G fH_35 (fun _ _ _ _ h1 h2 => by cases h1; cases h2; rfl) hnm (show 0 < (hw_nb (hw_nb (hw_nb (hw_nb (hw_nb (hw_nb n_H 1) 6) 7) 8) 10) 12) 0 by decide) (hw_rdr (by decide)) rfl rfl dH_init_53 ?_
  refine hr_aload_n G dH_init_56 rfl rfl ?_
  refine hr_new G w14H_38 (show hw_a B 14 0 = z + 6 from ha 14 0 (by decide) (by decide) (by decide) (by decide)) (by rw [hR]; decide) (by rw [hR]; decide) dH_init_57 ?_
  refine hr_dup G dH_init_60 rfl ?_
  refine hr_bipush (v := 8) G dH_init_61 (by decide) ?_
  refine hr_callIn (k := 14) (i := 0) G kH_40 iT_init rfl (m_T_init_d _ _ (hw_nb (hw_nb (hw_nb (hw_nb (hw_nb (hw_nb (hw_nb n_H 1) 6) 7) 8) 10) 12) 14) _ _ 0 (by decide) (by decide) rfl (show hw_a B 15 0 = z + 7 from ha 15 0 (by decide) (by decide) (by decide) (by decide)) 16 (by decide) (((show hw_a B 5 16 = z + 7 from ha 5 16 (by decide) (by decide) (by decide) (by decide))).trans ((show hw_a B 15 0 = z + 7 from ha 15 0 (by decide) (by decide) (by decide) (by decide))).symm)) rfl rfl (Nat.le_of_ble_eq_true rfl) ⟨by rw [hR]; decide, by rw [hR]; decide⟩ ⟨by rw [hR]; decide, by rw [hR]; decide⟩ dH_init_63 ?_
  refine hr_putF (x := nI 16) (v := .ref (hw_a B 14 0)) G fH_43 (fun _ _ _ _ h1 h2 => by cases h1; cases h2; rfl) hnm (show 0 < (hw_nb (hw_nb (hw_nb (hw_nb (hw_nb (hw_nb (hw_nb (hw_nb n_H 1) 6) 7) 8) 10) 12) 14) 15) 0 by decide) ((hw_rdr (t := 4) (by decide)).trans (congrArg Value.ref (((show hw_a B 4 16 = z + 6 from ha 4 16 (by decide) (by decide) (by decide) (by decide))).trans ((show hw_a B 14 0 = z + 6 from ha 14 0 (by decide) (by decide) (by decide) (by decide))).symm))) rfl rfl dH_init_66 ?_
  refine hr_aload_n G dH_init_69 rfl rfl ?_
  refine hr_new G w14H_38 (show hw_a B 14 1 = z + 8 from ha 14 1 (by decide) (by decide) (by decide) (by decide)) (by rw [hR]; decide) (by rw [hR]; decide) dH_init_70 ?_
  refine hr_dup G dH_init_73 rfl ?_
  refine hr_sipush (v := 1024) G dH_init_74 (by decide) ?_
  refine hr_callIn (k := 14) (i := 1) G kH_40 iT_init rfl (m_T_init_p _ _ (hw_nb (hw_nb (hw_nb (hw_nb (hw_nb (hw_nb (hw_nb (hw_nb (hw_nb n_H 1) 6) 7) 8) 10) 12) 14) 15) 14) _ _ 1 (by decide) (by decide) rfl (show hw_a B 15 1 = z + 9 from ha 15 1 (by decide) (by decide) (by decide) (by decide)) 17 (by decide) (((show hw_a B 5 17 = z + 9 from ha 5 17 (by decide) (by decide) (by decide) (by decide))).trans ((show hw_a B 15 1 = z + 9 from ha 15 1 (by decide) (by decide) (by decide) (by decide))).symm)) rfl rfl (Nat.le_of_ble_eq_true rfl) ⟨by rw [hR]; decide, by rw [hR]; decide⟩ ⟨by rw [hR]; decide, by rw [hR]; decide⟩ dH_init_77 ?_
  refine hr_putF (x := nI 17) (v := .ref (hw_a B 14 1)) G fH_47 (fun _ _ _ _ h1 h2 => by cases h1; cases h2; rfl) hnm (show 0 < (hw_nb (hw_nb (hw_nb (hw_nb (hw_nb (hw_nb (hw_nb (hw_nb (hw_nb (hw_nb n_H 1) 6) 7) 8) 10) 12) 14) 15) 14) 15) 0 by decide) ((hw_rdr (t := 4) (by decide)).trans (congrArg Value.ref (((show hw_a B 4 17 = z + 8 from ha 4 17 (by decide) (by decide) (by decide) (by decide))).trans ((show hw_a B 14 1 = z + 8 from ha 14 1 (by decide) (by decide) (by decide) (by decide))).symm))) rfl rfl dH_init_80 ?_
  refine hr_iconst (v := 0) G dH_init_83 (by decide) ?_
  refine hr_istore_n (i := 1) G dH_init_84 rfl (by decide) ?_
  refine hr_iload_n G dH_init_85 rfl rfl ?_
  refine hr_iconst (v := 4) G dH_init_86 (by decide) ?_
  refine hr_icmp_ge (tgt := 110) G dH_init_87 (by decide) (fun h => absurd h (by decide)) (fun _ => ?_)
  refine hr_aload_n G dH_init_90 rfl rfl ?_
  refine hr_get (v := .ref (hw_a B 1 0)) G fH_11 (show 0 < (hw_nb (hw_nb (hw_nb (hw_nb (hw_nb (hw_nb (hw_nb (hw_nb (hw_nb (hw_nb n_H 1) 6) 7) 8) 10) 12) 14) 15) 14) 15) 0 by decide) (hw_rdy (t := 1) (v := 0) rfl (by decide)) dH_init_91 ?_
  refine hr_iload_n G dH_init_94 rfl rfl ?_
  refine hr_new G wH_9 (show hw_a B 2 0 = z + 10 from ha 2 0 (by decide) (by decide) (by decide) (by decide)) (by rw [hR]; decide) (by rw [hR]; decide) dH_init_95 ?_
  refine hr_dup G dH_init_98 rfl ?_
  refine hr_iload_n G dH_init_99 rfl rfl ?_
  refine hr_callIn (k := 2) (i := 0) G kH_50 iU_init rfl (m_U_init _ _ (hw_nb (hw_nb (hw_nb (hw_nb (hw_nb (hw_nb (hw_nb (hw_nb (hw_nb (hw_nb (hw_nb n_H 1) 6) 7) 8) 10) 12) 14) 15) 14) 15) 2) _ _ 0 (by decide) (by decide) (by decide) (by decide) (show hw_a B 3 0 = z + 11 from ha 3 0 (by decide) (by decide) (by decide) (by decide)) (fun i hi => by rcases (show i = 0 ∨ i = 1 ∨ i = 2 ∨ i = 3 by omega) with rfl | rfl | rfl | rfl <;> first | exact (show hw_a B 4 0 = z + 12 from ha 4 0 (by decide) (by decide) (by decide) (by decide)) | exact (show hw_a B 4 1 = z + 14 from ha 4 1 (by decide) (by decide) (by decide) (by decide)) | exact (show hw_a B 4 2 = z + 16 from ha 4 2 (by decide) (by decide) (by decide) (by decide)) | exact (show hw_a B 4 3 = z + 18 from ha 4 3 (by decide) (by decide) (by decide) (by decide))) (fun i hi => by rcases (show i = 0 ∨ i = 1 ∨ i = 2 ∨ i = 3 by omega) with rfl | rfl | rfl | rfl <;> first | exact (show hw_a B 5 0 = z + 13 from ha 5 0 (by decide) (by decide) (by decide) (by decide)) | exact (show hw_a B 5 1 = z + 15 from ha 5 1 (by decide) (by decide) (by decide) (by decide)) | exact (show hw_a B 5 2 = z + 17 from ha 5 2 (by decide) (by decide) (by decide) (by decide)) | exact (show hw_a B 5 3 = z + 19 from ha 5 3 (by decide) (by decide) (by decide) (by decide)))) rfl rfl (Nat.le_of_ble_eq_true rfl) ⟨by rw [hR]; decide, by rw [hR]; decide⟩ ⟨by rw [hR]; decide, by rw [hR]; decide⟩ dH_init_100 ?_
  refine hr_aast (n := 0) (v := 0) G rfl (by decide) rfl rfl rfl (show 0 < (n_U (hw_nb (hw_nb (hw_nb (hw_nb (hw_nb (hw_nb (hw_nb (hw_nb (hw_nb (hw_nb (hw_nb n_H 1) 6) 7) 8) 10) 12) 14) 15) 14) 15) 2)) 1 by decide) (show 0 < (n_U (hw_nb (hw_nb (hw_nb (hw_nb (hw_nb (hw_nb (hw_nb (hw_nb (hw_nb (hw_nb (hw_nb n_H 1) 6) 7) 8) 10) 12) 14) 15) 14) 15) 2)) 2 by decide) (by omega) (by decide) (by decide) rfl dH_init_103 ?_
  refine hr_iinc (v := 1) G dH_init_104 rfl (by decide) (by decide) ?_
  refine hr_goto (tgt := 85) G dH_init_107 (by decide) ?_
  refine hr_iload_n G dH_init_85 rfl rfl ?_
  refine hr_iconst (v := 4) G dH_init_86 (by decide) ?_
  refine hr_icmp_ge (tgt := 110) G dH_init_87 (by decide) (fun h => absurd h (by decide)) (fun _ => ?_)
  refine hr_aload_n G dH_init_90 rfl rfl ?_
  refine hr_get (v := .ref (hw_a B 1 0)) G fH_11 (show 0 < (n_U (hw_nb (hw_nb (hw_nb (hw_nb (hw_nb (hw_nb (hw_nb (hw_nb (hw_nb (hw_nb (hw_nb n_H 1) 6) 7) 8) 10) 12) 14) 15) 14) 15) 2)) 0 by decide) (hw_rdy (t := 1) (v := 0) rfl (by decide)) dH_init_91 ?_
  refine hr_iload_n G dH_init_94 rfl rfl ?_
  refine hr_new G wH_9 (show hw_a B 2 1 = z + 20 from ha 2 1 (by decide) (by decide) (by decide) (by decide)) (by rw [hR]; decide) (by rw [hR]; decide) dH_init_95 ?_
  refine hr_dup G dH_init_98 rfl ?_
  refine hr_iload_n G dH_init_99 rfl rfl ?_
  refine hr_callIn (k := 2) (i := 1) G kH_50 iU_init rfl (m_U_init _ _ (hw_nb (n_U (hw_nb (hw_nb (hw_nb (hw_nb (hw_nb (hw_nb (hw_nb (hw_nb (hw_nb (hw_nb (hw_nb n_H 1) 6) 7) 8) 10) 12) 14) 15) 14) 15) 2)) 2) _ _ 1 (by decide) (by decide) (by decide) (by decide) (show hw_a B 3 1 = z + 21 from ha 3 1 (by decide) (by decide) (by decide) (by decide)) (fun i hi => by rcases (show i = 0 ∨ i = 1 ∨ i = 2 ∨ i = 3 by omega) with rfl | rfl | rfl | rfl <;> first | exact (show hw_a B 4 4 = z + 22 from ha 4 4 (by decide) (by decide) (by decide) (by decide)) | exact (show hw_a B 4 5 = z + 24 from ha 4 5 (by decide) (by decide) (by decide) (by decide)) | exact (show hw_a B 4 6 = z + 26 from ha 4 6 (by decide) (by decide) (by decide) (by decide)) | exact (show hw_a B 4 7 = z + 28 from ha 4 7 (by decide) (by decide) (by decide) (by decide))) (fun i hi => by rcases (show i = 0 ∨ i = 1 ∨ i = 2 ∨ i = 3 by omega) with rfl | rfl | rfl | rfl <;> first | exact (show hw_a B 5 4 = z + 23 from ha 5 4 (by decide) (by decide) (by decide) (by decide)) | exact (show hw_a B 5 5 = z + 25 from ha 5 5 (by decide) (by decide) (by decide) (by decide)) | exact (show hw_a B 5 6 = z + 27 from ha 5 6 (by decide) (by decide) (by decide) (by decide)) | exact (show hw_a B 5 7 = z + 29 from ha 5 7 (by decide) (by decide) (by decide) (by decide)))) rfl rfl (Nat.le_of_ble_eq_true rfl) ⟨by rw [hR]; decide, by rw [hR]; decide⟩ ⟨by rw [hR]; decide, by rw [hR]; decide⟩ dH_init_100 ?_
  refine hr_aast (n := 1) (v := 1) G rfl (by decide) rfl rfl rfl (show 0 < (n_U (hw_nb (n_U (hw_nb (hw_nb (hw_nb (hw_nb (hw_nb (hw_nb (hw_nb (hw_nb (hw_nb (hw_nb (hw_nb n_H 1) 6) 7) 8) 10) 12) 14) 15) 14) 15) 2)) 2)) 1 by decide) (show 1 < (n_U (hw_nb (n_U (hw_nb (hw_nb (hw_nb (hw_nb (hw_nb (hw_nb (hw_nb (hw_nb (hw_nb (hw_nb (hw_nb n_H 1) 6) 7) 8) 10) 12) 14) 15) 14) 15) 2)) 2)) 2 by decide) (by omega) (by decide) (by decide) rfl dH_init_103 ?_
  refine hr_iinc (v := 2) G dH_init_104 rfl (by decide) (by decide) ?_
  refine hr_goto (tgt := 85) G dH_init_107 (by decide) ?_
  refine hr_iload_n G dH_init_85 rfl rfl ?_
  refine hr_iconst (v := 4) G dH_init_86 (by decide) ?_
  refine hr_icmp_ge (tgt := 110) G dH_init_87 (by decide) (fun h => absurd h (by decide)) (fun _ => ?_)
  refine hr_aload_n G dH_init_90 rfl rfl ?_
  refine hr_get (v := .ref (hw_a B 1 0)) G fH_11 (show 0 < (n_U (hw_nb (n_U (hw_nb (hw_nb (hw_nb (hw_nb (hw_nb (hw_nb (hw_nb (hw_nb (hw_nb (hw_nb (hw_nb n_H 1) 6) 7) 8) 10) 12) 14) 15) 14) 15) 2)) 2)) 0 by decide) (hw_rdy (t := 1) (v := 0) rfl (by decide)) dH_init_91 ?_
  refine hr_iload_n G dH_init_94 rfl rfl ?_
  refine hr_new G wH_9 (show hw_a B 2 2 = z + 30 from ha 2 2 (by decide) (by decide) (by decide) (by decide)) (by rw [hR]; decide) (by rw [hR]; decide) dH_init_95 ?_
  refine hr_dup G dH_init_98 rfl ?_
  refine hr_iload_n G dH_init_99 rfl rfl ?_
  refine hr_callIn (k := 2) (i := 2) G kH_50 iU_init rfl (m_U_init _ _ (hw_nb (n_U (hw_nb (n_U (hw_nb (hw_nb (hw_nb (hw_nb (hw_nb (hw_nb (hw_nb (hw_nb (hw_nb (hw_nb (hw_nb n_H 1) 6) 7) 8) 10) 12) 14) 15) 14) 15) 2)) 2)) 2) _ _ 2 (by decide) (by decide) (by decide) (by decide) (show hw_a B 3 2 = z + 31 from ha 3 2 (by decide) (by decide) (by decide) (by decide)) (fun i hi => by rcases (show i = 0 ∨ i = 1 ∨ i = 2 ∨ i = 3 by omega) with rfl | rfl | rfl | rfl <;> first | exact (show hw_a B 4 8 = z + 32 from ha 4 8 (by decide) (by decide) (by decide) (by decide)) | exact (show hw_a B 4 9 = z + 34 from ha 4 9 (by decide) (by decide) (by decide) (by decide)) | exact (show hw_a B 4 10 = z + 36 from ha 4 10 (by decide) (by decide) (by decide) (by decide)) | exact (show hw_a B 4 11 = z + 38 from ha 4 11 (by decide) (by decide) (by decide) (by decide))) (fun i hi => by rcases (show i = 0 ∨ i = 1 ∨ i = 2 ∨ i = 3 by omega) with rfl | rfl | rfl | rfl <;> first | exact (show hw_a B 5 8 = z + 33 from ha 5 8 (by decide) (by decide) (by decide) (by decide)) | exact (show hw_a B 5 9 = z + 35 from ha 5 9 (by decide) (by decide) (by decide) (by decide)) | exact (show hw_a B 5 10 = z + 37 from ha 5 10 (by decide) (by decide) (by decide) (by decide)) | exact (show hw_a B 5 11 = z + 39 from ha 5 11 (by decide) (by decide) (by decide) (by decide)))) rfl rfl (Nat.le_of_ble_eq_true rfl) ⟨by rw [hR]; decide, by rw [hR]; decide⟩ ⟨by rw [hR]; decide, by rw [hR]; decide⟩ dH_init_100 ?_
  refine hr_aast (n := 2) (v := 2) G rfl (by decide) rfl rfl rfl (show 0 < (n_U (hw_nb (n_U (hw_nb (n_U (hw_nb (hw_nb (hw_nb (hw_nb (hw_nb (hw_nb (hw_nb (hw_nb (hw_nb (hw_nb (hw_nb n_H 1) 6) 7) 8) 10) 12) 14) 15) 14) 15) 2)) 2)) 2)) 1 by decide) (show 2 < (n_U (hw_nb (n_U (hw_nb (n_U (hw_nb (hw_nb (hw_nb (hw_nb (hw_nb (hw_nb (hw_nb (hw_nb (hw_nb (hw_nb (hw_nb n_H 1) 6) 7) 8) 10) 12) 14) 15) 14) 15) 2)) 2)) 2)) 2 by decide) (by omega) (by decide) (by decide) rfl dH_init_103 ?_
  refine hr_iinc (v := 3) G dH_init_104 rfl (by decide) (by decide) ?_
  refine hr_goto (tgt := 85) G dH_init_107 (by decide) ?_
  refine hr_iload_n G dH_init_85 rfl rfl ?_
  refine hr_iconst (v := 4) G dH_init_86 (by decide) ?_
  refine hr_icmp_ge (tgt := 110) G dH_init_87 (by decide) (fun h => absurd h (by decide)) (fun _ => ?_)
  refine hr_aload_n G dH_init_90 rfl rfl ?_
  refine hr_get (v := .ref (hw_a B 1 0)) G fH_11 (show 0 < (n_U (hw_nb (n_U (hw_nb (n_U (hw_nb (hw_nb (hw_nb (hw_nb (hw_nb (hw_nb (hw_nb (hw_nb (hw_nb (hw_nb (hw_nb n_H 1) 6) 7) 8) 10) 12) 14) 15) 14) 15) 2)) 2)) 2)) 0 by decide) (hw_rdy (t := 1) (v := 0) rfl (by decide)) dH_init_91 ?_
  refine hr_iload_n G dH_init_94 rfl rfl ?_
  refine hr_new G wH_9 (show hw_a B 2 3 = z + 40 from ha 2 3 (by decide) (by decide) (by decide) (by decide)) (by rw [hR]; decide) (by rw [hR]; decide) dH_init_95 ?_
  refine hr_dup G dH_init_98 rfl ?_
  refine hr_iload_n G dH_init_99 rfl rfl ?_
  refine hr_callIn (k := 2) (i := 3) G kH_50 iU_init rfl (m_U_init _ _ (hw_nb (n_U (hw_nb (n_U (hw_nb (n_U (hw_nb (hw_nb (hw_nb (hw_nb (hw_nb (hw_nb (hw_nb (hw_nb (hw_nb (hw_nb (hw_nb n_H 1) 6) 7) 8) 10) 12) 14) 15) 14) 15) 2)) 2)) 2)) 2) _ _ 3 (by decide) (by decide) (by decide) (by decide) (show hw_a B 3 3 = z + 41 from ha 3 3 (by decide) (by decide) (by decide) (by decide)) (fun i hi => by rcases (show i = 0 ∨ i = 1 ∨ i = 2 ∨ i = 3 by omega) with rfl | rfl | rfl | rfl <;> first | exact (show hw_a B 4 12 = z + 42 from ha 4 12 (by decide) (by decide) (by decide) (by decide)) | exact (show hw_a B 4 13 = z + 44 from ha 4 13 (by decide) (by decide) (by decide) (by decide)) | exact (show hw_a B 4 14 = z + 46 from ha 4 14 (by decide) (by decide) (by decide) (by decide)) | exact (show hw_a B 4 15 = z + 48 from ha 4 15 (by decide) (by decide) (by decide) (by decide))) (fun i hi => by rcases (show i = 0 ∨ i = 1 ∨ i = 2 ∨ i = 3 by omega) with rfl | rfl | rfl | rfl <;> first | exact (show hw_a B 5 12 = z + 43 from ha 5 12 (by decide) (by decide) (by decide) (by decide)) | exact (show hw_a B 5 13 = z + 45 from ha 5 13 (by decide) (by decide) (by decide) (by decide)) | exact (show hw_a B 5 14 = z + 47 from ha 5 14 (by decide) (by decide) (by decide) (by decide)) | exact (show hw_a B 5 15 = z + 49 from ha 5 15 (by decide) (by decide) (by decide) (by decide)))) rfl rfl (Nat.le_of_ble_eq_true rfl) ⟨by rw [hR]; decide, by rw [hR]; decide⟩ ⟨by rw [hR]; decide, by rw [hR]; decide⟩ dH_init_100 ?_
  refine hr_aast (n := 3) (v := 3) G rfl (by decide) rfl rfl rfl (show 0 < (n_U (hw_nb (n_U (hw_nb (n_U (hw_nb (n_U (hw_nb (hw_nb (hw_nb (hw_nb (hw_nb (hw_nb (hw_nb (hw_nb (hw_nb (hw_nb (hw_nb n_H 1) 6) 7) 8) 10) 12) 14) 15) 14) 15) 2)) 2)) 2)) 2)) 1 by decide) (show 3 < (n_U (hw_nb (n_U (hw_nb (n_U (hw_nb (n_U (hw_nb (hw_nb (hw_nb (hw_nb (hw_nb (hw_nb (hw_nb (hw_nb (hw_nb (hw_nb (hw_nb n_H 1) 6) 7) 8) 10) 12) 14) 15) 14) 15) 2)) 2)) 2)) 2)) 2 by decide) (by omega) (by decide) (by decide) rfl dH_init_103 ?_
  refine hr_iinc (v := 4) G dH_init_104 rfl (by decide) (by decide) ?_
  refine hr_goto (tgt := 85) G dH_init_107 (by decide) ?_
  refine hr_iload_n G dH_init_85 rfl rfl ?_
  refine hr_iconst (v := 4) G dH_init_86 (by decide) ?_
  refine hr_icmp_ge (tgt := 110) G dH_init_87 (by decide) (fun _ => ?_) (fun h => absurd (by decide) h)
  refine hr_iconst (v := 1) G dH_init_110 (by decide) ?_
  refine hr_istore_n (i := 1) G dH_init_111 rfl (by decide) ?_
  refine hr_iload_n G dH_init_112 rfl rfl ?_
  refine hr_iconst (v := 5) G dH_init_113 (by decide) ?_
  refine hr_icmp_gt (tgt := 130) G dH_init_114 (by decide) (fun h => absurd h (by decide)) (fun _ => ?_)
  refine hr_aload_n G dH_init_117 rfl rfl ?_
  refine hr_get (v := .ref (hw_a B 7 0)) G fH_19 (show 0 < (n_U (hw_nb (n_U (hw_nb (n_U (hw_nb (n_U (hw_nb (hw_nb (hw_nb (hw_nb (hw_nb (hw_nb (hw_nb (hw_nb (hw_nb (hw_nb (hw_nb n_H 1) 6) 7) 8) 10) 12) 14) 15) 14) 15) 2)) 2)) 2)) 2)) 0 by decide) (hw_rdy (t := 7) (v := 0) rfl (by decide)) dH_init_118 ?_
  refine hr_iload_n G dH_init_121 rfl rfl ?_
  refine hr_iconst (v := 1) G dH_init_122 (by decide) ?_
  refine hr_zast (n := 1) (y := 1) G rfl (by decide) rfl (show 0 < (n_U (hw_nb (n_U (hw_nb (n_U (hw_nb (n_U (hw_nb (hw_nb (hw_nb (hw_nb (hw_nb (hw_nb (hw_nb (hw_nb (hw_nb (hw_nb (hw_nb n_H 1) 6) 7) 8) 10) 12) 14) 15) 14) 15) 2)) 2)) 2)) 2)) 7 by decide) (by decide) (by decide) rfl (rfl) dH_init_123 ?_
  refine hr_iinc (v := 2) G dH_init_124 rfl (by decide) (by decide) ?_
  refine hr_goto (tgt := 112) G dH_init_127 (by decide) ?_
  refine hr_iload_n G dH_init_112 rfl rfl ?_
  refine hr_iconst (v := 5) G dH_init_113 (by decide) ?_
  refine hr_icmp_gt (tgt := 130) G dH_init_114 (by decide) (fun h => absurd h (by decide)) (fun _ => ?_)
  refine hr_aload_n G dH_init_117 rfl rfl ?_
  refine hr_get (v := .ref (hw_a B 7 0)) G fH_19 (show 0 < (n_U (hw_nb (n_U (hw_nb (n_U (hw_nb (n_U (hw_nb (hw_nb (hw_nb (hw_nb (hw_nb (hw_nb (hw_nb (hw_nb (hw_nb (hw_nb (hw_nb n_H 1) 6) 7) 8) 10) 12) 14) 15) 14) 15) 2)) 2)) 2)) 2)) 0 by decide) (hw_rdy (t := 7) (v := 0) rfl (by decide)) dH_init_118 ?_
  refine hr_iload_n G dH_init_121 rfl rfl ?_
  refine hr_iconst (v := 1) G dH_init_122 (by decide) ?_
  refine hr_zast (n := 2) (y := 1) G rfl (by decide) rfl (show 0 < (n_U (hw_nb (n_U (hw_nb (n_U (hw_nb (n_U (hw_nb (hw_nb (hw_nb (hw_nb (hw_nb (hw_nb (hw_nb (hw_nb (hw_nb (hw_nb (hw_nb n_H 1) 6) 7) 8) 10) 12) 14) 15) 14) 15) 2)) 2)) 2)) 2)) 7 by decide) (by decide) (by decide) rfl (rfl) dH_init_123 ?_
  refine hr_iinc (v := 3) G dH_init_124 rfl (by decide) (by decide) ?_
  refine hr_goto (tgt := 112) G dH_init_127 (by decide) ?_
  refine hr_iload_n G dH_init_112 rfl rfl ?_
  refine hr_iconst (v := 5) G dH_init_113 (by decide) ?_
  refine hr_icmp_gt (tgt := 130) G dH_init_114 (by decide) (fun h => absurd h (by decide)) (fun _ => ?_)
  refine hr_aload_n G dH_init_117 rfl rfl ?_
  refine hr_get (v := .ref (hw_a B 7 0)) G fH_19 (show 0 < (n_U (hw_nb (n_U (hw_nb (n_U (hw_nb (n_U (hw_nb (hw_nb (hw_nb (hw_nb (hw_nb (hw_nb (hw_nb (hw_nb (hw_nb (hw_nb (hw_nb n_H 1) 6) 7) 8) 10) 12) 14) 15) 14) 15) 2)) 2)) 2)) 2)) 0 by decide) (hw_rdy (t := 7) (v := 0) rfl (by decide)) dH_init_118 ?_
  refine hr_iload_n G dH_init_121 rfl rfl ?_
  refine hr_iconst (v := 1) G dH_init_122 (by decide) ?_
  refine hr_zast (n := 3) (y := 1) G rfl (by decide) rfl (show 0 < (n_U (hw_nb (n_U (hw_nb (n_U (hw_nb (n_U (hw_nb (hw_nb (hw_nb (hw_nb (hw_nb (hw_nb (hw_nb (hw_nb (hw_nb (hw_nb (hw_nb n_H 1) 6) 7) 8) 10) 12) 14) 15) 14) 15) 2)) 2)) 2)) 2)) 7 by decide) (by decide) (by decide) rfl (rfl) dH_init_123 ?_
  refine hr_iinc (v := 4) G dH_init_124 rfl (by decide) (by decide) ?_
  refine hr_goto (tgt := 112) G dH_init_127 (by decide) ?_
  refine hr_iload_n G dH_init_112 rfl rfl ?_
  refine hr_iconst (v := 5) G dH_init_113 (by decide) ?_
  refine hr_icmp_gt (tgt := 130) G dH_init_114 (by decide) (fun h => absurd h (by decide)) (fun _ => ?_)
  refine hr_aload_n G dH_init_117 rfl rfl ?_
  refine hr_get (v := .ref (hw_a B 7 0)) G fH_19 (show 0 < (n_U (hw_nb (n_U (hw_nb (n_U (hw_nb (n_U (hw_nb (hw_nb (hw_nb (hw_nb (hw_nb (hw_nb (hw_nb (hw_nb (hw_nb (hw_nb (hw_nb n_H 1) 6) 7) 8) 10) 12) 14) 15) 14) 15) 2)) 2)) 2)) 2)) 0 by decide) (hw_rdy (t := 7) (v := 0) rfl (by decide)) dH_init_118 ?_
  refine hr_iload_n G dH_init_121 rfl rfl ?_
  refine hr_iconst (v := 1) G dH_init_122 (by decide) ?_
  refine hr_zast (n := 4) (y := 1) G rfl (by decide) rfl (show 0 < (n_U (hw_nb (n_U (hw_nb (n_U (hw_nb (n_U (hw_nb (hw_nb (hw_nb (hw_nb (hw_nb (hw_nb (hw_nb (hw_nb (hw_nb (hw_nb (hw_nb n_H 1) 6) 7) 8) 10) 12) 14) 15) 14) 15) 2)) 2)) 2)) 2)) 7 by decide) (by decide) (by decide) rfl (rfl) dH_init_123 ?_
  refine hr_iinc (v := 5) G dH_init_124 rfl (by decide) (by decide) ?_
  refine hr_goto (tgt := 112) G dH_init_127 (by decide) ?_
  refine hr_iload_n G dH_init_112 rfl rfl ?_
  refine hr_iconst (v := 5) G dH_init_113 (by decide) ?_
  refine hr_icmp_gt (tgt := 130) G dH_init_114 (by decide) (fun h => absurd h (by decide)) (fun _ => ?_)
  refine hr_aload_n G dH_init_117 rfl rfl ?_
  refine hr_get (v := .ref (hw_a B 7 0)) G fH_19 (show 0 < (n_U (hw_nb (n_U (hw_nb (n_U (hw_nb (n_U (hw_nb (hw_nb (hw_nb (hw_nb (hw_nb (hw_nb (hw_nb (hw_nb (hw_nb (hw_nb (hw_nb n_H 1) 6) 7) 8) 10) 12) 14) 15) 14) 15) 2)) 2)) 2)) 2)) 0 by decide) (hw_rdy (t := 7) (v := 0) rfl (by decide)) dH_init_118 ?_
  refine hr_iload_n G dH_init_121 rfl rfl ?_
  refine hr_iconst (v := 1) G dH_init_122 (by decide) ?_
  refine hr_zast (n := 5) (y := 1) G rfl (by decide) rfl (show 0 < (n_U (hw_nb (n_U (hw_nb (n_U (hw_nb (n_U (hw_nb (hw_nb (hw_nb (hw_nb (hw_nb (hw_nb (hw_nb (hw_nb (hw_nb (hw_nb (hw_nb n_H 1) 6) 7) 8) 10) 12) 14) 15) 14) 15) 2)) 2)) 2)) 2)) 7 by decide) (by decide) (by decide) rfl (rfl) dH_init_123 ?_
  refine hr_iinc (v := 6) G dH_init_124 rfl (by decide) (by decide) ?_
  refine hr_goto (tgt := 112) G dH_init_127 (by decide) ?_
  refine hr_iload_n G dH_init_112 rfl rfl ?_
  refine hr_iconst (v := 5) G dH_init_113 (by decide) ?_
  refine hr_icmp_gt (tgt := 130) G dH_init_114 (by decide) (fun _ => ?_) (fun h => absurd (by decide) h)
  exact hr_vret G hr (fun _ h => h) dH_init_130 ⟨rfl, rfl, rfl, rfl⟩
