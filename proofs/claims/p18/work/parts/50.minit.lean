/-! Constructors: the reference. -/
/-- how many cells of each kind live when the reference begins: the class stands, the reference itself is made -/
def n_M : Nat → Nat := fun k => if k < 13 then hw_n0 k else if k = 20 then 1 else 0
set_option maxRecDepth 100000 in
theorem n_M_0 : n_M 20 = 1 := rfl
def md_0 (S : hw_St) : hw_St := (hw_sv (hw_nw (hw_sv (hw_sv (hw_nw (hw_sv (hw_nw (hw_sv (hw_nw (hw_sv (hw_nw (hw_sv (hw_nw (hw_sv (hw_nw (hw_sv (hw_nw (hw_sv (hw_nw (hw_sv (hw_nw (hw_sv (hw_nw (hw_sv (hw_nw (hw_sv (hw_nw (hw_sv (hw_nw (hw_sv (hw_nw (hw_sv (hw_nw (hw_sv (hw_nw (hw_sv (hw_nw (hw_sv (hw_nw (hw_sv (hw_nw (hw_sv (hw_nw (hw_sv (hw_nw (hw_sv (hw_nw (hw_sv (hw_nw S 21 0) 20 0 2 (nI 0)) 22 0) 20 0 4 (nI 0)) 23 0) 20 0 5 (nI 0)) 24 0) 20 0 6 (nI 0)) 25 0) 20 0 7 (nI 0)) 26 0) 20 0 8 (nI 0)) 27 0) 20 0 9 (nI 0)) 28 0) 20 0 10 (nI 0)) 29 0) 20 0 11 (nI 0)) 30 0) 20 0 13 (nI 0)) 31 0) 20 0 14 (nI 0)) 32 0) 20 0 15 (nI 0)) 33 0) 20 0 16 (nI 0)) 34 0) 20 0 17 (nI 0)) 35 0) 20 0 19 (nI 0)) 36 0) 20 0 20 (nI 0)) 37 0) 20 0 21 (nI 0)) 38 0) 20 0 22 (nI 0)) 39 0) 20 0 23 (nI 0)) 40 0) 20 0 24 (nI 0)) 41 0) 20 0 25 (nI 0)) 42 0) 20 0 27 (nI 0)) 43 0) 20 0 28 (nI 0)) 20 0 29 (-1)) 44 0) 20 0 30 (nI 0))
def n_R : Nat → Nat := (hw_nb (hw_nb (hw_nb (hw_nb (hw_nb (hw_nb (hw_nb (hw_nb (hw_nb (hw_nb (hw_nb (hw_nb (hw_nb (hw_nb (hw_nb (hw_nb (hw_nb (hw_nb (hw_nb (hw_nb (hw_nb (hw_nb (hw_nb (hw_nb n_M 21) 22) 23) 24) 25) 26) 27) 28) 29) 30) 31) 32) 33) 34) 35) 36) 37) 38) 39) 40) 41) 42) 43) 44)
set_option maxRecDepth 100000 in
set_option maxHeartbeats 1000000 in
theorem m_M_init (l : Launch) (B : hw_B) (S : hw_St) (z : Nat) (ha : ∀ i, i < 24 → hw_a B (21 + i) 0 = z + i) : hw_M l yM_init cM_init 1 none ({ frames := 1, cells := 24, slots := 3042, locals := 12 }) B [.ref (hw_a B 20 0)] n_M S z (hw_p (.inl none) n_R (md_0 S) (z + 24)) := by
  refine hw_M.of (by decide) (Nat.le_of_ble_eq_true rfl) ?_
  intro X fr hl hR G hr hnm
  refine hr_aload_n G dM_init_0 rfl rfl ?_
  refine hr_objInit G oM.1 oM.2.1 oM.2.2 dM_init_1 (by rw [hR]; decide) (by rw [hR]; decide) ?_
  refine hr_aload_n G dM_init_4 rfl rfl ?_
  refine hr_bipush (v := 8) G dM_init_5 (by decide) ?_
  refine hr_newa (atype := .int) (k := 21) (n := 8) G rfl (by decide) rfl ac_int (fun h => h) (fun _ _ h => h) (fun _ _ => rfl) (by decide) rfl (by decide) (ha 0 (by decide)) (by rw [hR]; decide) (by rw [hR]; decide) dM_init_7 ?_
  refine hr_putF (x := nI 0) (v := .ref (hw_a B 21 0)) G fM_7 (fun _ _ _ _ h1 h2 => by cases h1; cases h2; rfl) hnm (show 0 < (hw_nb n_M 21) 20 by decide) (hw_rdr (by decide)) rfl rfl dM_init_9 ?_
  refine hr_aload_n G dM_init_12 rfl rfl ?_
  refine hr_sipush (v := 128) G dM_init_13 (by decide) ?_
  refine hr_newa (atype := .int) (k := 22) (n := 128) G rfl (by decide) rfl ac_int (fun h => h) (fun _ _ h => h) (fun _ _ => rfl) (by decide) rfl (by decide) (ha 1 (by decide)) (by rw [hR]; decide) (by rw [hR]; decide) dM_init_16 ?_
  refine hr_putF (x := nI 0) (v := .ref (hw_a B 22 0)) G fM_13 (fun _ _ _ _ h1 h2 => by cases h1; cases h2; rfl) hnm (show 0 < (hw_nb (hw_nb n_M 21) 22) 20 by decide) (hw_rdr (by decide)) rfl rfl dM_init_18 ?_
  refine hr_aload_n G dM_init_21 rfl rfl ?_
  refine hr_bipush (v := 16) G dM_init_22 (by decide) ?_
  refine hr_newa (atype := .int) (k := 23) (n := 16) G rfl (by decide) rfl ac_int (fun h => h) (fun _ _ h => h) (fun _ _ => rfl) (by decide) rfl (by decide) (ha 2 (by decide)) (by rw [hR]; decide) (by rw [hR]; decide) dM_init_24 ?_
  refine hr_putF (x := nI 0) (v := .ref (hw_a B 23 0)) G fM_16 (fun _ _ _ _ h1 h2 => by cases h1; cases h2; rfl) hnm (show 0 < (hw_nb (hw_nb (hw_nb n_M 21) 22) 23) 20 by decide) (hw_rdr (by decide)) rfl rfl dM_init_26 ?_
  refine hr_aload_n G dM_init_29 rfl rfl ?_
  refine hr_iconst (v := 4) G dM_init_30 (by decide) ?_
  refine hr_newa (atype := .boolean) (k := 24) (n := 4) G rfl (by decide) rfl ac_boolean (fun h => h) (fun _ _ h => h) (fun _ _ => rfl) (by decide) rfl (by decide) (ha 3 (by decide)) (by rw [hR]; decide) (by rw [hR]; decide) dM_init_31 ?_
  refine hr_putF (x := nI 0) (v := .ref (hw_a B 24 0)) G fM_19 (fun _ _ _ _ h1 h2 => by cases h1; cases h2; rfl) hnm (show 0 < (hw_nb (hw_nb (hw_nb (hw_nb n_M 21) 22) 23) 24) 20 by decide) (hw_rdr (by decide)) rfl rfl dM_init_33 ?_
  refine hr_aload_n G dM_init_36 rfl rfl ?_
  refine hr_iconst (v := 4) G dM_init_37 (by decide) ?_
  refine hr_newa (atype := .int) (k := 25) (n := 4) G rfl (by decide) rfl ac_int (fun h => h) (fun _ _ h => h) (fun _ _ => rfl) (by decide) rfl (by decide) (ha 4 (by decide)) (by rw [hR]; decide) (by rw [hR]; decide) dM_init_38 ?_
  refine hr_putF (x := nI 0) (v := .ref (hw_a B 25 0)) G fM_23 (fun _ _ _ _ h1 h2 => by cases h1; cases h2; rfl) hnm (show 0 < (hw_nb (hw_nb (hw_nb (hw_nb (hw_nb n_M 21) 22) 23) 24) 25) 20 by decide) (hw_rdr (by decide)) rfl rfl dM_init_40 ?_
  refine hr_aload_n G dM_init_43 rfl rfl ?_
  refine hr_iconst (v := 4) G dM_init_44 (by decide) ?_
  refine hr_newa (atype := .int) (k := 26) (n := 4) G rfl (by decide) rfl ac_int (fun h => h) (fun _ _ h => h) (fun _ _ => rfl) (by decide) rfl (by decide) (ha 5 (by decide)) (by rw [hR]; decide) (by rw [hR]; decide) dM_init_45 ?_
  refine hr_putF (x := nI 0) (v := .ref (hw_a B 26 0)) G fM_26 (fun _ _ _ _ h1 h2 => by cases h1; cases h2; rfl) hnm (show 0 < (hw_nb (hw_nb (hw_nb (hw_nb (hw_nb (hw_nb n_M 21) 22) 23) 24) 25) 26) 20 by decide) (hw_rdr (by decide)) rfl rfl dM_init_47 ?_
  refine hr_aload_n G dM_init_50 rfl rfl ?_
  refine hr_iconst (v := 4) G dM_init_51 (by decide) ?_
  refine hr_newa (atype := .int) (k := 27) (n := 4) G rfl (by decide) rfl ac_int (fun h => h) (fun _ _ h => h) (fun _ _ => rfl) (by decide) rfl (by decide) (ha 6 (by decide)) (by rw [hR]; decide) (by rw [hR]; decide) dM_init_52 ?_
  refine hr_putF (x := nI 0) (v := .ref (hw_a B 27 0)) G fM_29 (fun _ _ _ _ h1 h2 => by cases h1; cases h2; rfl) hnm (show 0 < (hw_nb (hw_nb (hw_nb (hw_nb (hw_nb (hw_nb (hw_nb n_M 21) 22) 23) 24) 25) 26) 27) 20 by decide) (hw_rdr (by decide)) rfl rfl dM_init_54 ?_
  refine hr_aload_n G dM_init_57 rfl rfl ?_
  refine hr_bipush (v := 6) G dM_init_58 (by decide) ?_
  refine hr_newa (atype := .int) (k := 28) (n := 6) G rfl (by decide) rfl ac_int (fun h => h) (fun _ _ h => h) (fun _ _ => rfl) (by decide) rfl (by decide) (ha 7 (by decide)) (by rw [hR]; decide) (by rw [hR]; decide) dM_init_60 ?_
  refine hr_putF (x := nI 0) (v := .ref (hw_a B 28 0)) G fM_32 (fun _ _ _ _ h1 h2 => by cases h1; cases h2; rfl) hnm (show 0 < (hw_nb (hw_nb (hw_nb (hw_nb (hw_nb (hw_nb (hw_nb (hw_nb n_M 21) 22) 23) 24) 25) 26) 27) 28) 20 by decide) (hw_rdr (by decide)) rfl rfl dM_init_62 ?_
  refine hr_aload_n G dM_init_65 rfl rfl ?_
  refine hr_bipush (v := 6) G dM_init_66 (by decide) ?_
  refine hr_newa (atype := .boolean) (k := 29) (n := 6) G rfl (by decide) rfl ac_boolean (fun h => h) (fun _ _ h => h) (fun _ _ => rfl) (by decide) rfl (by decide) (ha 8 (by decide)) (by rw [hR]; decide) (by rw [hR]; decide) dM_init_68 ?_
  refine hr_putF (x := nI 0) (v := .ref (hw_a B 29 0)) G fM_35 (fun _ _ _ _ h1 h2 => by cases h1; cases h2; rfl) hnm (show 0 < (hw_nb (hw_nb (hw_nb (hw_nb (hw_nb (hw_nb (hw_nb (hw_nb (hw_nb n_M 21) 22) 23) 24) 25) 26) 27) 28) 29) 20 by decide) (hw_rdr (by decide)) rfl rfl dM_init_70 ?_
  refine hr_aload_n G dM_init_73 rfl rfl ?_
  refine hr_bipush (v := 40) G dM_init_74 (by decide) ?_
  refine hr_newa (atype := .int) (k := 30) (n := 40) G rfl (by decide) rfl ac_int (fun h => h) (fun _ _ h => h) (fun _ _ => rfl) (by decide) rfl (by decide) (ha 9 (by decide)) (by rw [hR]; decide) (by rw [hR]; decide) dM_init_76 ?_
  refine hr_putF (x := nI 0) (v := .ref (hw_a B 30 0)) G fM_38 (fun _ _ _ _ h1 h2 => by cases h1; cases h2; rfl) hnm (show 0 < (hw_nb (hw_nb (hw_nb (hw_nb (hw_nb (hw_nb (hw_nb (hw_nb (hw_nb (hw_nb n_M 21) 22) 23) 24) 25) 26) 27) 28) 29) 30) 20 by decide) (hw_rdr (by decide)) rfl rfl dM_init_78 ?_
  refine hr_aload_n G dM_init_81 rfl rfl ?_
  refine hr_bipush (v := 40) G dM_init_82 (by decide) ?_
  refine hr_newa (atype := .int) (k := 31) (n := 40) G rfl (by decide) rfl ac_int (fun h => h) (fun _ _ h => h) (fun _ _ => rfl) (by decide) rfl (by decide) (ha 10 (by decide)) (by rw [hR]; decide) (by rw [hR]; decide) dM_init_84 ?_
  refine hr_putF (x := nI 0) (v := .ref (hw_a B 31 0)) G fM_41 (fun _ _ _ _ h1 h2 => by cases h1; cases h2; rfl) hnm (show 0 < (hw_nb (hw_nb (hw_nb (hw_nb (hw_nb (hw_nb (hw_nb (hw_nb (hw_nb (hw_nb (hw_nb n_M 21) 22) 23) 24) 25) 26) 27) 28) 29) 30) 31) 20 by decide) (hw_rdr (by decide)) rfl rfl dM_init_86 ?_
  refine hr_aload_n G dM_init_89 rfl rfl ?_
  refine hr_bipush (v := 40) G dM_init_90 (by decide) ?_
  refine hr_newa (atype := .int) (k := 32) (n := 40) G rfl (by decide) rfl ac_int (fun h => h) (fun _ _ h => h) (fun _ _ => rfl) (by decide) rfl (by decide) (ha 11 (by decide)) (by rw [hR]; decide) (by rw [hR]; decide) dM_init_92 ?_
  refine hr_putF (x := nI 0) (v := .ref (hw_a B 32 0)) G fM_44 (fun _ _ _ _ h1 h2 => by cases h1; cases h2; rfl) hnm (show 0 < (hw_nb (hw_nb (hw_nb (hw_nb (hw_nb (hw_nb (hw_nb (hw_nb (hw_nb (hw_nb (hw_nb (hw_nb n_M 21) 22) 23) 24) 25) 26) 27) 28) 29) 30) 31) 32) 20 by decide) (hw_rdr (by decide)) rfl rfl dM_init_94 ?_
  refine hr_aload_n G dM_init_97 rfl rfl ?_
  refine hr_bipush (v := 40) G dM_init_98 (by decide) ?_
  refine hr_newa (atype := .boolean) (k := 33) (n := 40) G rfl (by decide) rfl ac_boolean (fun h => h) (fun _ _ h => h) (fun _ _ => rfl) (by decide) rfl (by decide) (ha 12 (by decide)) (by rw [hR]; decide) (by rw [hR]; decide) dM_init_100 ?_
  refine hr_putF (x := nI 0) (v := .ref (hw_a B 33 0)) G fM_47 (fun _ _ _ _ h1 h2 => by cases h1; cases h2; rfl) hnm (show 0 < (hw_nb (hw_nb (hw_nb (hw_nb (hw_nb (hw_nb (hw_nb (hw_nb (hw_nb (hw_nb (hw_nb (hw_nb (hw_nb n_M 21) 22) 23) 24) 25) 26) 27) 28) 29) 30) 31) 32) 33) 20 by decide) (hw_rdr (by decide)) rfl rfl dM_init_102 ?_
  refine hr_aload_n G dM_init_105 rfl rfl ?_
  refine hr_bipush (v := 40) G dM_init_106 (by decide) ?_
  refine hr_newa (atype := .boolean) (k := 34) (n := 40) G rfl (by decide) rfl ac_boolean (fun h => h) (fun _ _ h => h) (fun _ _ => rfl) (by decide) rfl (by decide) (ha 13 (by decide)) (by rw [hR]; decide) (by rw [hR]; decide) dM_init_108 ?_
  refine hr_putF (x := nI 0) (v := .ref (hw_a B 34 0)) G fM_50 (fun _ _ _ _ h1 h2 => by cases h1; cases h2; rfl) hnm (show 0 < (hw_nb (hw_nb (hw_nb (hw_nb (hw_nb (hw_nb (hw_nb (hw_nb (hw_nb (hw_nb (hw_nb (hw_nb (hw_nb (hw_nb n_M 21) 22) 23) 24) 25) 26) 27) 28) 29) 30) 31) 32) 33) 34) 20 by decide) (hw_rdr (by decide)) rfl rfl dM_init_110 ?_
  refine hr_aload_n G dM_init_113 rfl rfl ?_
  refine hr_sipush (v := 150) G dM_init_114 (by decide) ?_
  refine hr_newa (atype := .int) (k := 35) (n := 150) G rfl (by decide) rfl ac_int (fun h => h) (fun _ _ h => h) (fun _ _ => rfl) (by decide) rfl (by decide) (ha 14 (by decide)) (by rw [hR]; decide) (by rw [hR]; decide) dM_init_117 ?_
  refine hr_putF (x := nI 0) (v := .ref (hw_a B 35 0)) G fM_53 (fun _ _ _ _ h1 h2 => by cases h1; cases h2; rfl) hnm (show 0 < (hw_nb (hw_nb (hw_nb (hw_nb (hw_nb (hw_nb (hw_nb (hw_nb (hw_nb (hw_nb (hw_nb (hw_nb (hw_nb (hw_nb (hw_nb n_M 21) 22) 23) 24) 25) 26) 27) 28) 29) 30) 31) 32) 33) 34) 35) 20 by decide) (hw_rdr (by decide)) rfl rfl dM_init_119 ?_
  refine hr_aload_n G dM_init_122 rfl rfl ?_
  refine hr_sipush (v := 150) G dM_init_123 (by decide) ?_
  refine hr_newa (atype := .int) (k := 36) (n := 150) G rfl (by decide) rfl ac_int (fun h => h) (fun _ _ h => h) (fun _ _ => rfl) (by decide) rfl (by decide) (ha 15 (by decide)) (by rw [hR]; decide) (by rw [hR]; decide) dM_init_126 ?_
  refine hr_putF (x := nI 0) (v := .ref (hw_a B 36 0)) G fM_56 (fun _ _ _ _ h1 h2 => by cases h1; cases h2; rfl) hnm (show 0 < (hw_nb (hw_nb (hw_nb (hw_nb (hw_nb (hw_nb (hw_nb (hw_nb (hw_nb (hw_nb (hw_nb (hw_nb (hw_nb (hw_nb (hw_nb (hw_nb n_M 21) 22) 23) 24) 25) 26) 27) 28) 29) 30) 31) 32) 33) 34) 35) 36) 20 by decide) (hw_rdr (by decide)) rfl rfl dM_init_128 ?_
  refine hr_aload_n G dM_init_131 rfl rfl ?_
  refine hr_sipush (v := 150) G dM_init_132 (by decide) ?_
  refine hr_newa (atype := .int) (k := 37) (n := 150) G rfl (by decide) rfl ac_int (fun h => h) (fun _ _ h => h) (fun _ _ => rfl) (by decide) rfl (by decide) (ha 16 (by decide)) (by rw [hR]; decide) (by rw [hR]; decide) dM_init_135 ?_
  refine hr_putF (x := nI 0) (v := .ref (hw_a B 37 0)) G fM_59 (fun _ _ _ _ h1 h2 => by cases h1; cases h2; rfl) hnm (show 0 < (hw_nb (hw_nb (hw_nb (hw_nb (hw_nb (hw_nb (hw_nb (hw_nb (hw_nb (hw_nb (hw_nb (hw_nb (hw_nb (hw_nb (hw_nb (hw_nb (hw_nb n_M 21) 22) 23) 24) 25) 26) 27) 28) 29) 30) 31) 32) 33) 34) 35) 36) 37) 20 by decide) (hw_rdr (by decide)) rfl rfl dM_init_137 ?_
  refine hr_aload_n G dM_init_140 rfl rfl ?_
  refine hr_sipush (v := 150) G dM_init_141 (by decide) ?_
  refine hr_newa (atype := .int) (k := 38) (n := 150) G rfl (by decide) rfl ac_int (fun h => h) (fun _ _ h => h) (fun _ _ => rfl) (by decide) rfl (by decide) (ha 17 (by decide)) (by rw [hR]; decide) (by rw [hR]; decide) dM_init_144 ?_
  refine hr_putF (x := nI 0) (v := .ref (hw_a B 38 0)) G fM_62 (fun _ _ _ _ h1 h2 => by cases h1; cases h2; rfl) hnm (show 0 < (hw_nb (hw_nb (hw_nb (hw_nb (hw_nb (hw_nb (hw_nb (hw_nb (hw_nb (hw_nb (hw_nb (hw_nb (hw_nb (hw_nb (hw_nb (hw_nb (hw_nb (hw_nb n_M 21) 22) 23) 24) 25) 26) 27) 28) 29) 30) 31) 32) 33) 34) 35) 36) 37) 38) 20 by decide) (hw_rdr (by decide)) rfl rfl dM_init_146 ?_
  refine hr_aload_n G dM_init_149 rfl rfl ?_
  refine hr_sipush (v := 150) G dM_init_150 (by decide) ?_
  refine hr_newa (atype := .boolean) (k := 39) (n := 150) G rfl (by decide) rfl ac_boolean (fun h => h) (fun _ _ h => h) (fun _ _ => rfl) (by decide) rfl (by decide) (ha 18 (by decide)) (by rw [hR]; decide) (by rw [hR]; decide) dM_init_153 ?_
  refine hr_putF (x := nI 0) (v := .ref (hw_a B 39 0)) G fM_65 (fun _ _ _ _ h1 h2 => by cases h1; cases h2; rfl) hnm (show 0 < (hw_nb (hw_nb (hw_nb (hw_nb (hw_nb (hw_nb (hw_nb (hw_nb (hw_nb (hw_nb (hw_nb (hw_nb (hw_nb (hw_nb (hw_nb (hw_nb (hw_nb (hw_nb (hw_nb n_M 21) 22) 23) 24) 25) 26) 27) 28) 29) 30) 31) 32) 33) 34) 35) 36) 37) 38) 39) 20 by decide) (hw_rdr (by decide)) rfl rfl dM_init_155 ?_
  refine hr_aload_n G dM_init_158 rfl rfl ?_
  refine hr_sipush (v := 150) G dM_init_159 (by decide) ?_
  refine hr_newa (atype := .int) (k := 40) (n := 150) G rfl (by decide) rfl ac_int (fun h => h) (fun _ _ h => h) (fun _ _ => rfl) (by decide) rfl (by decide) (ha 19 (by decide)) (by rw [hR]; decide) (by rw [hR]; decide) dM_init_162 ?_
  refine hr_putF (x := nI 0) (v := .ref (hw_a B 40 0)) G fM_68 (fun _ _ _ _ h1 h2 => by cases h1; cases h2; rfl) hnm (show 0 < (hw_nb (hw_nb (hw_nb (hw_nb (hw_nb (hw_nb (hw_nb (hw_nb (hw_nb (hw_nb (hw_nb (hw_nb (hw_nb (hw_nb (hw_nb (hw_nb (hw_nb (hw_nb (hw_nb (hw_nb n_M 21) 22) 23) 24) 25) 26) 27) 28) 29) 30) 31) 32) 33) 34) 35) 36) 37) 38) 39) 40) 20 by decide) (hw_rdr (by decide)) rfl rfl dM_init_164 ?_
  refine hr_aload_n G dM_init_167 rfl rfl ?_
  refine hr_sipush (v := 150) G dM_init_168 (by decide) ?_
  refine hr_newa (atype := .boolean) (k := 41) (n := 150) G rfl (by decide) rfl ac_boolean (fun h => h) (fun _ _ h => h) (fun _ _ => rfl) (by decide) rfl (by decide) (ha 20 (by decide)) (by rw [hR]; decide) (by rw [hR]; decide) dM_init_171 ?_
  refine hr_putF (x := nI 0) (v := .ref (hw_a B 41 0)) G fM_71 (fun _ _ _ _ h1 h2 => by cases h1; cases h2; rfl) hnm (show 0 < (hw_nb (hw_nb (hw_nb (hw_nb (hw_nb (hw_nb (hw_nb (hw_nb (hw_nb (hw_nb (hw_nb (hw_nb (hw_nb (hw_nb (hw_nb (hw_nb (hw_nb (hw_nb (hw_nb (hw_nb (hw_nb n_M 21) 22) 23) 24) 25) 26) 27) 28) 29) 30) 31) 32) 33) 34) 35) 36) 37) 38) 39) 40) 41) 20 by decide) (hw_rdr (by decide)) rfl rfl dM_init_173 ?_
  refine hr_aload_n G dM_init_176 rfl rfl ?_
  refine hr_sipush (v := 200) G dM_init_177 (by decide) ?_
  refine hr_newa (atype := .int) (k := 42) (n := 200) G rfl (by decide) rfl ac_int (fun h => h) (fun _ _ h => h) (fun _ _ => rfl) (by decide) rfl (by decide) (ha 21 (by decide)) (by rw [hR]; decide) (by rw [hR]; decide) dM_init_180 ?_
  refine hr_putF (x := nI 0) (v := .ref (hw_a B 42 0)) G fM_74 (fun _ _ _ _ h1 h2 => by cases h1; cases h2; rfl) hnm (show 0 < (hw_nb (hw_nb (hw_nb (hw_nb (hw_nb (hw_nb (hw_nb (hw_nb (hw_nb (hw_nb (hw_nb (hw_nb (hw_nb (hw_nb (hw_nb (hw_nb (hw_nb (hw_nb (hw_nb (hw_nb (hw_nb (hw_nb n_M 21) 22) 23) 24) 25) 26) 27) 28) 29) 30) 31) 32) 33) 34) 35) 36) 37) 38) 39) 40) 41) 42) 20 by decide) (hw_rdr (by decide)) rfl rfl dM_init_182 ?_
  refine hr_aload_n G dM_init_185 rfl rfl ?_
  refine hr_sipush (v := 1400) G dM_init_186 (by decide) ?_
  refine hr_newa (atype := .int) (k := 43) (n := 1400) G rfl (by decide) rfl ac_int (fun h => h) (fun _ _ h => h) (fun _ _ => rfl) (by decide) rfl (by decide) (ha 22 (by decide)) (by rw [hR]; decide) (by rw [hR]; decide) dM_init_189 ?_
  refine hr_putF (x := nI 0) (v := .ref (hw_a B 43 0)) G fM_77 (fun _ _ _ _ h1 h2 => by cases h1; cases h2; rfl) hnm (show 0 < (hw_nb (hw_nb (hw_nb (hw_nb (hw_nb (hw_nb (hw_nb (hw_nb (hw_nb (hw_nb (hw_nb (hw_nb (hw_nb (hw_nb (hw_nb (hw_nb (hw_nb (hw_nb (hw_nb (hw_nb (hw_nb (hw_nb (hw_nb n_M 21) 22) 23) 24) 25) 26) 27) 28) 29) 30) 31) 32) 33) 34) 35) 36) 37) 38) 39) 40) 41) 42) 43) 20 by decide) (hw_rdr (by decide)) rfl rfl dM_init_191 ?_
  refine hr_aload_n G dM_init_194 rfl rfl ?_
  refine hr_iconst (v := -1) G dM_init_195 (by decide) ?_
  refine hr_put (x := (-1)) G fM_80 (show 0 < (hw_nb (hw_nb (hw_nb (hw_nb (hw_nb (hw_nb (hw_nb (hw_nb (hw_nb (hw_nb (hw_nb (hw_nb (hw_nb (hw_nb (hw_nb (hw_nb (hw_nb (hw_nb (hw_nb (hw_nb (hw_nb (hw_nb (hw_nb n_M 21) 22) 23) 24) 25) 26) 27) 28) 29) 30) 31) 32) 33) 34) 35) 36) 37) 38) 39) 40) 41) 42) 43) 20 by decide) rfl (rfl) rfl dM_init_196 ?_
  refine hr_aload_n G dM_init_199 rfl rfl ?_
  refine hr_bipush (v := 12) G dM_init_200 (by decide) ?_
  refine hr_newa (atype := .int) (k := 44) (n := 12) G rfl (by decide) rfl ac_int (fun h => h) (fun _ _ h => h) (fun _ _ => rfl) (by decide) rfl (by decide) (ha 23 (by decide)) (by rw [hR]; decide) (by rw [hR]; decide) dM_init_202 ?_
  refine hr_putF (x := nI 0) (v := .ref (hw_a B 44 0)) G fM_84 (fun _ _ _ _ h1 h2 => by cases h1; cases h2; rfl) hnm (show 0 < (hw_nb (hw_nb (hw_nb (hw_nb (hw_nb (hw_nb (hw_nb (hw_nb (hw_nb (hw_nb (hw_nb (hw_nb (hw_nb (hw_nb (hw_nb (hw_nb (hw_nb (hw_nb (hw_nb (hw_nb (hw_nb (hw_nb (hw_nb (hw_nb n_M 21) 22) 23) 24) 25) 26) 27) 28) 29) 30) 31) 32) 33) 34) 35) 36) 37) 38) 39) 40) 41) 42) 43) 44) 20 by decide) (hw_rdr (by decide)) rfl rfl dM_init_204 ?_
  exact hr_vret G hr (fun _ h => h) dM_init_207 ⟨rfl, rfl, rfl, rfl⟩
