/-! Constructors: Text. -/
theorem f14T_9 : hw_F "TicketHouse$Text" 9 14 0 (.array .char) true := fT_9
theorem w14H_38 : hw_N "TicketHouse" 38 14 2 := wH_38
set_option maxRecDepth 100000 in
set_option maxHeartbeats 1000000 in
theorem m_T_init (l : Launch) (B : hw_B) (nb : Nat → Nat) (S : hw_St) (z : Nat) (t : Nat) (hi : t < nb 4) (h31 : nb 5 < 2 ^ 31) (hn : 8 = hw_ln 5 (nb 5)) (ha : hw_a B 5 (nb 5) = z) : hw_M l yT_init cT_init 2 none ({ frames := 1, cells := 1, slots := 8, locals := 12 }) B [.ref (hw_a B 4 t), .int 8] nb S z (hw_p (.inl none) (hw_nb nb 5) (hw_sv (hw_nw S 5 (nb 5)) 4 t 0 (nI (nb 5))) (z + 1)) := by
  refine hw_M.of (by decide) (Nat.le_of_ble_eq_true rfl) ?_
  intro X fr hl hR G hr hnm
  refine hr_aload_n G dT_init_0 rfl rfl ?_
  refine hr_objInit G oT.1 oT.2.1 oT.2.2 dT_init_1 (by rw [hR]; decide) (by rw [hR]; decide) ?_
  refine hr_aload_n G dT_init_4 rfl rfl ?_
  refine hr_iload_n G dT_init_5 rfl rfl ?_
  refine hr_newa (atype := .char) (k := 5) (n := 8) G rfl (by decide) rfl ac_char (fun h => h) (fun _ _ h => h) (fun _ _ => rfl) (by decide) hn (by decide) ha (by rw [hR]; decide) (by rw [hR]; decide) dT_init_6 ?_
  refine hr_putF (x := nI (nb 5)) (v := .ref (hw_a B 5 (nb 5))) G fT_9 (fun _ _ _ _ h1 h2 => by cases h1; cases h2; rfl) hnm hi (hw_rdr (by omega)) rfl rfl dT_init_8 ?_
  exact hr_vret G hr (fun _ h => h) dT_init_11 ⟨rfl, rfl, rfl, rfl⟩
set_option maxRecDepth 100000 in
set_option maxHeartbeats 1000000 in
theorem m_T_init_d (l : Launch) (B : hw_B) (nb : Nat → Nat) (S : hw_St) (z : Nat) (t : Nat) (hi : t < nb 14) (h31 : nb 15 < 2 ^ 31) (hn : 8 = hw_ln 15 (nb 15)) (ha : hw_a B 15 (nb 15) = z) (c : Nat) (hc31 : c < 2 ^ 31) (hac : hw_a B 5 c = hw_a B 15 (nb 15)) : hw_M l yT_init cT_init 2 none ({ frames := 1, cells := 1, slots := 8, locals := 12 }) B [.ref (hw_a B 14 t), .int 8] nb S z (hw_p (.inl none) (hw_nb nb 15) (hw_sv (hw_nw S 15 (nb 15)) 14 t 0 (nI (c))) (z + 1)) := by
  refine hw_M.of (by decide) (Nat.le_of_ble_eq_true rfl) ?_
  intro X fr hl hR G hr hnm
  refine hr_aload_n G dT_init_0 rfl rfl ?_
  refine hr_objInit G oT.1 oT.2.1 oT.2.2 dT_init_1 (by rw [hR]; decide) (by rw [hR]; decide) ?_
  refine hr_aload_n G dT_init_4 rfl rfl ?_
  refine hr_iload_n G dT_init_5 rfl rfl ?_
  refine hr_newa (atype := .char) (k := 15) (n := 8) G rfl (by decide) rfl ac_char (fun h => h) (fun _ _ h => h) (fun _ _ => rfl) (by decide) hn (by decide) ha (by rw [hR]; decide) (by rw [hR]; decide) dT_init_6 ?_
  refine hr_putF (x := nI c) (v := .ref (hw_a B 15 (nb 15))) G f14T_9 (fun _ _ _ _ h1 h2 => by cases h1; cases h2; rfl) hnm hi ((hw_rdr (t := 5) hc31).trans (by rw [hac])) rfl rfl dT_init_8 ?_
  exact hr_vret G hr (fun _ h => h) dT_init_11 ⟨rfl, rfl, rfl, rfl⟩
set_option maxRecDepth 100000 in
set_option maxHeartbeats 1000000 in
theorem m_T_init_p (l : Launch) (B : hw_B) (nb : Nat → Nat) (S : hw_St) (z : Nat) (t : Nat) (hi : t < nb 14) (h31 : nb 15 < 2 ^ 31) (hn : 1024 = hw_ln 15 (nb 15)) (ha : hw_a B 15 (nb 15) = z) (c : Nat) (hc31 : c < 2 ^ 31) (hac : hw_a B 5 c = hw_a B 15 (nb 15)) : hw_M l yT_init cT_init 2 none ({ frames := 1, cells := 1, slots := 1024, locals := 12 }) B [.ref (hw_a B 14 t), .int 1024] nb S z (hw_p (.inl none) (hw_nb nb 15) (hw_sv (hw_nw S 15 (nb 15)) 14 t 0 (nI (c))) (z + 1)) := by
  refine hw_M.of (by decide) (Nat.le_of_ble_eq_true rfl) ?_
  intro X fr hl hR G hr hnm
  refine hr_aload_n G dT_init_0 rfl rfl ?_
  refine hr_objInit G oT.1 oT.2.1 oT.2.2 dT_init_1 (by rw [hR]; decide) (by rw [hR]; decide) ?_
  refine hr_aload_n G dT_init_4 rfl rfl ?_
  refine hr_iload_n G dT_init_5 rfl rfl ?_
  refine hr_newa (atype := .char) (k := 15) (n := 1024) G rfl (by decide) rfl ac_char (fun h => h) (fun _ _ h => h) (fun _ _ => rfl) (by decide) hn (by decide) ha (by rw [hR]; decide) (by rw [hR]; decide) dT_init_6 ?_
  refine hr_putF (x := nI c) (v := .ref (hw_a B 15 (nb 15))) G f14T_9 (fun _ _ _ _ h1 h2 => by cases h1; cases h2; rfl) hnm hi ((hw_rdr (t := 5) hc31).trans (by rw [hac])) rfl rfl dT_init_8 ?_
  exact hr_vret G hr (fun _ h => h) dT_init_11 ⟨rfl, rfl, rfl, rfl⟩
