/-! The law's loop. -/
theorem lw_le {n i : Nat} (hn : n < 2 ^ 31) (hi : i < 2 ^ 31) (h : ¬ nI n - 5 < nI i) : i + 5 ≤ n := by
  by_cases h5 : n < 5
  · exfalso; apply h
    have h0 : nI n - 5 < 0 := by
      rcases (show n = 0 ∨ n = 1 ∨ n = 2 ∨ n = 3 ∨ n = 4 by omega) with rfl | rfl | rfl | rfl | rfl <;> decide
    have h1 := Int32.lt_iff_toInt_lt.mp h0
    have h2 := Int32.le_iff_toInt_le.mp (nI_pos' hi)
    exact Int32.lt_iff_toInt_lt.mpr (by omega)
  · obtain ⟨m, rfl⟩ : ∃ m, n = m + 5 := ⟨n - 5, by omega⟩
    have e : nI (m + 5) - 5 = nI m := by rw [← nI_add]; exact Int32.add_sub_cancel _ _
    rw [e] at h
    have := mt (nI_ltI (by omega) hi).mpr h
    omega
theorem lw_head {X : hw_X} {B : hw_B} {fr : Nat → Prop} {nb : Nat → Nat} {S : hw_St} {z c sl : Nat} {Q : State → Prop} (G : hw_G X B fr cL_law 7 "TicketHouseLaw") {b L0 t : Nat} {s0 : Nat → Int32} (hE : lw_E X b L0 s0) (hB : B.1 = (xs X).heap.size) (ht : 5 * t ≤ L0) (KE : hw_V X B fr nb S z c sl Q 7 799 [] []) (KB : 5 * t + 5 ≤ L0 → hw_V X B fr nb S z c sl Q 7 39 (lw_L B b t) [.int (s0 (5 * t) &&& 31)]) : hw_V X B fr nb S z c sl Q 7 23 (lw_L B b t) [] := by
  have hL := hE.2.2.2.1
  refine hr_iload G dL_law_23 rfl ?_
  refine hr_aload_n G dL_law_25 rfl rfl ?_
  refine hr_slen G hE.2.1 hE.2.2.1 hB dL_law_26 ?_
  refine hr_iconst (v := 5) G dL_law_27 (by decide) ?_
  refine hr_isub G dL_law_28 ?_
  refine hr_icmp_gt (tgt := 799) G dL_law_29 (by decide) (fun _ => ?_) (fun h => ?_)
  · exact hr_L hw_s0 KE
  · have h5 : 5 * t + 5 ≤ L0 := lw_le hL (by omega) h
    refine hr_aload_n G dL_law_32 rfl rfl ?_
    refine hr_iload G dL_law_33 rfl ?_
    refine hr_sld (n := 5 * t) G hE.2.1 hE.2.2.1 hB rfl (by omega) hL dL_law_35 ?_
    refine hr_bipush (v := 31) G dL_law_36 (by decide) ?_
    refine hr_iand G dL_law_38 ?_
    exact KB h5
theorem lw_sw {X : hw_X} {B : hw_B} {fr : Nat → Prop} {nb : Nat → Nat} {S : hw_St} {z c sl : Nat} {Q : State → Prop} (G : hw_G X B fr cL_law 7 "TicketHouseLaw") {L : List (Nat × Value)} {v : Int32} (K0 : hw_V X B fr nb S z c sl Q 7 120 L []) (K1 : hw_V X B fr nb S z c sl Q 7 148 L []) (K2 : hw_V X B fr nb S z c sl Q 7 188 L []) (K3 : hw_V X B fr nb S z c sl Q 7 228 L []) (K4 : hw_V X B fr nb S z c sl Q 7 268 L []) (K5 : hw_V X B fr nb S z c sl Q 7 324 L []) (K6 : hw_V X B fr nb S z c sl Q 7 392 L []) (K7 : hw_V X B fr nb S z c sl Q 7 444 L []) (K8 : hw_V X B fr nb S z c sl Q 7 484 L []) (K9 : hw_V X B fr nb S z c sl Q 7 524 L []) (K10 : hw_V X B fr nb S z c sl Q 7 588 L []) (K11 : hw_V X B fr nb S z c sl Q 7 616 L []) (K12 : hw_V X B fr nb S z c sl Q 7 644 L []) (K13 : hw_V X B fr nb S z c sl Q 7 669 L []) (K14 : hw_V X B fr nb S z c sl Q 7 706 L []) (K15 : hw_V X B fr nb S z c sl Q 7 743 L []) (K16 : hw_V X B fr nb S z c sl Q 7 768 L []) (Kd : hw_V X B fr nb S z c sl Q 7 793 L []) : hw_V X B fr nb S z c sl Q 7 39 L [.int v] := by
  rcases ib_rng v 17 (by decide) with ⟨j, hj, rfl⟩ | hx
  · rcases (show j = 0 ∨ j = 1 ∨ j = 2 ∨ j = 3 ∨ j = 4 ∨ j = 5 ∨ j = 6 ∨ j = 7 ∨ j = 8 ∨ j = 9 ∨ j = 10 ∨ j = 11 ∨ j = 12 ∨ j = 13 ∨ j = 14 ∨ j = 15 ∨ j = 16 by omega) with rfl | rfl | rfl | rfl | rfl | rfl | rfl | rfl | rfl | rfl | rfl | rfl | rfl | rfl | rfl | rfl | rfl
    · exact hr_tblIn (off := 81) (tgt := 120) G dL_law_39 (by decide) (by decide) (by decide) (by decide) K0
    · exact hr_tblIn (off := 109) (tgt := 148) G dL_law_39 (by decide) (by decide) (by decide) (by decide) K1
    · exact hr_tblIn (off := 149) (tgt := 188) G dL_law_39 (by decide) (by decide) (by decide) (by decide) K2
    · exact hr_tblIn (off := 189) (tgt := 228) G dL_law_39 (by decide) (by decide) (by decide) (by decide) K3
    · exact hr_tblIn (off := 229) (tgt := 268) G dL_law_39 (by decide) (by decide) (by decide) (by decide) K4
    · exact hr_tblIn (off := 285) (tgt := 324) G dL_law_39 (by decide) (by decide) (by decide) (by decide) K5
    · exact hr_tblIn (off := 353) (tgt := 392) G dL_law_39 (by decide) (by decide) (by decide) (by decide) K6
    · exact hr_tblIn (off := 405) (tgt := 444) G dL_law_39 (by decide) (by decide) (by decide) (by decide) K7
    · exact hr_tblIn (off := 445) (tgt := 484) G dL_law_39 (by decide) (by decide) (by decide) (by decide) K8
    · exact hr_tblIn (off := 485) (tgt := 524) G dL_law_39 (by decide) (by decide) (by decide) (by decide) K9
    · exact hr_tblIn (off := 549) (tgt := 588) G dL_law_39 (by decide) (by decide) (by decide) (by decide) K10
    · exact hr_tblIn (off := 577) (tgt := 616) G dL_law_39 (by decide) (by decide) (by decide) (by decide) K11
    · exact hr_tblIn (off := 605) (tgt := 644) G dL_law_39 (by decide) (by decide) (by decide) (by decide) K12
    · exact hr_tblIn (off := 630) (tgt := 669) G dL_law_39 (by decide) (by decide) (by decide) (by decide) K13
    · exact hr_tblIn (off := 667) (tgt := 706) G dL_law_39 (by decide) (by decide) (by decide) (by decide) K14
    · exact hr_tblIn (off := 704) (tgt := 743) G dL_law_39 (by decide) (by decide) (by decide) (by decide) K15
    · exact hr_tblIn (off := 729) (tgt := 768) G dL_law_39 (by decide) (by decide) (by decide) (by decide) K16
  · refine hr_tblOut (tgt := 793) G dL_law_39 ?_ (by decide) Kd
    rcases hx with hx | hx
    · left
      have := Int32.lt_iff_toInt_lt.mp hx
      exact this
    · right
      have := Int32.le_iff_toInt_le.mp hx
      rw [show (nI 17).toInt = 17 from rfl] at this
      omega
theorem lw_loop {X : hw_X} {fr : Nat → Prop} {Q : State → Prop} {b L0 : Nat} {s0 : Nat → Int32} (hE : lw_E X b L0 s0) (hN : L0 ≤ 2560) (hcc : 1128 ≤ (xR X).cells) (hss : 12710 ≤ (xR X).slots) (KE : ∀ (B : hw_B) (nb : Nat → Nat) (S : hw_St) (z : Nat), hw_G X B fr cL_law 7 "TicketHouseLaw" → hw_V X B fr nb S z 1128 12710 Q 7 799 [] []) : ∀ (n t : Nat) (B : hw_B) (nb : Nat → Nat) (S : hw_St) (z : Nat), L0 ≤ 5 * t + 5 * n → 5 * t ≤ L0 → hw_G X B fr cL_law 7 "TicketHouseLaw" → B.1 = (xs X).heap.size → jw t nb S → hw_V X B fr nb S z (100 + 2 * t) (5000 + 15 * t) Q 7 23 (lw_L B b t) [] := by
  intro n
  induction n with
  | zero =>
    intro t B nb S z h1 h2 G hB J
    exact lw_head G hE hB h2 (hr_wide (by omega) (by omega) (KE B nb S z G)) (fun h5 => absurd h5 (by omega))
  | succ n ih =>
    intro t B nb S z h1 h2 G hB J
    refine lw_head G hE hB h2 (hr_wide (by omega) (by omega) (KE B nb S z G)) (fun h5 => ?_)
    have KK : ∀ B' : hw_B, B'.1 = (xs X).heap.size → hw_G X B' fr cL_law 7 "TicketHouseLaw" → ∀ nb' S' z', jw (t + 1) nb' S' → hw_V X B' fr nb' S' z' (100 + 2 * t + 2) (5000 + 15 * t + 15) Q 7 793 (lw_L B' b t) [] := fun B' hB' G' nb' S' z' J' => by
      refine hr_iinc (v := nI (5 * (t + 1))) G' dL_law_793 rfl (by rw [show Int32.ofInt 5 = nI 5 from by decide, nI_add]; rfl) (by decide) ?_
      refine hr_goto (tgt := 23) G' dL_law_796 (by decide) ?_
      refine hr_L (L' := lw_L B' b (t + 1)) (hw_s1 rfl (hw_s1 rfl (hw_s1 rfl (hw_s1 rfl (hw_s1 rfl hw_s0))))) ?_
      have := ih (t + 1) B' nb' S' z' (by omega) (by omega) G' hB' J'
      rw [show 100 + 2 * (t + 1) = 100 + 2 * t + 2 by omega, show 5000 + 15 * (t + 1) = 5000 + 15 * t + 15 by omega] at this
      exact this
    refine lw_sw G ?_ ?_ ?_ ?_ ?_ ?_ ?_ ?_ ?_ ?_ ?_ ?_ ?_ ?_ ?_ ?_ ?_ (hr_wide (by omega) (by omega) (KK B hB G nb S z (jw_up J)))
    · refine hr_reB J.1 J.2.1 z z ?_
      refine hr_L (L' := lw_L (reB B nb z z) b t) (hw_s1 rfl (hw_s1 rfl (hw_s1 rfl (hw_s1 rfl (hw_s1 rfl hw_s0))))) ?_
      exact bo_letter (G.rb nb z z) hE hB h5 (by omega) (by omega) J (KK _ hB (G.rb nb z z))
    · refine hr_reB J.1 J.2.1 z z ?_
      refine hr_L (L' := lw_L (reB B nb z z) b t) (hw_s1 rfl (hw_s1 rfl (hw_s1 rfl (hw_s1 rfl (hw_s1 rfl hw_s0))))) ?_
      exact bo_text (G.rb nb z z) hE hB h5 (by omega) (by omega) J (KK _ hB (G.rb nb z z))
    · refine hr_reB J.1 J.2.1 z z ?_
      refine hr_L (L' := lw_L (reB B nb z z) b t) (hw_s1 rfl (hw_s1 rfl (hw_s1 rfl (hw_s1 rfl (hw_s1 rfl hw_s0))))) ?_
      exact bo_password (G.rb nb z z) hE hB h5 (by omega) (by omega) J (KK _ hB (G.rb nb z z))
    · refine hr_reB J.1 J.2.1 z z ?_
      refine hr_L (L' := lw_L (reB B nb z z) b t) (hw_s1 rfl (hw_s1 rfl (hw_s1 rfl (hw_s1 rfl (hw_s1 rfl hw_s0))))) ?_
      exact bo_service (G.rb nb z z) hE hB h5 (by omega) (by omega) J (KK _ hB (G.rb nb z z))
    · refine hr_reB J.1 J.2.1 z z ?_
      refine hr_L (L' := lw_L (reB B nb z z) b t) (hw_s1 rfl (hw_s1 rfl (hw_s1 rfl (hw_s1 rfl (hw_s1 rfl hw_s0))))) ?_
      exact bo_callback (G.rb nb z z) hE hB h5 (by omega) (by omega) J (KK _ hB (G.rb nb z z))
    · refine hr_reB J.1 J.2.1 z z ?_
      refine hr_L (L' := lw_L (reB B nb z z) b t) (hw_s1 rfl (hw_s1 rfl (hw_s1 rfl (hw_s1 rfl (hw_s1 rfl hw_s0))))) ?_
      exact bo_login (G.rb nb z z) hE hB h5 (by omega) (by omega) J reB_9 (KK _ hB (G.rb nb z z))
    · refine hr_reB J.1 J.2.1 z (z + 1) ?_
      refine hr_L (L' := lw_L (reB B nb z (z + 1)) b t) (hw_s1 rfl (hw_s1 rfl (hw_s1 rfl (hw_s1 rfl (hw_s1 rfl hw_s0))))) ?_
      exact bo_enter (G.rb nb z (z + 1)) hE hB h5 (by omega) (by omega) J reB_9 reB_11 (KK _ hB (G.rb nb z (z + 1)))
    · refine hr_reB J.1 J.2.1 z z ?_
      refine hr_L (L' := lw_L (reB B nb z z) b t) (hw_s1 rfl (hw_s1 rfl (hw_s1 rfl (hw_s1 rfl (hw_s1 rfl hw_s0))))) ?_
      exact bo_ticket (G.rb nb z z) hE hB h5 (by omega) (by omega) J reB_11 (KK _ hB (G.rb nb z z))
    · refine hr_reB J.1 J.2.1 z z ?_
      refine hr_L (L' := lw_L (reB B nb z z) b t) (hw_s1 rfl (hw_s1 rfl (hw_s1 rfl (hw_s1 rfl (hw_s1 rfl hw_s0))))) ?_
      exact bo_proxy (G.rb nb z z) hE hB h5 (by omega) (by omega) J reB_11 (KK _ hB (G.rb nb z z))
    · refine hr_reB J.1 J.2.1 z z ?_
      refine hr_L (L' := lw_L (reB B nb z z) b t) (hw_s1 rfl (hw_s1 rfl (hw_s1 rfl (hw_s1 rfl (hw_s1 rfl hw_s0))))) ?_
      exact bo_validate (G.rb nb z z) hE hB h5 (by omega) (by omega) J reB_11 (KK _ hB (G.rb nb z z))
    · refine hr_reB J.1 J.2.1 z z ?_
      refine hr_L (L' := lw_L (reB B nb z z) b t) (hw_s1 rfl (hw_s1 rfl (hw_s1 rfl (hw_s1 rfl (hw_s1 rfl hw_s0))))) ?_
      exact bo_logout (G.rb nb z z) hE hB h5 (by omega) (by omega) J (KK _ hB (G.rb nb z z))
    · refine hr_reB J.1 J.2.1 z z ?_
      refine hr_L (L' := lw_L (reB B nb z z) b t) (hw_s1 rfl (hw_s1 rfl (hw_s1 rfl (hw_s1 rfl (hw_s1 rfl hw_s0))))) ?_
      exact bo_tick (G.rb nb z z) hE hB h5 (by omega) (by omega) J (by omega) (KK _ hB (G.rb nb z z))
    · refine hr_reB J.1 J.2.1 z z ?_
      refine hr_L (L' := lw_L (reB B nb z z) b t) (hw_s1 rfl (hw_s1 rfl (hw_s1 rfl (hw_s1 rfl (hw_s1 rfl hw_s0))))) ?_
      exact bo_document (G.rb nb z z) hE hB h5 (by omega) (by omega) J (KK _ hB (G.rb nb z z))
    · refine hr_reB J.1 J.2.1 z z ?_
      refine hr_L (L' := lw_L (reB B nb z z) b t) (hw_s1 rfl (hw_s1 rfl (hw_s1 rfl (hw_s1 rfl (hw_s1 rfl hw_s0))))) ?_
      exact bo_session (G.rb nb z z) hE hB h5 (by omega) (by omega) J (KK _ hB (G.rb nb z z))
    · refine hr_reB J.1 J.2.1 z z ?_
      refine hr_L (L' := lw_L (reB B nb z z) b t) (hw_s1 rfl (hw_s1 rfl (hw_s1 rfl (hw_s1 rfl (hw_s1 rfl hw_s0))))) ?_
      exact bo_about (G.rb nb z z) hE hB h5 (by omega) (by omega) J (KK _ hB (G.rb nb z z))
    · refine hr_reB J.1 J.2.1 z z ?_
      refine hr_L (L' := lw_L (reB B nb z z) b t) (hw_s1 rfl (hw_s1 rfl (hw_s1 rfl (hw_s1 rfl (hw_s1 rfl hw_s0))))) ?_
      exact bo_message (G.rb nb z z) hE hB h5 (by omega) (by omega) J (KK _ hB (G.rb nb z z))
    · refine hr_reB J.1 J.2.1 z z ?_
      refine hr_L (L' := lw_L (reB B nb z z) b t) (hw_s1 rfl (hw_s1 rfl (hw_s1 rfl (hw_s1 rfl (hw_s1 rfl hw_s0))))) ?_
      exact bo_house (G.rb nb z z) hE hB h5 (by omega) (by omega) J (KK _ hB (G.rb nb z z))
