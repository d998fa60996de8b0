/-! The page. -/
theorem hr_callHt {X : hw_X} {B : hw_B} {fr : Nat → Prop} {nb : Nat → Nat} {S : hw_St} {z c sl t : Nat} {Q : State → Prop} {cc : ByteArray} {nL pc : Nat} {own : String} {L : List (Nat × Value)} {st : List Value} (G : hw_G X B fr cc nL own) {index maxL n : Nat} {y : MethodName} {bytes : ByteArray} {rm : Room} {As st0 : List Value} (hy : y.cls = "TicketHouse") (hi : 0 < nb 0) (cw : hw_C own index y bytes maxL none n) (w1 : Cond.instanceMethod y ∈ hw_TS) (w2 : Cond.selects y.cls y y ∈ hw_TS) (hM : hw_M X.2.1 y bytes maxL none rm B (.ref (hw_a B 0 0) :: As) nb S z (hw_pt t nb S z)) (hn : As.length = n) (hst : st0 = As.reverse ++ .ref (hw_a B 0 0) :: st) (hW : (st.map fun v => v.category).sum ≤ 8) (hR : rm.frames + 1 ≤ (xR X).frames ∧ 8 + (maxL + 11) + rm.locals ≤ (xR X).locals) (hcs : c + rm.cells ≤ (xR X).cells ∧ sl + rm.slots ≤ (xR X).slots) (d : decode cc pc = .ok (.invokevirtual index, 3))
    (K : ∀ S' : hw_St, tx_r t S S' → hw_V X B fr nb S' z (c + rm.cells) (sl + rm.slots) Q nL (pc + 3) L st) : hw_V X B fr nb S z c sl Q nL pc L st0 :=
  hr_callV (k := 0) (i := 0) (ci := 0) (T := FH) (N := 12) G rfl (by rw [hy]; rfl) hi cw w1 w2 hM hn hst hW hR hcs d (fun r nb' S' z' hp => by
    obtain ⟨h1, rfl, h3, rfl⟩ := hp
    have h2 := Sum.inl.inj h1
    subst h2
    exact K S' h3)
set_option maxRecDepth 100000 in
set_option maxHeartbeats 1000000 in
theorem m_H_refuse (l : Launch) (B : hw_B) (nb : Nat → Nat) (S : hw_St) (z : Nat) (x t : Int32) (hI : ic nb S) : hw_M l yH_refuse cH_refuse 3 (some .int) ({ frames := 5, cells := 0, slots := 0, locals := 107 }) B [.ref (hw_a B 0 0), .int x, .int t] nb S z (fun oc nb' S' z' => oc = .inl (some (.int x)) ∧ nb' = nb ∧ tx_r 17 S S' ∧ z' = z) := by
  refine hw_M.of (by decide) (Nat.le_of_ble_eq_true rfl) ?_
  intro X fr hl hR G hr hnm
  obtain ⟨hA, hF, ⟨hn9, hc9⟩, ⟨hn11, hc11⟩, ⟨nm, hnm1, hnm2⟩, hT, hSe, hTi, hU, hW0, hW⟩ := hI
  have ho : tx_ok S 17 := hT 17 (by decide)
  refine hr_aload_n G dH_refuse_0 rfl rfl ?_
  refine hr_get (v := .ref (hw_a B 4 17)) G fH_47 (hA.lt (show 0 < hw_n0 0 by decide)) (hw_rfx hF (by decide) rfl (by decide)) dH_refuse_1 ?_
  refine hr_callVt (t := 17) G rfl (hA.lt (show 17 < 18 by decide)) kH_85 iT_clear vT_clear (m_T_clearw _ _ _ _ _ 17 hA hF (show 17 < 18 by decide) ho ) rfl rfl (Nat.le_of_ble_eq_true rfl) ⟨by rw [hR]; decide, by rw [hR]; decide⟩ ⟨by rw [hR]; decide, by rw [hR]; decide⟩ dH_refuse_4 (fun S4 q4 => ?_)
  have hF4 := q4.fx hF
  refine hr_aload_n G dH_refuse_7 rfl rfl ?_
  refine hr_get (v := .ref (hw_a B 4 17)) G fH_47 (hA.lt (show 0 < hw_n0 0 by decide)) (hw_rfx hF4 (by decide) rfl (by decide)) dH_refuse_8 ?_
  refine hr_ldcSW (si := 14) G rfl dH_refuse_11 ?_
  refine hr_callVt (t := 17) G rfl (hA.lt (show 17 < 18 by decide)) kH_263 iT_addAll vT_addAll (m_T_addAll _ _ _ _ _ 17 hA hF4 (show 17 < 18 by decide) q4.2 14 _ rfl) rfl rfl (Nat.le_of_ble_eq_true rfl) ⟨by rw [hR]; decide, by rw [hR]; decide⟩ ⟨by rw [hR]; decide, by rw [hR]; decide⟩ dH_refuse_14 (fun S14 q14 => ?_)
  have hF14 := q14.fx hF4
  refine hr_aload_n G dH_refuse_17 rfl rfl ?_
  refine hr_get (v := .ref (hw_a B 4 17)) G fH_47 (hA.lt (show 0 < hw_n0 0 by decide)) (hw_rfx hF14 (by decide) rfl (by decide)) dH_refuse_18 ?_
  refine hr_iload_n G dH_refuse_21 rfl rfl ?_
  refine hr_callVt (t := 17) G rfl (hA.lt (show 17 < 18 by decide)) kH_266 iT_addNumber vT_addNumber (m_T_addNumber _ _ _ _ _ 17 hA hF14 (show 17 < 18 by decide) q14.2 x) rfl rfl (Nat.le_of_ble_eq_true rfl) ⟨by rw [hR]; decide, by rw [hR]; decide⟩ ⟨by rw [hR]; decide, by rw [hR]; decide⟩ dH_refuse_22 (fun S22 q22 => ?_)
  have hF22 := q22.fx hF14
  refine hr_aload_n G dH_refuse_25 rfl rfl ?_
  refine hr_get (v := .ref (hw_a B 4 17)) G fH_47 (hA.lt (show 0 < hw_n0 0 by decide)) (hw_rfx hF22 (by decide) rfl (by decide)) dH_refuse_26 ?_
  refine hr_ldcSW (si := 15) G rfl dH_refuse_29 ?_
  refine hr_callVt (t := 17) G rfl (hA.lt (show 17 < 18 by decide)) kH_263 iT_addAll vT_addAll (m_T_addAll _ _ _ _ _ 17 hA hF22 (show 17 < 18 by decide) q22.2 15 _ rfl) rfl rfl (Nat.le_of_ble_eq_true rfl) ⟨by rw [hR]; decide, by rw [hR]; decide⟩ ⟨by rw [hR]; decide, by rw [hR]; decide⟩ dH_refuse_32 (fun S32 q32 => ?_)
  have hF32 := q32.fx hF22
  refine hr_aload_n G dH_refuse_35 rfl rfl ?_
  refine hr_get (v := .ref (hw_a B 4 17)) G fH_47 (hA.lt (show 0 < hw_n0 0 by decide)) (hw_rfx hF32 (by decide) rfl (by decide)) dH_refuse_36 ?_
  refine hr_iload_n G dH_refuse_39 rfl rfl ?_
  refine hr_callVt (t := 17) G rfl (hA.lt (show 17 < 18 by decide)) kH_266 iT_addNumber vT_addNumber (m_T_addNumber _ _ _ _ _ 17 hA hF32 (show 17 < 18 by decide) q32.2 t) rfl rfl (Nat.le_of_ble_eq_true rfl) ⟨by rw [hR]; decide, by rw [hR]; decide⟩ ⟨by rw [hR]; decide, by rw [hR]; decide⟩ dH_refuse_40 (fun S40 q40 => ?_)
  have hF40 := q40.fx hF32
  refine hr_aload_n G dH_refuse_43 rfl rfl ?_
  refine hr_get (v := .ref (hw_a B 4 17)) G fH_47 (hA.lt (show 0 < hw_n0 0 by decide)) (hw_rfx hF40 (by decide) rfl (by decide)) dH_refuse_44 ?_
  refine hr_ldcSW (si := 16) G rfl dH_refuse_47 ?_
  refine hr_callVt (t := 17) G rfl (hA.lt (show 17 < 18 by decide)) kH_263 iT_addAll vT_addAll (m_T_addAll _ _ _ _ _ 17 hA hF40 (show 17 < 18 by decide) q40.2 16 _ rfl) rfl rfl (Nat.le_of_ble_eq_true rfl) ⟨by rw [hR]; decide, by rw [hR]; decide⟩ ⟨by rw [hR]; decide, by rw [hR]; decide⟩ dH_refuse_50 (fun S50 q50 => ?_)
  have hF50 := q50.fx hF40
  refine hr_iload_n G dH_refuse_53 rfl rfl ?_
  exact hr_iret G hr (fun _ h => h) dH_refuse_54 ⟨rfl, rfl, (((((q4.tr q14).tr q22).tr q32).tr q40).tr q50), rfl⟩
set_option maxRecDepth 100000 in
set_option maxHeartbeats 1000000 in
theorem m_H_writeAttributes (l : Launch) (B : hw_B) (nb : Nat → Nat) (S : hw_St) (z : Nat) (u w : Nat) (hI : ic nb S) (hu : u < 4) (hw : w < 6) : hw_M l yH_writeAttributes cH_writeAttributes 5 none ({ frames := 7, cells := 0, slots := 0, locals := 150 }) B [.ref (hw_a B 0 0), .ref (hw_a B 2 u), .int (nI w)] nb S z (hw_pt 17 nb S z) := by
  refine hw_M.of (by decide) (Nat.le_of_ble_eq_true rfl) ?_
  intro X fr hl hR G hr hnm
  obtain ⟨hA, hF, ⟨hn9, hc9⟩, ⟨hn11, hc11⟩, ⟨nm, hnm1, hnm2⟩, hT, hSe, hTi, hU, hW0, hW⟩ := hI
  have ho : tx_ok S 17 := hT 17 (by decide)
  refine hr_iconst (v := 0) G dH_writeAttributes_0 (by decide) ?_
  refine hr_istore_n (i := 3) G dH_writeAttributes_1 rfl (by decide) ?_
  refine hr_L (L' := [(0, .ref (hw_a B 0 0)), (1, .ref (hw_a B 2 u)), (2, .int (nI w)), (3, .int (nI 0))]) (hw_s1 rfl (hw_s1 rfl (hw_s1 rfl (hw_s1 rfl (hw_s0))))) ?_
  suffices H : ∀ (m i : Nat) (S1 : hw_St), tx_r 17 S S1 → 3 - i = m → i ≤ 3 → hw_V X B fr nb S1 z 0 0 (hw_MQ X B fr (hw_pt 17 nb S z) 0 0) 5 2 [(0, .ref (hw_a B 0 0)), (1, .ref (hw_a B 2 u)), (2, .int (nI w)), (3, .int (nI i))] [] from H _ 0 S (tx_r.rf ho) rfl (Nat.zero_le _)
  intro m
  induction m with
  | zero =>
    intro i S1 h1 hm hle
    obtain rfl : i = 3 := by omega
    have hF1 := h1.fx hF
    refine hr_iload_n G dH_writeAttributes_2 rfl rfl ?_
    refine hr_iconst (v := 3) G dH_writeAttributes_3 (by decide) ?_
    refine hr_icmp_ge (tgt := 104) G dH_writeAttributes_4 (by decide) (fun _ => ?_) (fun h => absurd (show (3 : Int32) ≤ nI 3 by decide) h)
    exact hr_vret G hr (fun _ h => h) dH_writeAttributes_104 ⟨rfl, rfl, h1, rfl⟩
  | succ m ih =>
    intro i S1 h1 hm hle
    have hF1 := h1.fx hF
    refine hr_iload_n G dH_writeAttributes_2 rfl rfl ?_
    refine hr_iconst (v := 3) G dH_writeAttributes_3 (by decide) ?_
    refine hr_icmp_ge (tgt := 104) G dH_writeAttributes_4 (by decide) (fun h => absurd h (show ¬ (3 : Int32) ≤ nI i from nI_ge (b := 3) (by omega) (by decide))) (fun _ => ?_)
    refine hr_aload_n G dH_writeAttributes_7 rfl rfl ?_
    refine hr_get (v := .ref (hw_a B 3 u)) G fH_77 (hA.lt hu) (hw_rfx hF1 hu rfl (by omega)) dH_writeAttributes_8 ?_
    refine hr_iload_n G dH_writeAttributes_11 rfl rfl ?_
    refine hr_aald (n := i) (v := .ref (hw_a B 4 (4 * u + i))) G rfl (by decide) rfl (hA.lt hu) rfl (show i < 4 by omega) (hw_rfx hF1 hu rfl (by omega)) dH_writeAttributes_12 ?_
    refine hr_astore (i := 4) G dH_writeAttributes_13 (by decide) ?_
    refine hr_aload_n G dH_writeAttributes_15 rfl rfl ?_
    refine hr_iload_n G dH_writeAttributes_16 rfl rfl ?_
    refine hr_bipush (v := 8) G dH_writeAttributes_17 (by decide) ?_
    refine hr_iload_n G dH_writeAttributes_19 rfl rfl ?_
    refine hr_ishl G dH_writeAttributes_20 ?_
    refine hr_callVs (k := 0) (i := 0) G rfl rfl (hA.lt (show 0 < hw_n0 0 by decide)) kH_247 iH_hasFlag vH_hasFlag (m_H_hasFlag_y _ _ _ _ _ hA hF1 w (8 <<< ((nI i) &&& 31)) hw) rfl rfl (Nat.le_of_ble_eq_true rfl) ⟨by rw [hR]; decide, by rw [hR]; decide⟩ ⟨by rw [hR]; decide, by rw [hR]; decide⟩ dH_writeAttributes_21 ?_
    refine hr_if_eq (tgt := 98) G dH_writeAttributes_24 (by decide) (fun h24 => ?_) (fun h24 => ?_)
    · skip
      refine hr_iinc (v := nI (i + 1)) G dH_writeAttributes_98 rfl (nI_succ i).symm (by decide) ?_
      refine hr_goto (tgt := 2) G dH_writeAttributes_101 (by decide) ?_
      refine hr_L (L' := [(0, .ref (hw_a B 0 0)), (1, .ref (hw_a B 2 u)), (2, .int (nI w)), (3, .int (nI (i + 1)))]) (hw_s1 rfl (hw_s1 rfl (hw_s1 rfl (hw_s1 rfl (hw_s0))))) ?_
      exact ih (i + 1) _ h1 (by omega) (by omega)
    · skip
      refine hr_aload G dH_writeAttributes_27 rfl ?_
      refine hr_get (v := .int (S1 4 (4 * u + i) 1)) G fH_58 (hA.lt (show 4 * u + i < 18 by omega)) rfl dH_writeAttributes_29 ?_
      refine hr_if_le (tgt := 98) G dH_writeAttributes_32 (by decide) (fun h32 => ?_) (fun h32 => ?_)
      · skip
        refine hr_iinc (v := nI (i + 1)) G dH_writeAttributes_98 rfl (nI_succ i).symm (by decide) ?_
        refine hr_goto (tgt := 2) G dH_writeAttributes_101 (by decide) ?_
        refine hr_L (L' := [(0, .ref (hw_a B 0 0)), (1, .ref (hw_a B 2 u)), (2, .int (nI w)), (3, .int (nI (i + 1)))]) (hw_s1 rfl (hw_s1 rfl (hw_s1 rfl (hw_s1 rfl (hw_s0))))) ?_
        exact ih (i + 1) _ h1 (by omega) (by omega)
      · skip
        refine hr_aload_n G dH_writeAttributes_35 rfl rfl ?_
        refine hr_get (v := .ref (hw_a B 4 17)) G fH_47 (hA.lt (show 0 < hw_n0 0 by decide)) (hw_rfx hF1 (by decide) rfl (by decide)) dH_writeAttributes_36 ?_
        refine hr_ldcSW (si := 22) G rfl dH_writeAttributes_39 ?_
        refine hr_callVt (t := 17) G rfl (hA.lt (show 17 < 18 by decide)) kH_263 iT_addAll vT_addAll (m_T_addAll _ _ _ _ _ 17 hA hF1 (show 17 < 18 by decide) h1.2 22 _ rfl) rfl rfl (Nat.le_of_ble_eq_true rfl) ⟨by rw [hR]; decide, by rw [hR]; decide⟩ ⟨by rw [hR]; decide, by rw [hR]; decide⟩ dH_writeAttributes_42 (fun S42 q42 => ?_)
        have hF42 := q42.fx hF1
        refine hr_aload_n G dH_writeAttributes_45 rfl rfl ?_
        refine hr_get (v := .ref (hw_a B 4 17)) G fH_47 (hA.lt (show 0 < hw_n0 0 by decide)) (hw_rfx hF42 (by decide) rfl (by decide)) dH_writeAttributes_46 ?_
        refine hr_iload_n G dH_writeAttributes_49 rfl rfl ?_
        refine hr_callVt (t := 17) G rfl (hA.lt (show 17 < 18 by decide)) kH_266 iT_addNumber vT_addNumber (m_T_addNumber _ _ _ _ _ 17 hA hF42 (show 17 < 18 by decide) q42.2 (nI i)) rfl rfl (Nat.le_of_ble_eq_true rfl) ⟨by rw [hR]; decide, by rw [hR]; decide⟩ ⟨by rw [hR]; decide, by rw [hR]; decide⟩ dH_writeAttributes_50 (fun S50 q50 => ?_)
        have hF50 := q50.fx hF42
        refine hr_aload_n G dH_writeAttributes_53 rfl rfl ?_
        refine hr_get (v := .ref (hw_a B 4 17)) G fH_47 (hA.lt (show 0 < hw_n0 0 by decide)) (hw_rfx hF50 (by decide) rfl (by decide)) dH_writeAttributes_54 ?_
        refine hr_bipush (v := 62) G dH_writeAttributes_57 (by decide) ?_
        refine hr_callVt (t := 17) G rfl (hA.lt (show 17 < 18 by decide)) kH_67 iT_add vT_add (m_T_addw _ _ _ _ _ 17 hA hF50 (show 17 < 18 by decide) 62 (show ib_c 62 from rfl) q50.2) rfl rfl (Nat.le_of_ble_eq_true rfl) ⟨by rw [hR]; decide, by rw [hR]; decide⟩ ⟨by rw [hR]; decide, by rw [hR]; decide⟩ dH_writeAttributes_59 (fun S59 q59 => ?_)
        have hF59 := q59.fx hF50
        refine hr_aload_n G dH_writeAttributes_62 rfl rfl ?_
        refine hr_get (v := .ref (hw_a B 4 17)) G fH_47 (hA.lt (show 0 < hw_n0 0 by decide)) (hw_rfx hF59 (by decide) rfl (by decide)) dH_writeAttributes_63 ?_
        refine hr_aload G dH_writeAttributes_66 rfl ?_
        obtain ⟨⟨n68, hl68, hn68⟩, hc68⟩ := (((h1.tr q42).tr q50).tr q59).ot (u := (4 * u + i)) (by omega) (hT _ (by omega))
        refine hr_callVt (t := 17) G rfl (hA.lt (show 17 < 18 by decide)) kH_275 iT_addEscapedT vT_addEscapedT (m_T_addEscapedT _ _ _ _ _ 17 hA hF59 (show 17 < 18 by decide) q59.2 (4 * u + i) n68 (by omega) (by omega) hn68 hl68 hc68) rfl rfl (Nat.le_of_ble_eq_true rfl) ⟨by rw [hR]; decide, by rw [hR]; decide⟩ ⟨by rw [hR]; decide, by rw [hR]; decide⟩ dH_writeAttributes_68 (fun S68 q68 => ?_)
        have hF68 := q68.fx hF59
        refine hr_aload_n G dH_writeAttributes_71 rfl rfl ?_
        refine hr_get (v := .ref (hw_a B 4 17)) G fH_47 (hA.lt (show 0 < hw_n0 0 by decide)) (hw_rfx hF68 (by decide) rfl (by decide)) dH_writeAttributes_72 ?_
        refine hr_ldcSW (si := 23) G rfl dH_writeAttributes_75 ?_
        refine hr_callVt (t := 17) G rfl (hA.lt (show 17 < 18 by decide)) kH_263 iT_addAll vT_addAll (m_T_addAll _ _ _ _ _ 17 hA hF68 (show 17 < 18 by decide) q68.2 23 _ rfl) rfl rfl (Nat.le_of_ble_eq_true rfl) ⟨by rw [hR]; decide, by rw [hR]; decide⟩ ⟨by rw [hR]; decide, by rw [hR]; decide⟩ dH_writeAttributes_78 (fun S78 q78 => ?_)
        have hF78 := q78.fx hF68
        refine hr_aload_n G dH_writeAttributes_81 rfl rfl ?_
        refine hr_get (v := .ref (hw_a B 4 17)) G fH_47 (hA.lt (show 0 < hw_n0 0 by decide)) (hw_rfx hF78 (by decide) rfl (by decide)) dH_writeAttributes_82 ?_
        refine hr_iload_n G dH_writeAttributes_85 rfl rfl ?_
        refine hr_callVt (t := 17) G rfl (hA.lt (show 17 < 18 by decide)) kH_266 iT_addNumber vT_addNumber (m_T_addNumber _ _ _ _ _ 17 hA hF78 (show 17 < 18 by decide) q78.2 (nI i)) rfl rfl (Nat.le_of_ble_eq_true rfl) ⟨by rw [hR]; decide, by rw [hR]; decide⟩ ⟨by rw [hR]; decide, by rw [hR]; decide⟩ dH_writeAttributes_86 (fun S86 q86 => ?_)
        have hF86 := q86.fx hF78
        refine hr_aload_n G dH_writeAttributes_89 rfl rfl ?_
        refine hr_get (v := .ref (hw_a B 4 17)) G fH_47 (hA.lt (show 0 < hw_n0 0 by decide)) (hw_rfx hF86 (by decide) rfl (by decide)) dH_writeAttributes_90 ?_
        refine hr_bipush (v := 62) G dH_writeAttributes_93 (by decide) ?_
        refine hr_callVt (t := 17) G rfl (hA.lt (show 17 < 18 by decide)) kH_67 iT_add vT_add (m_T_addw _ _ _ _ _ 17 hA hF86 (show 17 < 18 by decide) 62 (show ib_c 62 from rfl) q86.2) rfl rfl (Nat.le_of_ble_eq_true rfl) ⟨by rw [hR]; decide, by rw [hR]; decide⟩ ⟨by rw [hR]; decide, by rw [hR]; decide⟩ dH_writeAttributes_95 (fun S95 q95 => ?_)
        have hF95 := q95.fx hF86
        refine hr_iinc (v := nI (i + 1)) G dH_writeAttributes_98 rfl (nI_succ i).symm (by decide) ?_
        refine hr_goto (tgt := 2) G dH_writeAttributes_101 (by decide) ?_
        refine hr_L (L' := [(0, .ref (hw_a B 0 0)), (1, .ref (hw_a B 2 u)), (2, .int (nI w)), (3, .int (nI (i + 1)))]) (hw_s1 rfl (hw_s1 rfl (hw_s1 rfl (hw_s1 rfl (hw_s0))))) ?_
        exact ih (i + 1) _ (((((((h1.tr q42).tr q50).tr q59).tr q68).tr q78).tr q86).tr q95) (by omega) (by omega)
set_option maxRecDepth 100000 in
set_option maxHeartbeats 1000000 in
theorem m_H_writeChain (l : Launch) (B : hw_B) (nb : Nat → Nat) (S : hw_St) (z : Nat) (i : Nat) (hI : ic nb S) (hi : i < nb 11) : hw_M l yH_writeChain cH_writeChain 3 none ({ frames := 6, cells := 0, slots := 0, locals := 129 }) B [.ref (hw_a B 0 0), .ref (hw_a B 11 i)] nb S z (hw_pt 17 nb S z) := by
  refine hw_M.of (by decide) (Nat.le_of_ble_eq_true rfl) ?_
  intro X fr hl hR G hr hnm
  obtain ⟨hA, hF, ⟨hn9, hc9⟩, ⟨hn11, hc11⟩, ⟨nm, hnm1, hnm2⟩, hT, hSe, hTi, hU, hW0, hW⟩ := hI
  have ho : tx_ok S 17 := hT 17 (by decide)
  refine hr_aload_n G dH_writeChain_0 rfl rfl ?_
  refine hr_astore_n (i := 2) G dH_writeChain_1 rfl (by decide) ?_
  refine hr_L (L' := [(0, .ref (hw_a B 0 0)), (2, .ref (hw_a B 11 i))]) (hw_s1 rfl (hw_s1 rfl (hw_s0))) ?_
  suffices H : ∀ (m i : Nat) (S1 : hw_St), tx_r 17 S S1 → i ≤ m → i < nb 11 → hw_V X B fr nb S1 z 0 0 (hw_MQ X B fr (hw_pt 17 nb S z) 0 0) 3 2 [(0, .ref (hw_a B 0 0)), (2, .ref (hw_a B 11 i))] [] from H i i S (tx_r.rf ho) (Nat.le_refl _) hi
  clear hi i
  intro m
  induction m using Nat.strongRecOn with
  | ind m ih =>
    intro i S1 h1 hm hi
    have hF1 := h1.fx hF
    obtain ⟨ht1, ht2, ht3, ht4, ht5, ht6, ht7, ht8⟩ := hTi i hi
    have K27 : ∀ S2, tx_r 17 S S2 → hw_V X B fr nb S2 z 0 0 (hw_MQ X B fr (hw_pt 17 nb S z) 0 0) 3 27 [(0, .ref (hw_a B 0 0)), (2, .ref (hw_a B 11 i))] [] := by
      intro S2 h2
      have hF2 := h2.fx hF
      rcases ht4 with hp | ⟨p, hp1, hp2⟩
      · skip
        refine hr_aload_n G dH_writeChain_27 rfl rfl ?_
        refine hr_get (v := .null) G fH_232 hi (hw_rdz (show S2 11 i 5 < 0 by rw [h2.1 11 i 5 (by omega) (by omega), hp]; decide)) dH_writeChain_28 ?_
        refine hr_astore_nN (i := 2) G dH_writeChain_31 rfl (by decide) ?_
        refine hr_goto (tgt := 2) G dH_writeChain_32 (by decide) ?_
        refine hr_aload_nN G dH_writeChain_2 rfl rfl ?_
        refine hr_ifnullN (tgt := 35) G dH_writeChain_3 (by decide) ?_
        exact hr_vret G hr (fun _ h => h) dH_writeChain_35 ⟨rfl, rfl, h2, rfl⟩
      · skip
        refine hr_aload_n G dH_writeChain_27 rfl rfl ?_
        refine hr_get (v := .ref (hw_a B 11 p)) G fH_232 hi (hw_rdy ((h2.1 11 i 5 (by omega) (by omega)).trans hp2) (by omega)) dH_writeChain_28 ?_
        refine hr_astore_n (i := 2) G dH_writeChain_31 rfl (by decide) ?_
        refine hr_goto (tgt := 2) G dH_writeChain_32 (by decide) ?_
        refine hr_L (L' := [(0, .ref (hw_a B 0 0)), (2, .ref (hw_a B 11 p))]) (hw_s1 rfl (hw_s1 rfl (hw_s0))) ?_
        exact ih p (by omega) p S2 h2 (Nat.le_refl _) (by omega)
    refine hr_aload_n G dH_writeChain_2 rfl rfl ?_
    refine hr_ifnull G dH_writeChain_3 ?_
    refine hr_aload_n G dH_writeChain_6 rfl rfl ?_
    refine hr_get (v := .int (S1 11 i 1)) G fH_157 hi rfl dH_writeChain_7 ?_
    refine hr_iconst (v := 2) G dH_writeChain_10 (by decide) ?_
    refine hr_icmp_ne (tgt := 27) G dH_writeChain_11 (by decide) (fun h11 => ?_) (fun h11 => ?_)
    · skip
      refine hr_L (L' := [(0, .ref (hw_a B 0 0)), (2, .ref (hw_a B 11 i))]) (hw_s1 rfl (hw_s1 rfl (hw_s0))) ?_
      exact K27 _ h1
    · skip
      refine hr_aload_n G dH_writeChain_14 rfl rfl ?_
      refine hr_get (v := .ref (hw_a B 4 17)) G fH_47 (hA.lt (show 0 < hw_n0 0 by decide)) (hw_rfx hF1 (by decide) rfl (by decide)) dH_writeChain_15 ?_
      refine hr_bipush (v := 112) G dH_writeChain_18 (by decide) ?_
      refine hr_aload_n G dH_writeChain_20 rfl rfl ?_
      refine hr_get (v := .int (S1 11 i 3)) G fH_226 hi rfl dH_writeChain_21 ?_
      refine hr_callVt (t := 17) G rfl (hA.lt (show 17 < 18 by decide)) kH_282 iT_addElement vT_addElement (m_T_addElement _ _ _ _ _ 17 hA hF1 (show 17 < 18 by decide) h1.2 112 (S1 11 i 3) (show ib_c 112 from rfl)) rfl rfl (Nat.le_of_ble_eq_true rfl) ⟨by rw [hR]; decide, by rw [hR]; decide⟩ ⟨by rw [hR]; decide, by rw [hR]; decide⟩ dH_writeChain_24 (fun S24 q24 => ?_)
      have hF24 := q24.fx hF1
      refine hr_L (L' := [(0, .ref (hw_a B 0 0)), (2, .ref (hw_a B 11 i))]) (hw_s1 rfl (hw_s1 rfl (hw_s0))) ?_
      exact K27 _ (h1.tr q24)
theorem ic_tx {nb : Nat → Nat} {S S' : hw_St} (hI : ic nb S) (h : tx_r 17 S S') : ic nb S' := by
  obtain ⟨hA, hF, ⟨hn9, hc9⟩, ⟨hn11, hc11⟩, ⟨nm, hnm1, hnm2⟩, hT, hSe, hTi, hU, hW0, hW⟩ := hI
  have e : ∀ k i j, k ≠ 4 → k ≠ 5 → S' k i j = S k i j := fun k i j a b => h.1 k i j (fun q => b q.1) (fun q => a q.1)
  refine ⟨hA, h.fx hF, ⟨hn9, ?_⟩, ⟨hn11, ?_⟩, ⟨nm, hnm1, ?_⟩, fun t ht => ?_, fun i hi => ?_, fun i hi => ?_, fun u hu => ?_, ?_, fun k hk => ?_⟩
  · rw [e _ _ _ (by decide) (by decide)]; exact hc9
  · rw [e _ _ _ (by decide) (by decide)]; exact hc11
  · rw [e _ _ _ (by decide) (by decide)]; exact hnm2
  · by_cases q : t = 17
    · subst q; exact h.2
    · exact h.ot q (hT t ht)
  · have := hSe i hi
    unfold se_ok at this ⊢
    rw [e 8 0 i (by decide) (by decide), e 9 i 0 (by decide) (by decide), e 9 i 1 (by decide) (by decide), e 9 i 3 (by decide) (by decide), e 9 i 5 (by decide) (by decide)]
    exact this
  · have := hTi i hi
    unfold ti_ok at this ⊢
    rw [e 10 0 i (by decide) (by decide), e 11 i 0 (by decide) (by decide), e 11 i 1 (by decide) (by decide), e 11 i 2 (by decide) (by decide), e 11 i 3 (by decide) (by decide), e 11 i 5 (by decide) (by decide), e 11 i 7 (by decide) (by decide), e 11 i 8 (by decide) (by decide)]
    exact this
  · have := hU u hu
    unfold us_ok at this ⊢
    rw [e 2 u 2 (by decide) (by decide), e 2 u 4 (by decide) (by decide)]
    exact this
  · rw [e 7 0 0 (by decide) (by decide)]; exact hW0
  · rw [e 7 0 k (by decide) (by decide)]; exact hW k hk
set_option maxRecDepth 100000 in
set_option maxHeartbeats 1000000 in
theorem m_H_writeAcceptance_n (l : Launch) (B : hw_B) (nb : Nat → Nat) (S : hw_St) (z : Nat) (i s u w : Nat) (b : Int32) (hI : ic nb S) (hi : i < nb 11) (hs : s < nb 9) (hts : S 11 i 2 = nI s) (hu : u < 4) (hus : S 9 s 1 = nI u) (hw : w < 6) (htw : S 11 i 3 = nI w) : hw_M l yH_writeAcceptance cH_writeAcceptance 5 none ({ frames := 8, cells := 0, slots := 0, locals := 174 }) B [.ref (hw_a B 0 0), .ref (hw_a B 11 i), .int b, .null] nb S z (hw_pt 17 nb S z) := by
  refine hw_M.of (by decide) (Nat.le_of_ble_eq_true rfl) ?_
  intro X fr hl hR G hr hnm
  have hI0 := hI
  obtain ⟨hA, hF, ⟨hn9, hc9⟩, ⟨hn11, hc11⟩, ⟨nm, hnm1, hnm2⟩, hT, hSe, hTi, hU, hW0, hW⟩ := hI
  have ho : tx_ok S 17 := hT 17 (by decide)
  have K132 : ∀ S1, tx_r 17 S S1 → hw_V X B fr nb S1 z 0 0 (hw_MQ X B fr (hw_pt 17 nb S z) 0 0) 5 132 [(0, .ref (hw_a B 0 0)), (1, .ref (hw_a B 11 i)), (3, .null), (4, .ref (hw_a B 9 s))] [] := by
    intro S1 h1
    have hF1 := h1.fx hF
    refine hr_aload_n G dH_writeAcceptance_132 rfl rfl ?_
    refine hr_aload_n G dH_writeAcceptance_133 rfl rfl ?_
    refine hr_callHt (t := 17) G rfl (hA.lt (show 0 < hw_n0 0 by decide)) kH_286 iH_writeChain vH_writeChain (m_H_writeChain _ _ _ _ _ i (ic_tx hI0 h1) hi) rfl rfl (Nat.le_of_ble_eq_true rfl) ⟨by rw [hR]; decide, by rw [hR]; decide⟩ ⟨by rw [hR]; decide, by rw [hR]; decide⟩ dH_writeAcceptance_134 (fun S134 q134 => ?_)
    have hF134 := q134.fx hF1
    refine hr_aload_n G dH_writeAcceptance_137 rfl rfl ?_
    refine hr_get (v := .ref (hw_a B 4 17)) G fH_47 (hA.lt (show 0 < hw_n0 0 by decide)) (hw_rfx hF134 (by decide) rfl (by decide)) dH_writeAcceptance_138 ?_
    refine hr_ldcSW (si := 25) G rfl dH_writeAcceptance_141 ?_
    refine hr_callVt (t := 17) G rfl (hA.lt (show 17 < 18 by decide)) kH_263 iT_addAll vT_addAll (m_T_addAll _ _ _ _ _ 17 hA hF134 (show 17 < 18 by decide) q134.2 25 _ rfl) rfl rfl (Nat.le_of_ble_eq_true rfl) ⟨by rw [hR]; decide, by rw [hR]; decide⟩ ⟨by rw [hR]; decide, by rw [hR]; decide⟩ dH_writeAcceptance_144 (fun S144 q144 => ?_)
    have hF144 := q144.fx hF134
    exact hr_vret G hr (fun _ h => h) dH_writeAcceptance_147 ⟨rfl, rfl, ((h1.tr q134).tr q144), rfl⟩
  have K99 : ∀ S1, tx_r 17 S S1 → hw_V X B fr nb S1 z 0 0 (hw_MQ X B fr (hw_pt 17 nb S z) 0 0) 5 99 [(0, .ref (hw_a B 0 0)), (1, .ref (hw_a B 11 i)), (3, .null), (4, .ref (hw_a B 9 s))] [] := by
    intro S1 h1
    have hF1 := h1.fx hF
    refine hr_aload_n G dH_writeAcceptance_99 rfl rfl ?_
    refine hr_get (v := .ref (hw_a B 4 17)) G fH_47 (hA.lt (show 0 < hw_n0 0 by decide)) (hw_rfx hF1 (by decide) rfl (by decide)) dH_writeAcceptance_100 ?_
    refine hr_bipush (v := 110) G dH_writeAcceptance_103 (by decide) ?_
    refine hr_aload_n G dH_writeAcceptance_105 rfl rfl ?_
    refine hr_get (v := .int (S1 11 i 7)) G fH_134 hi rfl dH_writeAcceptance_106 ?_
    refine hr_callSs G kH_216 sH_oneIf (m_H_oneIf _ _ _ _ _ (S1 11 i 7)) rfl rfl (Nat.le_of_ble_eq_true rfl) ⟨by rw [hR]; decide, by rw [hR]; decide⟩ ⟨by rw [hR]; decide, by rw [hR]; decide⟩ dH_writeAcceptance_109 ?_
    refine hr_callVt (t := 17) G rfl (hA.lt (show 17 < 18 by decide)) kH_282 iT_addElement vT_addElement (m_T_addElement _ _ _ _ _ 17 hA hF1 (show 17 < 18 by decide) h1.2 110 (if (S1 11 i 7) = 0 then 0 else 1) (show ib_c 110 from rfl)) rfl rfl (Nat.le_of_ble_eq_true rfl) ⟨by rw [hR]; decide, by rw [hR]; decide⟩ ⟨by rw [hR]; decide, by rw [hR]; decide⟩ dH_writeAcceptance_112 (fun S112 q112 => ?_)
    have hF112 := q112.fx hF1
    refine hr_aload_nN G dH_writeAcceptance_115 rfl rfl ?_
    refine hr_ifnullN (tgt := 132) G dH_writeAcceptance_116 (by decide) ?_
    refine hr_L (L' := [(0, .ref (hw_a B 0 0)), (1, .ref (hw_a B 11 i)), (3, .null), (4, .ref (hw_a B 9 s))]) (hw_s1 rfl (hw_s1 rfl (hw_s1 rfl (hw_s1 rfl (hw_s0))))) ?_
    exact K132 _ (h1.tr q112)
  have K67 : ∀ S1, tx_r 17 S S1 → hw_V X B fr nb S1 z 0 0 (hw_MQ X B fr (hw_pt 17 nb S z) 0 0) 5 67 [(0, .ref (hw_a B 0 0)), (1, .ref (hw_a B 11 i)), (3, .null), (4, .ref (hw_a B 9 s))] [] := by
    intro S1 h1
    have hF1 := h1.fx hF
    refine hr_aload_n G dH_writeAcceptance_67 rfl rfl ?_
    refine hr_get (v := .ref (hw_a B 4 17)) G fH_47 (hA.lt (show 0 < hw_n0 0 by decide)) (hw_rfx hF1 (by decide) rfl (by decide)) dH_writeAcceptance_68 ?_
    refine hr_bipush (v := 100) G dH_writeAcceptance_71 (by decide) ?_
    refine hr_aload G dH_writeAcceptance_73 rfl ?_
    refine hr_get (v := .int (S1 9 s 2)) G fH_220 hs rfl dH_writeAcceptance_75 ?_
    refine hr_callVt (t := 17) G rfl (hA.lt (show 17 < 18 by decide)) kH_282 iT_addElement vT_addElement (m_T_addElement _ _ _ _ _ 17 hA hF1 (show 17 < 18 by decide) h1.2 100 (S1 9 s 2) (show ib_c 100 from rfl)) rfl rfl (Nat.le_of_ble_eq_true rfl) ⟨by rw [hR]; decide, by rw [hR]; decide⟩ ⟨by rw [hR]; decide, by rw [hR]; decide⟩ dH_writeAcceptance_78 (fun S78 q78 => ?_)
    have hF78 := q78.fx hF1
    refine hr_aload G dH_writeAcceptance_81 rfl ?_
    refine hr_get (v := .int (S78 9 s 3)) G fH_223 hs rfl dH_writeAcceptance_83 ?_
    refine hr_if_eq (tgt := 99) G dH_writeAcceptance_86 (by decide) (fun h86 => ?_) (fun h86 => ?_)
    · skip
      refine hr_L (L' := [(0, .ref (hw_a B 0 0)), (1, .ref (hw_a B 11 i)), (3, .null), (4, .ref (hw_a B 9 s))]) (hw_s1 rfl (hw_s1 rfl (hw_s1 rfl (hw_s1 rfl (hw_s0))))) ?_
      exact K99 _ (h1.tr q78)
    · skip
      refine hr_aload_n G dH_writeAcceptance_89 rfl rfl ?_
      refine hr_get (v := .ref (hw_a B 4 17)) G fH_47 (hA.lt (show 0 < hw_n0 0 by decide)) (hw_rfx hF78 (by decide) rfl (by decide)) dH_writeAcceptance_90 ?_
      refine hr_bipush (v := 108) G dH_writeAcceptance_93 (by decide) ?_
      refine hr_iconst (v := 1) G dH_writeAcceptance_95 (by decide) ?_
      refine hr_callVt (t := 17) G rfl (hA.lt (show 17 < 18 by decide)) kH_282 iT_addElement vT_addElement (m_T_addElement _ _ _ _ _ 17 hA hF78 (show 17 < 18 by decide) q78.2 108 1 (show ib_c 108 from rfl)) rfl rfl (Nat.le_of_ble_eq_true rfl) ⟨by rw [hR]; decide, by rw [hR]; decide⟩ ⟨by rw [hR]; decide, by rw [hR]; decide⟩ dH_writeAcceptance_96 (fun S96 q96 => ?_)
      have hF96 := q96.fx hF78
      refine hr_L (L' := [(0, .ref (hw_a B 0 0)), (1, .ref (hw_a B 11 i)), (3, .null), (4, .ref (hw_a B 9 s))]) (hw_s1 rfl (hw_s1 rfl (hw_s1 rfl (hw_s1 rfl (hw_s0))))) ?_
      exact K99 _ ((h1.tr q78).tr q96)
  refine hr_aload_n G dH_writeAcceptance_0 rfl rfl ?_
  refine hr_get (v := .ref (hw_a B 9 s)) G fH_167 hi (hw_rdy (((tx_r.rf ho).1 11 i 2 (by omega) (by omega)).trans hts) (by omega)) dH_writeAcceptance_1 ?_
  refine hr_astore (i := 4) G dH_writeAcceptance_4 (by decide) ?_
  refine hr_aload_n G dH_writeAcceptance_6 rfl rfl ?_
  refine hr_get (v := .ref (hw_a B 4 17)) G fH_47 (hA.lt (show 0 < hw_n0 0 by decide)) (hw_rfx hF (by decide) rfl (by decide)) dH_writeAcceptance_7 ?_
  refine hr_callVt (t := 17) G rfl (hA.lt (show 17 < 18 by decide)) kH_85 iT_clear vT_clear (m_T_clearw _ _ _ _ _ 17 hA hF (show 17 < 18 by decide) ho ) rfl rfl (Nat.le_of_ble_eq_true rfl) ⟨by rw [hR]; decide, by rw [hR]; decide⟩ ⟨by rw [hR]; decide, by rw [hR]; decide⟩ dH_writeAcceptance_10 (fun S10 q10 => ?_)
  have hF10 := q10.fx hF
  refine hr_aload_n G dH_writeAcceptance_13 rfl rfl ?_
  refine hr_get (v := .ref (hw_a B 4 17)) G fH_47 (hA.lt (show 0 < hw_n0 0 by decide)) (hw_rfx hF10 (by decide) rfl (by decide)) dH_writeAcceptance_14 ?_
  refine hr_ldcSW (si := 17) G rfl dH_writeAcceptance_17 ?_
  refine hr_callVt (t := 17) G rfl (hA.lt (show 17 < 18 by decide)) kH_263 iT_addAll vT_addAll (m_T_addAll _ _ _ _ _ 17 hA hF10 (show 17 < 18 by decide) q10.2 17 _ rfl) rfl rfl (Nat.le_of_ble_eq_true rfl) ⟨by rw [hR]; decide, by rw [hR]; decide⟩ ⟨by rw [hR]; decide, by rw [hR]; decide⟩ dH_writeAcceptance_20 (fun S20 q20 => ?_)
  have hF20 := q20.fx hF10
  refine hr_aload_n G dH_writeAcceptance_23 rfl rfl ?_
  refine hr_get (v := .ref (hw_a B 4 17)) G fH_47 (hA.lt (show 0 < hw_n0 0 by decide)) (hw_rfx hF20 (by decide) rfl (by decide)) dH_writeAcceptance_24 ?_
  refine hr_aload G dH_writeAcceptance_27 rfl ?_
  refine hr_get (v := .ref (hw_a B 2 u)) G fH_211 hs (hw_rdy (((((tx_r.rf ho).tr q10).tr q20).1 9 s 1 (by omega) (by omega)).trans hus) (by omega)) dH_writeAcceptance_29 ?_
  refine hr_get (v := .ref (hw_a B 3 u)) G fH_77 (hA.lt hu) (hw_rfx hF20 hu rfl (by omega)) dH_writeAcceptance_32 ?_
  refine hr_iconst (v := 3) G dH_writeAcceptance_35 (by decide) ?_
  refine hr_aald (n := 3) (v := .ref (hw_a B 4 (4 * u + 3))) G rfl (by decide) rfl (hA.lt hu) rfl (show 3 < 4 by decide) (hw_rfx hF20 hu rfl (by omega)) dH_writeAcceptance_36 ?_
  obtain ⟨⟨n37, hl37, hn37⟩, hc37⟩ := (((tx_r.rf ho).tr q10).tr q20).ot (u := (4 * u + 3)) (by omega) (hT _ (by omega))
  refine hr_callVt (t := 17) G rfl (hA.lt (show 17 < 18 by decide)) kH_275 iT_addEscapedT vT_addEscapedT (m_T_addEscapedT _ _ _ _ _ 17 hA hF20 (show 17 < 18 by decide) q20.2 (4 * u + 3) n37 (by omega) (by omega) hn37 hl37 hc37) rfl rfl (Nat.le_of_ble_eq_true rfl) ⟨by rw [hR]; decide, by rw [hR]; decide⟩ ⟨by rw [hR]; decide, by rw [hR]; decide⟩ dH_writeAcceptance_37 (fun S37 q37 => ?_)
  have hF37 := q37.fx hF20
  refine hr_aload_n G dH_writeAcceptance_40 rfl rfl ?_
  refine hr_get (v := .ref (hw_a B 4 17)) G fH_47 (hA.lt (show 0 < hw_n0 0 by decide)) (hw_rfx hF37 (by decide) rfl (by decide)) dH_writeAcceptance_41 ?_
  refine hr_ldcSW (si := 15) G rfl dH_writeAcceptance_44 ?_
  refine hr_callVt (t := 17) G rfl (hA.lt (show 17 < 18 by decide)) kH_263 iT_addAll vT_addAll (m_T_addAll _ _ _ _ _ 17 hA hF37 (show 17 < 18 by decide) q37.2 15 _ rfl) rfl rfl (Nat.le_of_ble_eq_true rfl) ⟨by rw [hR]; decide, by rw [hR]; decide⟩ ⟨by rw [hR]; decide, by rw [hR]; decide⟩ dH_writeAcceptance_47 (fun S47 q47 => ?_)
  have hF47 := q47.fx hF37
  refine hr_iload_n G dH_writeAcceptance_50 rfl rfl ?_
  refine hr_if_eq (tgt := 67) G dH_writeAcceptance_51 (by decide) (fun h51 => ?_) (fun h51 => ?_)
  · skip
    refine hr_L (L' := [(0, .ref (hw_a B 0 0)), (1, .ref (hw_a B 11 i)), (3, .null), (4, .ref (hw_a B 9 s))]) (hw_s1 rfl (hw_s1 rfl (hw_s1 rfl (hw_s1 rfl (hw_s0))))) ?_
    exact K67 _ (((((tx_r.rf ho).tr q10).tr q20).tr q37).tr q47)
  · skip
    refine hr_aload_n G dH_writeAcceptance_54 rfl rfl ?_
    refine hr_aload G dH_writeAcceptance_55 rfl ?_
    refine hr_get (v := .ref (hw_a B 2 u)) G fH_211 hs (hw_rdy (((((((tx_r.rf ho).tr q10).tr q20).tr q37).tr q47).1 9 s 1 (by omega) (by omega)).trans hus) (by omega)) dH_writeAcceptance_57 ?_
    refine hr_aload_n G dH_writeAcceptance_60 rfl rfl ?_
    refine hr_get (v := .int (S47 11 i 3)) G fH_226 hi rfl dH_writeAcceptance_61 ?_
    refine hr_st (st' := [.int (nI w), .ref (hw_a B 2 u), .ref (hw_a B 0 0)]) (by rw [(((((tx_r.rf ho).tr q10).tr q20).tr q37).tr q47).1 11 i 3 (by omega) (by omega), htw]) ?_
    refine hr_callHt (t := 17) G rfl (hA.lt (show 0 < hw_n0 0 by decide)) kH_278 iH_writeAttributes vH_writeAttributes (m_H_writeAttributes _ _ _ _ _ u w (ic_tx hI0 (((((tx_r.rf ho).tr q10).tr q20).tr q37).tr q47)) hu hw) rfl rfl (Nat.le_of_ble_eq_true rfl) ⟨by rw [hR]; decide, by rw [hR]; decide⟩ ⟨by rw [hR]; decide, by rw [hR]; decide⟩ dH_writeAcceptance_64 (fun S64 q64 => ?_)
    have hF64 := q64.fx hF47
    refine hr_L (L' := [(0, .ref (hw_a B 0 0)), (1, .ref (hw_a B 11 i)), (3, .null), (4, .ref (hw_a B 9 s))]) (hw_s1 rfl (hw_s1 rfl (hw_s1 rfl (hw_s1 rfl (hw_s0))))) ?_
    exact K67 _ ((((((tx_r.rf ho).tr q10).tr q20).tr q37).tr q47).tr q64)
set_option maxRecDepth 100000 in
set_option maxHeartbeats 1000000 in
theorem m_H_writeAcceptance_g (l : Launch) (B : hw_B) (nb : Nat → Nat) (S : hw_St) (z : Nat) (i s u w : Nat) (b : Int32) (hI : ic nb S) (hi : i < nb 11) (hs : s < nb 9) (hts : S 11 i 2 = nI s) (hu : u < 4) (hus : S 9 s 1 = nI u) (hw : w < 6) (htw : S 11 i 3 = nI w) (g : Nat) (hg : g < nb 11) : hw_M l yH_writeAcceptance cH_writeAcceptance 5 none ({ frames := 8, cells := 0, slots := 0, locals := 174 }) B [.ref (hw_a B 0 0), .ref (hw_a B 11 i), .int b, .ref (hw_a B 11 g)] nb S z (hw_pt 17 nb S z) := by
  refine hw_M.of (by decide) (Nat.le_of_ble_eq_true rfl) ?_
  intro X fr hl hR G hr hnm
  have hI0 := hI
  obtain ⟨hA, hF, ⟨hn9, hc9⟩, ⟨hn11, hc11⟩, ⟨nm, hnm1, hnm2⟩, hT, hSe, hTi, hU, hW0, hW⟩ := hI
  have ho : tx_ok S 17 := hT 17 (by decide)
  have K132 : ∀ S1, tx_r 17 S S1 → hw_V X B fr nb S1 z 0 0 (hw_MQ X B fr (hw_pt 17 nb S z) 0 0) 5 132 [(0, .ref (hw_a B 0 0)), (1, .ref (hw_a B 11 i)), (3, .ref (hw_a B 11 g)), (4, .ref (hw_a B 9 s))] [] := by
    intro S1 h1
    have hF1 := h1.fx hF
    refine hr_aload_n G dH_writeAcceptance_132 rfl rfl ?_
    refine hr_aload_n G dH_writeAcceptance_133 rfl rfl ?_
    refine hr_callHt (t := 17) G rfl (hA.lt (show 0 < hw_n0 0 by decide)) kH_286 iH_writeChain vH_writeChain (m_H_writeChain _ _ _ _ _ i (ic_tx hI0 h1) hi) rfl rfl (Nat.le_of_ble_eq_true rfl) ⟨by rw [hR]; decide, by rw [hR]; decide⟩ ⟨by rw [hR]; decide, by rw [hR]; decide⟩ dH_writeAcceptance_134 (fun S134 q134 => ?_)
    have hF134 := q134.fx hF1
    refine hr_aload_n G dH_writeAcceptance_137 rfl rfl ?_
    refine hr_get (v := .ref (hw_a B 4 17)) G fH_47 (hA.lt (show 0 < hw_n0 0 by decide)) (hw_rfx hF134 (by decide) rfl (by decide)) dH_writeAcceptance_138 ?_
    refine hr_ldcSW (si := 25) G rfl dH_writeAcceptance_141 ?_
    refine hr_callVt (t := 17) G rfl (hA.lt (show 17 < 18 by decide)) kH_263 iT_addAll vT_addAll (m_T_addAll _ _ _ _ _ 17 hA hF134 (show 17 < 18 by decide) q134.2 25 _ rfl) rfl rfl (Nat.le_of_ble_eq_true rfl) ⟨by rw [hR]; decide, by rw [hR]; decide⟩ ⟨by rw [hR]; decide, by rw [hR]; decide⟩ dH_writeAcceptance_144 (fun S144 q144 => ?_)
    have hF144 := q144.fx hF134
    exact hr_vret G hr (fun _ h => h) dH_writeAcceptance_147 ⟨rfl, rfl, ((h1.tr q134).tr q144), rfl⟩
  have K99 : ∀ S1, tx_r 17 S S1 → hw_V X B fr nb S1 z 0 0 (hw_MQ X B fr (hw_pt 17 nb S z) 0 0) 5 99 [(0, .ref (hw_a B 0 0)), (1, .ref (hw_a B 11 i)), (3, .ref (hw_a B 11 g)), (4, .ref (hw_a B 9 s))] [] := by
    intro S1 h1
    have hF1 := h1.fx hF
    refine hr_aload_n G dH_writeAcceptance_99 rfl rfl ?_
    refine hr_get (v := .ref (hw_a B 4 17)) G fH_47 (hA.lt (show 0 < hw_n0 0 by decide)) (hw_rfx hF1 (by decide) rfl (by decide)) dH_writeAcceptance_100 ?_
    refine hr_bipush (v := 110) G dH_writeAcceptance_103 (by decide) ?_
    refine hr_aload_n G dH_writeAcceptance_105 rfl rfl ?_
    refine hr_get (v := .int (S1 11 i 7)) G fH_134 hi rfl dH_writeAcceptance_106 ?_
    refine hr_callSs G kH_216 sH_oneIf (m_H_oneIf _ _ _ _ _ (S1 11 i 7)) rfl rfl (Nat.le_of_ble_eq_true rfl) ⟨by rw [hR]; decide, by rw [hR]; decide⟩ ⟨by rw [hR]; decide, by rw [hR]; decide⟩ dH_writeAcceptance_109 ?_
    refine hr_callVt (t := 17) G rfl (hA.lt (show 17 < 18 by decide)) kH_282 iT_addElement vT_addElement (m_T_addElement _ _ _ _ _ 17 hA hF1 (show 17 < 18 by decide) h1.2 110 (if (S1 11 i 7) = 0 then 0 else 1) (show ib_c 110 from rfl)) rfl rfl (Nat.le_of_ble_eq_true rfl) ⟨by rw [hR]; decide, by rw [hR]; decide⟩ ⟨by rw [hR]; decide, by rw [hR]; decide⟩ dH_writeAcceptance_112 (fun S112 q112 => ?_)
    have hF112 := q112.fx hF1
    refine hr_aload_n G dH_writeAcceptance_115 rfl rfl ?_
    refine hr_ifnull G dH_writeAcceptance_116 ?_
    refine hr_aload_n G dH_writeAcceptance_119 rfl rfl ?_
    refine hr_get (v := .ref (hw_a B 4 17)) G fH_47 (hA.lt (show 0 < hw_n0 0 by decide)) (hw_rfx hF112 (by decide) rfl (by decide)) dH_writeAcceptance_120 ?_
    refine hr_bipush (v := 103) G dH_writeAcceptance_123 (by decide) ?_
    refine hr_aload_n G dH_writeAcceptance_125 rfl rfl ?_
    refine hr_get (v := .int (S112 11 g 0)) G fH_138 hg rfl dH_writeAcceptance_126 ?_
    refine hr_callVt (t := 17) G rfl (hA.lt (show 17 < 18 by decide)) kH_282 iT_addElement vT_addElement (m_T_addElement _ _ _ _ _ 17 hA hF112 (show 17 < 18 by decide) q112.2 103 (S112 11 g 0) (show ib_c 103 from rfl)) rfl rfl (Nat.le_of_ble_eq_true rfl) ⟨by rw [hR]; decide, by rw [hR]; decide⟩ ⟨by rw [hR]; decide, by rw [hR]; decide⟩ dH_writeAcceptance_129 (fun S129 q129 => ?_)
    have hF129 := q129.fx hF112
    refine hr_L (L' := [(0, .ref (hw_a B 0 0)), (1, .ref (hw_a B 11 i)), (3, .ref (hw_a B 11 g)), (4, .ref (hw_a B 9 s))]) (hw_s1 rfl (hw_s1 rfl (hw_s1 rfl (hw_s1 rfl (hw_s0))))) ?_
    exact K132 _ ((h1.tr q112).tr q129)
  have K67 : ∀ S1, tx_r 17 S S1 → hw_V X B fr nb S1 z 0 0 (hw_MQ X B fr (hw_pt 17 nb S z) 0 0) 5 67 [(0, .ref (hw_a B 0 0)), (1, .ref (hw_a B 11 i)), (3, .ref (hw_a B 11 g)), (4, .ref (hw_a B 9 s))] [] := by
    intro S1 h1
    have hF1 := h1.fx hF
    refine hr_aload_n G dH_writeAcceptance_67 rfl rfl ?_
    refine hr_get (v := .ref (hw_a B 4 17)) G fH_47 (hA.lt (show 0 < hw_n0 0 by decide)) (hw_rfx hF1 (by decide) rfl (by decide)) dH_writeAcceptance_68 ?_
    refine hr_bipush (v := 100) G dH_writeAcceptance_71 (by decide) ?_
    refine hr_aload G dH_writeAcceptance_73 rfl ?_
    refine hr_get (v := .int (S1 9 s 2)) G fH_220 hs rfl dH_writeAcceptance_75 ?_
    refine hr_callVt (t := 17) G rfl (hA.lt (show 17 < 18 by decide)) kH_282 iT_addElement vT_addElement (m_T_addElement _ _ _ _ _ 17 hA hF1 (show 17 < 18 by decide) h1.2 100 (S1 9 s 2) (show ib_c 100 from rfl)) rfl rfl (Nat.le_of_ble_eq_true rfl) ⟨by rw [hR]; decide, by rw [hR]; decide⟩ ⟨by rw [hR]; decide, by rw [hR]; decide⟩ dH_writeAcceptance_78 (fun S78 q78 => ?_)
    have hF78 := q78.fx hF1
    refine hr_aload G dH_writeAcceptance_81 rfl ?_
    refine hr_get (v := .int (S78 9 s 3)) G fH_223 hs rfl dH_writeAcceptance_83 ?_
    refine hr_if_eq (tgt := 99) G dH_writeAcceptance_86 (by decide) (fun h86 => ?_) (fun h86 => ?_)
    · skip
      refine hr_L (L' := [(0, .ref (hw_a B 0 0)), (1, .ref (hw_a B 11 i)), (3, .ref (hw_a B 11 g)), (4, .ref (hw_a B 9 s))]) (hw_s1 rfl (hw_s1 rfl (hw_s1 rfl (hw_s1 rfl (hw_s0))))) ?_
      exact K99 _ (h1.tr q78)
    · skip
      refine hr_aload_n G dH_writeAcceptance_89 rfl rfl ?_
      refine hr_get (v := .ref (hw_a B 4 17)) G fH_47 (hA.lt (show 0 < hw_n0 0 by decide)) (hw_rfx hF78 (by decide) rfl (by decide)) dH_writeAcceptance_90 ?_
      refine hr_bipush (v := 108) G dH_writeAcceptance_93 (by decide) ?_
      refine hr_iconst (v := 1) G dH_writeAcceptance_95 (by decide) ?_
      refine hr_callVt (t := 17) G rfl (hA.lt (show 17 < 18 by decide)) kH_282 iT_addElement vT_addElement (m_T_addElement _ _ _ _ _ 17 hA hF78 (show 17 < 18 by decide) q78.2 108 1 (show ib_c 108 from rfl)) rfl rfl (Nat.le_of_ble_eq_true rfl) ⟨by rw [hR]; decide, by rw [hR]; decide⟩ ⟨by rw [hR]; decide, by rw [hR]; decide⟩ dH_writeAcceptance_96 (fun S96 q96 => ?_)
      have hF96 := q96.fx hF78
      refine hr_L (L' := [(0, .ref (hw_a B 0 0)), (1, .ref (hw_a B 11 i)), (3, .ref (hw_a B 11 g)), (4, .ref (hw_a B 9 s))]) (hw_s1 rfl (hw_s1 rfl (hw_s1 rfl (hw_s1 rfl (hw_s0))))) ?_
      exact K99 _ ((h1.tr q78).tr q96)
  refine hr_aload_n G dH_writeAcceptance_0 rfl rfl ?_
  refine hr_get (v := .ref (hw_a B 9 s)) G fH_167 hi (hw_rdy (((tx_r.rf ho).1 11 i 2 (by omega) (by omega)).trans hts) (by omega)) dH_writeAcceptance_1 ?_
  refine hr_astore (i := 4) G dH_writeAcceptance_4 (by decide) ?_
  refine hr_aload_n G dH_writeAcceptance_6 rfl rfl ?_
  refine hr_get (v := .ref (hw_a B 4 17)) G fH_47 (hA.lt (show 0 < hw_n0 0 by decide)) (hw_rfx hF (by decide) rfl (by decide)) dH_writeAcceptance_7 ?_
  refine hr_callVt (t := 17) G rfl (hA.lt (show 17 < 18 by decide)) kH_85 iT_clear vT_clear (m_T_clearw _ _ _ _ _ 17 hA hF (show 17 < 18 by decide) ho ) rfl rfl (Nat.le_of_ble_eq_true rfl) ⟨by rw [hR]; decide, by rw [hR]; decide⟩ ⟨by rw [hR]; decide, by rw [hR]; decide⟩ dH_writeAcceptance_10 (fun S10 q10 => ?_)
  have hF10 := q10.fx hF
  refine hr_aload_n G dH_writeAcceptance_13 rfl rfl ?_
  refine hr_get (v := .ref (hw_a B 4 17)) G fH_47 (hA.lt (show 0 < hw_n0 0 by decide)) (hw_rfx hF10 (by decide) rfl (by decide)) dH_writeAcceptance_14 ?_
  refine hr_ldcSW (si := 17) G rfl dH_writeAcceptance_17 ?_
  refine hr_callVt (t := 17) G rfl (hA.lt (show 17 < 18 by decide)) kH_263 iT_addAll vT_addAll (m_T_addAll _ _ _ _ _ 17 hA hF10 (show 17 < 18 by decide) q10.2 17 _ rfl) rfl rfl (Nat.le_of_ble_eq_true rfl) ⟨by rw [hR]; decide, by rw [hR]; decide⟩ ⟨by rw [hR]; decide, by rw [hR]; decide⟩ dH_writeAcceptance_20 (fun S20 q20 => ?_)
  have hF20 := q20.fx hF10
  refine hr_aload_n G dH_writeAcceptance_23 rfl rfl ?_
  refine hr_get (v := .ref (hw_a B 4 17)) G fH_47 (hA.lt (show 0 < hw_n0 0 by decide)) (hw_rfx hF20 (by decide) rfl (by decide)) dH_writeAcceptance_24 ?_
  refine hr_aload G dH_writeAcceptance_27 rfl ?_
  refine hr_get (v := .ref (hw_a B 2 u)) G fH_211 hs (hw_rdy (((((tx_r.rf ho).tr q10).tr q20).1 9 s 1 (by omega) (by omega)).trans hus) (by omega)) dH_writeAcceptance_29 ?_
  refine hr_get (v := .ref (hw_a B 3 u)) G fH_77 (hA.lt hu) (hw_rfx hF20 hu rfl (by omega)) dH_writeAcceptance_32 ?_
  refine hr_iconst (v := 3) G dH_writeAcceptance_35 (by decide) ?_
  refine hr_aald (n := 3) (v := .ref (hw_a B 4 (4 * u + 3))) G rfl (by decide) rfl (hA.lt hu) rfl (show 3 < 4 by decide) (hw_rfx hF20 hu rfl (by omega)) dH_writeAcceptance_36 ?_
  obtain ⟨⟨n37, hl37, hn37⟩, hc37⟩ := (((tx_r.rf ho).tr q10).tr q20).ot (u := (4 * u + 3)) (by omega) (hT _ (by omega))
  refine hr_callVt (t := 17) G rfl (hA.lt (show 17 < 18 by decide)) kH_275 iT_addEscapedT vT_addEscapedT (m_T_addEscapedT _ _ _ _ _ 17 hA hF20 (show 17 < 18 by decide) q20.2 (4 * u + 3) n37 (by omega) (by omega) hn37 hl37 hc37) rfl rfl (Nat.le_of_ble_eq_true rfl) ⟨by rw [hR]; decide, by rw [hR]; decide⟩ ⟨by rw [hR]; decide, by rw [hR]; decide⟩ dH_writeAcceptance_37 (fun S37 q37 => ?_)
  have hF37 := q37.fx hF20
  refine hr_aload_n G dH_writeAcceptance_40 rfl rfl ?_
  refine hr_get (v := .ref (hw_a B 4 17)) G fH_47 (hA.lt (show 0 < hw_n0 0 by decide)) (hw_rfx hF37 (by decide) rfl (by decide)) dH_writeAcceptance_41 ?_
  refine hr_ldcSW (si := 15) G rfl dH_writeAcceptance_44 ?_
  refine hr_callVt (t := 17) G rfl (hA.lt (show 17 < 18 by decide)) kH_263 iT_addAll vT_addAll (m_T_addAll _ _ _ _ _ 17 hA hF37 (show 17 < 18 by decide) q37.2 15 _ rfl) rfl rfl (Nat.le_of_ble_eq_true rfl) ⟨by rw [hR]; decide, by rw [hR]; decide⟩ ⟨by rw [hR]; decide, by rw [hR]; decide⟩ dH_writeAcceptance_47 (fun S47 q47 => ?_)
  have hF47 := q47.fx hF37
  refine hr_iload_n G dH_writeAcceptance_50 rfl rfl ?_
  refine hr_if_eq (tgt := 67) G dH_writeAcceptance_51 (by decide) (fun h51 => ?_) (fun h51 => ?_)
  · skip
    refine hr_L (L' := [(0, .ref (hw_a B 0 0)), (1, .ref (hw_a B 11 i)), (3, .ref (hw_a B 11 g)), (4, .ref (hw_a B 9 s))]) (hw_s1 rfl (hw_s1 rfl (hw_s1 rfl (hw_s1 rfl (hw_s0))))) ?_
    exact K67 _ (((((tx_r.rf ho).tr q10).tr q20).tr q37).tr q47)
  · skip
    refine hr_aload_n G dH_writeAcceptance_54 rfl rfl ?_
    refine hr_aload G dH_writeAcceptance_55 rfl ?_
    refine hr_get (v := .ref (hw_a B 2 u)) G fH_211 hs (hw_rdy (((((((tx_r.rf ho).tr q10).tr q20).tr q37).tr q47).1 9 s 1 (by omega) (by omega)).trans hus) (by omega)) dH_writeAcceptance_57 ?_
    refine hr_aload_n G dH_writeAcceptance_60 rfl rfl ?_
    refine hr_get (v := .int (S47 11 i 3)) G fH_226 hi rfl dH_writeAcceptance_61 ?_
    refine hr_st (st' := [.int (nI w), .ref (hw_a B 2 u), .ref (hw_a B 0 0)]) (by rw [(((((tx_r.rf ho).tr q10).tr q20).tr q37).tr q47).1 11 i 3 (by omega) (by omega), htw]) ?_
    refine hr_callHt (t := 17) G rfl (hA.lt (show 0 < hw_n0 0 by decide)) kH_278 iH_writeAttributes vH_writeAttributes (m_H_writeAttributes _ _ _ _ _ u w (ic_tx hI0 (((((tx_r.rf ho).tr q10).tr q20).tr q37).tr q47)) hu hw) rfl rfl (Nat.le_of_ble_eq_true rfl) ⟨by rw [hR]; decide, by rw [hR]; decide⟩ ⟨by rw [hR]; decide, by rw [hR]; decide⟩ dH_writeAcceptance_64 (fun S64 q64 => ?_)
    have hF64 := q64.fx hF47
    refine hr_L (L' := [(0, .ref (hw_a B 0 0)), (1, .ref (hw_a B 11 i)), (3, .ref (hw_a B 11 g)), (4, .ref (hw_a B 9 s))]) (hw_s1 rfl (hw_s1 rfl (hw_s1 rfl (hw_s1 rfl (hw_s0))))) ?_
    exact K67 _ ((((((tx_r.rf ho).tr q10).tr q20).tr q37).tr q47).tr q64)
set_option maxRecDepth 100000 in
set_option maxHeartbeats 1000000 in
theorem m_H_document (l : Launch) (B : hw_B) (nb : Nat → Nat) (S : hw_St) (z : Nat) (x : Int32) (hI : ic nb S) : hw_M l yH_document cH_document 2 (some .int) ({ frames := 1, cells := 0, slots := 0, locals := 21 }) B [.ref (hw_a B 0 0), .int x] nb S z (fun oc nb' S' z' => (∃ r, oc = .inl (some (.int r))) ∧ nb' = nb ∧ S' = S ∧ z' = z) := by
  refine hw_M.of (by decide) (Nat.le_of_ble_eq_true rfl) ?_
  intro X fr hl hR G hr hnm
  obtain ⟨hA, hF, ⟨hn9, hc9⟩, ⟨hn11, hc11⟩, ⟨nm, hnm1, hnm2⟩, hT, hSe, hTi, hU, hW0, hW⟩ := hI
  refine hr_iload_n G dH_document_0 rfl rfl ?_
  refine hr_iconst (v := -1) G dH_document_1 (by decide) ?_
  refine hr_icmp_ne (tgt := 15) G dH_document_2 (by decide) (fun h2 => ?_) (fun h2 => ?_)
  · skip
    refine hr_aload_n G dH_document_15 rfl rfl ?_
    refine hr_get (v := .ref (hw_a B 4 17)) G fH_47 (hA.lt (show 0 < hw_n0 0 by decide)) (hw_rfx hF (by decide) rfl (by decide)) dH_document_16 ?_
    refine hr_iload_n G dH_document_19 rfl rfl ?_
    refine hr_callV (k := 4) (i := 17) (ci := 2) (T := FT) (N := 2) G rfl rfl (hA.lt (show 17 < 18 by decide)) kH_207 iT_at vT_at (m_T_at _ _ _ _ _ 17 hA hF (show 17 < 18 by decide) x (hT 17 (by decide))) rfl rfl (Nat.le_of_ble_eq_true rfl) ⟨by rw [hR]; decide, by rw [hR]; decide⟩ ⟨by rw [hR]; decide, by rw [hR]; decide⟩ dH_document_20 (fun r nb2 S2 z2 hp => ?_)
    obtain ⟨⟨r1, hr1⟩, rfl, rfl, rfl⟩ := hp
    obtain rfl := Sum.inl.inj hr1
    exact hr_iret G hr (fun _ h => h) dH_document_23 ⟨⟨_, rfl⟩, rfl, rfl, rfl⟩
  · skip
    refine hr_aload_n G dH_document_5 rfl rfl ?_
    refine hr_get (v := .ref (hw_a B 4 17)) G fH_47 (hA.lt (show 0 < hw_n0 0 by decide)) (hw_rfx hF (by decide) rfl (by decide)) dH_document_6 ?_
    refine hr_get (v := .int (S 4 17 1)) G fH_58 (hA.lt (show 17 < hw_n0 4 by decide)) rfl dH_document_9 ?_
    refine hr_goto (tgt := 23) G dH_document_12 (by decide) ?_
    exact hr_iret G hr (fun _ h => h) dH_document_23 ⟨⟨_, rfl⟩, rfl, rfl, rfl⟩
