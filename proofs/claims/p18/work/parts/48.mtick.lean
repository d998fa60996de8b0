/-! The reference: tick. -/
theorem im_mm {ns nt : Nat} {S S' : hw_St} (h : im ns nt S) (q : mm_r S S') : im ns nt S' := by
  have e : ∀ k i j, ¬ k = 42 → ¬ k = 20 → S' k i j = S k i j := fun k i j a c => q k i j a (fun w => c w.1)
  have e20 : ∀ i j, ¬ j = 26 → S' 20 i j = S 20 i j := fun i j a => q 20 i j (by decide) (fun w => a w.2)
  obtain ⟨h1, h2, h3, h4, h5, h6, h7, h8, h9⟩ := h
  refine ⟨⟨h1.1, by rw [e20 _ _ (by decide)]; exact h1.2⟩, ⟨h2.1, by rw [e20 _ _ (by decide)]; exact h2.2⟩, by rw [e20 _ _ (by decide)]; exact h3, fun t ht => by rw [e _ _ _ (by decide) (by decide)]; exact h4 t ht, fun t ht => by rw [e _ _ _ (by decide) (by decide)]; exact h5 t ht, fun t ht => by rw [e _ _ _ (by decide) (by decide)]; exact h6 t ht, fun t ht => by rw [e _ _ _ (by decide) (by decide)]; exact h7 t ht, fun t ht => by rw [e _ _ _ (by decide) (by decide)]; exact h8 t ht, fun t ht => by rw [e 35 0 t (by decide) (by decide), e 40 0 t (by decide) (by decide)]; intro a p hp b; rw [e 35 0 p (by decide) (by decide)]; exact h9 t ht a p hp b⟩
/-- tickets of sessions that have not ended -/
def md_po (S : hw_St) : Nat → Nat
  | 0 => 0
  | k + 1 => md_po S k + (if S 34 0 (S 36 0 k).toNatClampNeg = 0 then 1 else 0)
theorem md_po_mm {S S' : hw_St} (h : mm_r S S') (k : Nat) : md_po S' k = md_po S k := by
  induction k with
  | zero => rfl
  | succ k ih => unfold md_po; rw [ih, h 36 0 k (by decide) (by omega), h 34 0 _ (by decide) (by omega)]
theorem md_po_end {ns nt s : Nat} {S : hw_St} (h : im ns nt S) (hs : s < ns) (he : S 34 0 s = 0) : ∀ k, k ≤ nt → md_po (hw_sv S 34 0 s 1) k + md_co s S k = md_po S k := by
  intro k
  have hns := h.1.1
  induction k with
  | zero => intro _; rfl
  | succ k ih =>
    intro hk
    obtain ⟨sk, hsk, e⟩ := h.2.2.2.2.2.1 k (by omega)
    have i1 := ih (by omega)
    unfold md_po md_co
    rw [show hw_sv S 34 0 s 1 36 0 k = nI sk from e, e, nI_clamp (by omega)]
    by_cases q : sk = s
    · subst q
      rw [hw_sv_same, if_neg (by decide), if_pos rfl, if_pos he]; omega
    · rw [if_neg (fun w => q (nI_inj (by omega) (by omega) w)), show hw_sv S 34 0 s 1 34 0 sk = S 34 0 sk by simp [hw_sv, q]]; omega
/-- the reference's invariant -/
def ix (ns nt : Nat) (S : hw_St) : Prop := im ns nt S ∧ ∃ nm, S 20 0 26 = nI nm ∧ nm + md_po S nt ≤ nt
theorem ix_end {ns nt s nm j : Nat} {S : hw_St} (h : im ns nt S) (hs : s < ns) (he : S 34 0 s = 0) (hp : nm + md_po S nt ≤ nt) (hj : j ≤ md_co s S nt) (hm : md_endk s (hw_sv S 34 0 s 1) nt 20 0 26 = nI (nm + j)) : ix ns nt (md_endk s (hw_sv S 34 0 s 1) nt) := by
  have q := md_endk_r (s := s) (S := hw_sv S 34 0 s 1) nt
  refine ⟨im_mm (S := hw_sv S 34 0 s 1) h q, nm + j, hm, ?_⟩
  rw [md_po_mm q]
  have := md_po_end h hs he nt (Nat.le_refl _)
  omega
def md_id (S : hw_St) (k : Nat) : Int32 := if S 20 0 1 - S 32 0 k ≤ (if S 33 0 k = 0 then (30 : Int32) else 150) then 0 else 1
def md_ol (S : hw_St) (k : Nat) : Int32 := if S 20 0 1 - S 31 0 k ≤ (if S 33 0 k = 0 then (120 : Int32) else 400) then 0 else 1
def md_t1 (nt : Nat) (S : hw_St) (k : Nat) : hw_St := if S 34 0 k = 0 then (if md_id S k = 0 then (if md_ol S k = 0 then S else md_endk k (hw_sv S 34 0 k 1) nt) else md_endk k (hw_sv S 34 0 k 1) nt) else S
def md_tk (nt : Nat) (S : hw_St) : Nat → hw_St
  | 0 => S
  | k + 1 => md_t1 nt (md_tk nt S k) k
set_option maxRecDepth 100000 in
set_option maxHeartbeats 1000000 in
theorem m_M_tick_a (l : Launch) (B : hw_B) (nb : Nat → Nat) (S : hw_St) (z : Nat) (hA : hw_al nb) (hF : hw_Fx S) (x : Int32) (hx : x < 1 ∨ ¬ x ≤ 200) : hw_M l yM_tick cM_tick 5 (some .int) ({ frames := 2, cells := 0, slots := 0, locals := 60 }) B [.ref (hw_a B 20 0), .int x] nb S z (hw_p (.inl (some (.int 0))) nb (hw_sv S 20 0 0 1) z) := by
  refine hw_M.of (by decide) (Nat.le_of_ble_eq_true rfl) ?_
  intro X fr hl hR G hr hnm
  refine hr_aload_n G dM_tick_0 rfl rfl ?_
  refine hr_iload_n G dM_tick_1 rfl rfl ?_
  refine hr_iconst (v := 1) G dM_tick_2 (by decide) ?_
  refine hr_sipush (v := 200) G dM_tick_3 (by decide) ?_
  refine hr_callSs G kM_90 sM_within (m_within_n _ _ _ _ _ x 1 200 hx) rfl rfl (Nat.le_of_ble_eq_true rfl) ⟨by rw [hR]; decide, by rw [hR]; decide⟩ ⟨by rw [hR]; decide, by rw [hR]; decide⟩ dM_tick_6 ?_
  refine hr_if_eq (tgt := 16) G dM_tick_9 (by decide) (fun _ => ?_) (fun h => absurd (by decide) h)
  refine hr_iconst (v := 1) G dM_tick_16 (by decide) ?_
  refine hr_put (x := 1) G fM_87 (hA.lt (show 0 < hw_n0 20 by decide)) rfl (rfl) rfl dM_tick_17 ?_
  refine hr_aload_n G dM_tick_20 rfl rfl ?_
  refine hr_get (v := .int 1) G fM_87 (hA.lt (show 0 < hw_n0 20 by decide)) rfl dM_tick_21 ?_
  refine hr_if_le (tgt := 29) G dM_tick_24 (by decide) (fun h => absurd h (by decide)) (fun _ => ?_)
  refine hr_iconst (v := 0) G dM_tick_27 (by decide) ?_
  exact hr_iret G hr (fun _ h => h) dM_tick_28 hw_pi
set_option maxRecDepth 100000 in
set_option maxHeartbeats 1000000 in
theorem m_M_tick_c (l : Launch) (B : hw_B) (nb : Nat → Nat) (S : hw_St) (z : Nat) (hA : hw_al nb) (hF : hw_Fx S) (ns nt : Nat) (hX : ix ns nt S) (x : Int32) (hx1 : ¬ x < 1) (hx2 : x ≤ 200) : hw_M l yM_tick cM_tick 5 (some .int) ({ frames := 2, cells := 0, slots := 0, locals := 60 }) B [.ref (hw_a B 20 0), .int x] nb S z (fun oc nb' S' z' => oc = .inl (some (.int (S 20 0 1 + x))) ∧ nb' = nb ∧ (S' = md_tk nt (hw_sv (hw_sv S 20 0 0 0) 20 0 1 (S 20 0 1 + x)) ns ∧ ix ns nt S' ∧ S' 20 0 1 = S 20 0 1 + x) ∧ z' = z) := by
  refine hw_M.of (by decide) (Nat.le_of_ble_eq_true rfl) ?_
  intro X fr hl hR G hr hnm
  obtain ⟨hM, nm, hms, hpo⟩ := hX
  have hM0 := hM
  obtain ⟨⟨hs1, hs2⟩, ⟨ht1, ht2⟩, hd, hlen, hus, hof, hwh, hpa, hkk⟩ := hM
  have po0 : ∀ k, md_po (hw_sv (hw_sv S 20 0 0 0) 20 0 1 (S 20 0 1 + x)) k = md_po S k := by
    intro k
    induction k with
    | zero => rfl
    | succ k ih => unfold md_po; rw [ih]; rfl
  refine hr_aload_n G dM_tick_0 rfl rfl ?_
  refine hr_iload_n G dM_tick_1 rfl rfl ?_
  refine hr_iconst (v := 1) G dM_tick_2 (by decide) ?_
  refine hr_sipush (v := 200) G dM_tick_3 (by decide) ?_
  refine hr_callSs G kM_90 sM_within (m_within_y _ _ _ _ _ x 1 200 hx1 hx2) rfl rfl (Nat.le_of_ble_eq_true rfl) ⟨by rw [hR]; decide, by rw [hR]; decide⟩ ⟨by rw [hR]; decide, by rw [hR]; decide⟩ dM_tick_6 ?_
  refine hr_if_eq (tgt := 16) G dM_tick_9 (by decide) (fun h => absurd h (by decide)) (fun _ => ?_)
  refine hr_iconst (v := 0) G dM_tick_12 (by decide) ?_
  refine hr_goto (tgt := 17) G dM_tick_13 (by decide) ?_
  refine hr_put (x := 0) G fM_87 (hA.lt (show 0 < hw_n0 20 by decide)) rfl (rfl) rfl dM_tick_17 ?_
  refine hr_aload_n G dM_tick_20 rfl rfl ?_
  refine hr_get (v := .int 0) G fM_87 (hA.lt (show 0 < hw_n0 20 by decide)) rfl dM_tick_21 ?_
  refine hr_if_le (tgt := 29) G dM_tick_24 (by decide) (fun _ => ?_) (fun h => absurd (by decide) h)
  refine hr_aload_n G dM_tick_29 rfl rfl ?_
  refine hr_dup G dM_tick_30 rfl ?_
  refine hr_get (v := .int (S 20 0 1)) G fM_97 (hA.lt (show 0 < hw_n0 20 by decide)) rfl dM_tick_31 ?_
  refine hr_iload_n G dM_tick_34 rfl rfl ?_
  refine hr_iadd G dM_tick_35 ?_
  refine hr_put (x := ((S 20 0 1) + x)) G fM_97 (hA.lt (show 0 < hw_n0 20 by decide)) rfl (rfl) rfl dM_tick_36 ?_
  refine hr_iconst (v := 0) G dM_tick_39 (by decide) ?_
  refine hr_istore_n (i := 2) G dM_tick_40 rfl (by decide) ?_
  refine hr_L (L' := [(0, .ref (hw_a B 20 0)), (2, .int (nI 0))]) (hw_s1 rfl (hw_s1 rfl (hw_s0))) ?_
  suffices H : ∀ (m k : Nat) (S1 : hw_St), S1 = md_tk nt (hw_sv (hw_sv S 20 0 0 0) 20 0 1 (S 20 0 1 + x)) k → ix ns nt S1 → hw_Fx S1 → S1 20 0 1 = S 20 0 1 + x → ns - k = m → k ≤ ns → hw_V X B fr nb S1 z 0 0 (hw_MQ X B fr (fun oc nb' S' z' => oc = .inl (some (.int (S 20 0 1 + x))) ∧ nb' = nb ∧ (S' = md_tk nt (hw_sv (hw_sv S 20 0 0 0) 20 0 1 (S 20 0 1 + x)) ns ∧ ix ns nt S' ∧ S' 20 0 1 = S 20 0 1 + x) ∧ z' = z) 0 0) 5 41 [(0, .ref (hw_a B 20 0)), (2, .int (nI k))] [] from H _ 0 _ rfl ⟨hM0, nm, hms, by rw [po0]; exact hpo⟩ ((hF.sv rfl).sv rfl) rfl rfl (Nat.zero_le _)
  clear hd hlen hus hof hwh hpa hkk hms hpo
  intro m
  induction m with
  | zero =>
    intro k S1 hS1 hX1 hF1 hck hm hk
    obtain rfl : k = ns := by omega
    have e12 : S1 20 0 12 = nI k := hX1.1.1.2
    refine hr_iload_n G dM_tick_41 rfl rfl ?_
    refine hr_aload_n G dM_tick_42 rfl rfl ?_
    refine hr_get (v := .int (S1 20 0 12)) G fM_104 (hA.lt (show 0 < hw_n0 20 by decide)) rfl dM_tick_43 ?_
    refine hr_icmp_ge (tgt := 154) G dM_tick_46 (by decide) (fun _ => ?_) (fun h => absurd (show S1 20 0 12 ≤ nI k by rw [e12]; exact nI_le (Nat.le_refl _) (by omega)) h)
    refine hr_aload_n G dM_tick_154 rfl rfl ?_
    refine hr_get (v := .int (S1 20 0 1)) G fM_97 (hA.lt (show 0 < hw_n0 20 by decide)) rfl dM_tick_155 ?_
    exact hr_iret G hr (fun _ h => h) dM_tick_158 ⟨by rw [hck], rfl, ⟨hS1, hX1, hck⟩, rfl⟩
  | succ m ih =>
    intro k S1 hS1 hX1 hF1 hck hm hk
    have e12 : S1 20 0 12 = nI ns := hX1.1.1.2
    obtain ⟨hM1, nm1, hms1, hpo1⟩ := hX1
    have hkn : k < ns := by omega
    have hT1 : md_tk nt (hw_sv (hw_sv S 20 0 0 0) 20 0 1 (S 20 0 1 + x)) (k + 1) = md_t1 nt S1 k := by rw [md_tk, ← hS1]
    have K148 : ∀ S2, S2 = md_t1 nt S1 k → ix ns nt S2 → hw_Fx S2 → S2 20 0 1 = S 20 0 1 + x → hw_V X B fr nb S2 z 0 0 (hw_MQ X B fr (fun oc nb' S' z' => oc = .inl (some (.int (S 20 0 1 + x))) ∧ nb' = nb ∧ (S' = md_tk nt (hw_sv (hw_sv S 20 0 0 0) 20 0 1 (S 20 0 1 + x)) ns ∧ ix ns nt S' ∧ S' 20 0 1 = S 20 0 1 + x) ∧ z' = z) 0 0) 5 148 [(0, .ref (hw_a B 20 0)), (2, .int (nI k))] [] := by
      intro S2 h1 h2 h3 h4
      refine hr_iinc (v := nI (k + 1)) G dM_tick_148 rfl (nI_succ k).symm (by decide) ?_
      refine hr_goto (tgt := 41) G dM_tick_151 (by decide) ?_
      refine hr_L (L' := [(0, .ref (hw_a B 20 0)), (2, .int (nI (k + 1)))]) (hw_s1 rfl (hw_s1 rfl (hw_s0))) ?_
      exact ih (k + 1) S2 (h1.trans hT1.symm) h2 h3 h4 (by omega) (by omega)
    refine hr_iload_n G dM_tick_41 rfl rfl ?_
    refine hr_aload_n G dM_tick_42 rfl rfl ?_
    refine hr_get (v := .int (S1 20 0 12)) G fM_104 (hA.lt (show 0 < hw_n0 20 by decide)) rfl dM_tick_43 ?_
    refine hr_icmp_ge (tgt := 154) G dM_tick_46 (by decide) (fun h => absurd h (show ¬ S1 20 0 12 ≤ nI k by rw [e12]; exact nI_ge (by omega) (by omega))) (fun _ => ?_)
    refine hr_aload_n G dM_tick_49 rfl rfl ?_
    refine hr_get (v := .int (S1 20 0 1)) G fM_97 (hA.lt (show 0 < hw_n0 20 by decide)) rfl dM_tick_50 ?_
    refine hr_aload_n G dM_tick_53 rfl rfl ?_
    refine hr_get (v := .ref (hw_a B 32 0)) G fM_44 (hA.lt (show 0 < hw_n0 20 by decide)) (hw_rfx hF1 (by decide) rfl (by decide)) dM_tick_54 ?_
    refine hr_iload_n G dM_tick_57 rfl rfl ?_
    refine hr_iald (n := k) (v := .int (S1 32 0 k)) G rfl (by decide) rfl (hA.lt (show 0 < hw_n0 32 by decide)) rfl (show k < 40 by omega) rfl dM_tick_58 ?_
    refine hr_isub G dM_tick_59 ?_
    refine hr_aload_n G dM_tick_60 rfl rfl ?_
    refine hr_get (v := .ref (hw_a B 33 0)) G fM_47 (hA.lt (show 0 < hw_n0 20 by decide)) (hw_rfx hF1 (by decide) rfl (by decide)) dM_tick_61 ?_
    refine hr_iload_n G dM_tick_64 rfl rfl ?_
    refine hr_zald (n := k) (v := .int (S1 33 0 k)) G rfl (by decide) rfl (hA.lt (show 0 < hw_n0 33 by decide)) rfl (show k < 40 by omega) rfl dM_tick_65 ?_
    refine hr_if_eq (tgt := 75) G dM_tick_66 (by decide) (fun h66 => ?_) (fun h66 => ?_)
    · skip
      refine hr_bipush (v := 30) G dM_tick_75 (by decide) ?_
      refine hr_icmp_le (tgt := 84) G dM_tick_77 (by decide) (fun h77 => ?_) (fun h77 => ?_)
      · skip
        refine hr_iconst (v := 0) G dM_tick_84 (by decide) ?_
        refine hr_istore_n (i := 3) G dM_tick_85 rfl (by decide) ?_
        refine hr_aload_n G dM_tick_86 rfl rfl ?_
        refine hr_get (v := .int (S1 20 0 1)) G fM_97 (hA.lt (show 0 < hw_n0 20 by decide)) rfl dM_tick_87 ?_
        refine hr_aload_n G dM_tick_90 rfl rfl ?_
        refine hr_get (v := .ref (hw_a B 31 0)) G fM_41 (hA.lt (show 0 < hw_n0 20 by decide)) (hw_rfx hF1 (by decide) rfl (by decide)) dM_tick_91 ?_
        refine hr_iload_n G dM_tick_94 rfl rfl ?_
        refine hr_iald (n := k) (v := .int (S1 31 0 k)) G rfl (by decide) rfl (hA.lt (show 0 < hw_n0 31 by decide)) rfl (show k < 40 by omega) rfl dM_tick_95 ?_
        refine hr_isub G dM_tick_96 ?_
        refine hr_aload_n G dM_tick_97 rfl rfl ?_
        refine hr_get (v := .ref (hw_a B 33 0)) G fM_47 (hA.lt (show 0 < hw_n0 20 by decide)) (hw_rfx hF1 (by decide) rfl (by decide)) dM_tick_98 ?_
        refine hr_iload_n G dM_tick_101 rfl rfl ?_
        refine hr_zald (n := k) (v := .int (S1 33 0 k)) G rfl (by decide) rfl (hA.lt (show 0 < hw_n0 33 by decide)) rfl (show k < 40 by omega) rfl dM_tick_102 ?_
        refine hr_if_eq (tgt := 112) G dM_tick_103 (by decide) (fun _ => ?_) (fun h => absurd h66 h)
        refine hr_bipush (v := 120) G dM_tick_112 (by decide) ?_
        refine hr_icmp_le (tgt := 121) G dM_tick_114 (by decide) (fun h114 => ?_) (fun h114 => ?_)
        · skip
          refine hr_iconst (v := 0) G dM_tick_121 (by decide) ?_
          refine hr_istore (i := 4) G dM_tick_122 (by decide) ?_
          refine hr_aload_n G dM_tick_124 rfl rfl ?_
          refine hr_get (v := .ref (hw_a B 34 0)) G fM_50 (hA.lt (show 0 < hw_n0 20 by decide)) (hw_rfx hF1 (by decide) rfl (by decide)) dM_tick_125 ?_
          refine hr_iload_n G dM_tick_128 rfl rfl ?_
          refine hr_zald (n := k) (v := .int (S1 34 0 k)) G rfl (by decide) rfl (hA.lt (show 0 < hw_n0 34 by decide)) rfl (show k < 40 by omega) rfl dM_tick_129 ?_
          refine hr_if_ne (tgt := 148) G dM_tick_130 (by decide) (fun h130 => ?_) (fun h130 => ?_)
          · skip
            refine hr_L (L' := [(0, .ref (hw_a B 20 0)), (2, .int (nI k))]) (hw_s1 rfl (hw_s1 rfl (hw_s0))) ?_
            exact K148 S1 (by simp only [md_t1, md_id, md_ol, h66, h77, h114, h130, ↓reduceIte, ite_self, show ¬ (1 : Int32) = 0 from by decide]) ⟨hM1, nm1, hms1, hpo1⟩ hF1 hck
          · skip
            refine hr_iload_n G dM_tick_133 rfl rfl ?_
            refine hr_if_ne (tgt := 142) G dM_tick_134 (by decide) (fun h => absurd (by decide) h) (fun _ => ?_)
            refine hr_iload G dM_tick_137 rfl ?_
            refine hr_if_eq (tgt := 148) G dM_tick_139 (by decide) (fun _ => ?_) (fun h => absurd (by decide) h)
            refine hr_L (L' := [(0, .ref (hw_a B 20 0)), (2, .int (nI k))]) (hw_s1 rfl (hw_s1 rfl (hw_s0))) ?_
            exact K148 S1 (by simp only [md_t1, md_id, md_ol, h66, h77, h114, h130, ↓reduceIte, ite_self, show ¬ (1 : Int32) = 0 from by decide]) ⟨hM1, nm1, hms1, hpo1⟩ hF1 hck
        · skip
          refine hr_iconst (v := 1) G dM_tick_117 (by decide) ?_
          refine hr_goto (tgt := 122) G dM_tick_118 (by decide) ?_
          refine hr_istore (i := 4) G dM_tick_122 (by decide) ?_
          refine hr_aload_n G dM_tick_124 rfl rfl ?_
          refine hr_get (v := .ref (hw_a B 34 0)) G fM_50 (hA.lt (show 0 < hw_n0 20 by decide)) (hw_rfx hF1 (by decide) rfl (by decide)) dM_tick_125 ?_
          refine hr_iload_n G dM_tick_128 rfl rfl ?_
          refine hr_zald (n := k) (v := .int (S1 34 0 k)) G rfl (by decide) rfl (hA.lt (show 0 < hw_n0 34 by decide)) rfl (show k < 40 by omega) rfl dM_tick_129 ?_
          refine hr_if_ne (tgt := 148) G dM_tick_130 (by decide) (fun h130 => ?_) (fun h130 => ?_)
          · skip
            refine hr_L (L' := [(0, .ref (hw_a B 20 0)), (2, .int (nI k))]) (hw_s1 rfl (hw_s1 rfl (hw_s0))) ?_
            exact K148 S1 (by simp only [md_t1, md_id, md_ol, h66, h77, h114, h130, ↓reduceIte, ite_self, show ¬ (1 : Int32) = 0 from by decide]) ⟨hM1, nm1, hms1, hpo1⟩ hF1 hck
          · skip
            refine hr_iload_n G dM_tick_133 rfl rfl ?_
            refine hr_if_ne (tgt := 142) G dM_tick_134 (by decide) (fun h => absurd (by decide) h) (fun _ => ?_)
            refine hr_iload G dM_tick_137 rfl ?_
            refine hr_if_eq (tgt := 148) G dM_tick_139 (by decide) (fun h => absurd h (by decide)) (fun _ => ?_)
            refine hr_aload_n G dM_tick_142 rfl rfl ?_
            refine hr_iload_n G dM_tick_143 rfl rfl ?_
            have he : S1 34 0 k = 0 := h130
            have hcx : nm1 + md_co k S1 nt ≤ 200 := by have := md_po_end hM1 hkn he nt (Nat.le_refl _); omega
            refine hr_callV (k := 20) (i := 0) (ci := 5) (T := FM) (N := 31) G rfl rfl (hA.lt (show 0 < hw_n0 20 by decide)) kM_166 iM_ends vM_ends (m_M_ends _ _ _ S1 _ hA hF1 ns nt hM1 k nm1 hkn hms1 hcx) rfl rfl (Nat.le_of_ble_eq_true rfl) ⟨by rw [hR]; decide, by rw [hR]; decide⟩ ⟨by rw [hR]; decide, by rw [hR]; decide⟩ dM_tick_144 (fun r nb2 S2 z2 hp => ?_)
            obtain ⟨⟨j, hj1, hr1, hj2⟩, rfl, rfl, rfl⟩ := hp
            obtain rfl := Sum.inl.inj hr1
            refine hr_pop G dM_tick_147 rfl ?_
            refine hr_L (L' := [(0, .ref (hw_a B 20 0)), (2, .int (nI k))]) (hw_s1 rfl (hw_s1 rfl (hw_s0))) ?_
            exact K148 _ (by simp only [md_t1, md_id, md_ol, h66, h77, h114, h130, ↓reduceIte, ite_self, show ¬ (1 : Int32) = 0 from by decide]) (ix_end hM1 hkn he hpo1 hj1 hj2) ((md_endk_r nt).fx (hF1.sv rfl)) ((md_endk_r nt 20 0 1 (by decide) (by decide)).trans hck)
      · skip
        refine hr_iconst (v := 1) G dM_tick_80 (by decide) ?_
        refine hr_goto (tgt := 85) G dM_tick_81 (by decide) ?_
        refine hr_istore_n (i := 3) G dM_tick_85 rfl (by decide) ?_
        refine hr_aload_n G dM_tick_86 rfl rfl ?_
        refine hr_get (v := .int (S1 20 0 1)) G fM_97 (hA.lt (show 0 < hw_n0 20 by decide)) rfl dM_tick_87 ?_
        refine hr_aload_n G dM_tick_90 rfl rfl ?_
        refine hr_get (v := .ref (hw_a B 31 0)) G fM_41 (hA.lt (show 0 < hw_n0 20 by decide)) (hw_rfx hF1 (by decide) rfl (by decide)) dM_tick_91 ?_
        refine hr_iload_n G dM_tick_94 rfl rfl ?_
        refine hr_iald (n := k) (v := .int (S1 31 0 k)) G rfl (by decide) rfl (hA.lt (show 0 < hw_n0 31 by decide)) rfl (show k < 40 by omega) rfl dM_tick_95 ?_
        refine hr_isub G dM_tick_96 ?_
        refine hr_aload_n G dM_tick_97 rfl rfl ?_
        refine hr_get (v := .ref (hw_a B 33 0)) G fM_47 (hA.lt (show 0 < hw_n0 20 by decide)) (hw_rfx hF1 (by decide) rfl (by decide)) dM_tick_98 ?_
        refine hr_iload_n G dM_tick_101 rfl rfl ?_
        refine hr_zald (n := k) (v := .int (S1 33 0 k)) G rfl (by decide) rfl (hA.lt (show 0 < hw_n0 33 by decide)) rfl (show k < 40 by omega) rfl dM_tick_102 ?_
        refine hr_if_eq (tgt := 112) G dM_tick_103 (by decide) (fun _ => ?_) (fun h => absurd h66 h)
        refine hr_bipush (v := 120) G dM_tick_112 (by decide) ?_
        refine hr_icmp_le (tgt := 121) G dM_tick_114 (by decide) (fun h114 => ?_) (fun h114 => ?_)
        · skip
          refine hr_iconst (v := 0) G dM_tick_121 (by decide) ?_
          refine hr_istore (i := 4) G dM_tick_122 (by decide) ?_
          refine hr_aload_n G dM_tick_124 rfl rfl ?_
          refine hr_get (v := .ref (hw_a B 34 0)) G fM_50 (hA.lt (show 0 < hw_n0 20 by decide)) (hw_rfx hF1 (by decide) rfl (by decide)) dM_tick_125 ?_
          refine hr_iload_n G dM_tick_128 rfl rfl ?_
          refine hr_zald (n := k) (v := .int (S1 34 0 k)) G rfl (by decide) rfl (hA.lt (show 0 < hw_n0 34 by decide)) rfl (show k < 40 by omega) rfl dM_tick_129 ?_
          refine hr_if_ne (tgt := 148) G dM_tick_130 (by decide) (fun h130 => ?_) (fun h130 => ?_)
          · skip
            refine hr_L (L' := [(0, .ref (hw_a B 20 0)), (2, .int (nI k))]) (hw_s1 rfl (hw_s1 rfl (hw_s0))) ?_
            exact K148 S1 (by simp only [md_t1, md_id, md_ol, h66, h77, h114, h130, ↓reduceIte, ite_self, show ¬ (1 : Int32) = 0 from by decide]) ⟨hM1, nm1, hms1, hpo1⟩ hF1 hck
          · skip
            refine hr_iload_n G dM_tick_133 rfl rfl ?_
            refine hr_if_ne (tgt := 142) G dM_tick_134 (by decide) (fun _ => ?_) (fun h => absurd h (by decide))
            refine hr_aload_n G dM_tick_142 rfl rfl ?_
            refine hr_iload_n G dM_tick_143 rfl rfl ?_
            have he : S1 34 0 k = 0 := h130
            have hcx : nm1 + md_co k S1 nt ≤ 200 := by have := md_po_end hM1 hkn he nt (Nat.le_refl _); omega
            refine hr_callV (k := 20) (i := 0) (ci := 5) (T := FM) (N := 31) G rfl rfl (hA.lt (show 0 < hw_n0 20 by decide)) kM_166 iM_ends vM_ends (m_M_ends _ _ _ S1 _ hA hF1 ns nt hM1 k nm1 hkn hms1 hcx) rfl rfl (Nat.le_of_ble_eq_true rfl) ⟨by rw [hR]; decide, by rw [hR]; decide⟩ ⟨by rw [hR]; decide, by rw [hR]; decide⟩ dM_tick_144 (fun r nb2 S2 z2 hp => ?_)
            obtain ⟨⟨j, hj1, hr1, hj2⟩, rfl, rfl, rfl⟩ := hp
            obtain rfl := Sum.inl.inj hr1
            refine hr_pop G dM_tick_147 rfl ?_
            refine hr_L (L' := [(0, .ref (hw_a B 20 0)), (2, .int (nI k))]) (hw_s1 rfl (hw_s1 rfl (hw_s0))) ?_
            exact K148 _ (by simp only [md_t1, md_id, md_ol, h66, h77, h114, h130, ↓reduceIte, ite_self, show ¬ (1 : Int32) = 0 from by decide]) (ix_end hM1 hkn he hpo1 hj1 hj2) ((md_endk_r nt).fx (hF1.sv rfl)) ((md_endk_r nt 20 0 1 (by decide) (by decide)).trans hck)
        · skip
          refine hr_iconst (v := 1) G dM_tick_117 (by decide) ?_
          refine hr_goto (tgt := 122) G dM_tick_118 (by decide) ?_
          refine hr_istore (i := 4) G dM_tick_122 (by decide) ?_
          refine hr_aload_n G dM_tick_124 rfl rfl ?_
          refine hr_get (v := .ref (hw_a B 34 0)) G fM_50 (hA.lt (show 0 < hw_n0 20 by decide)) (hw_rfx hF1 (by decide) rfl (by decide)) dM_tick_125 ?_
          refine hr_iload_n G dM_tick_128 rfl rfl ?_
          refine hr_zald (n := k) (v := .int (S1 34 0 k)) G rfl (by decide) rfl (hA.lt (show 0 < hw_n0 34 by decide)) rfl (show k < 40 by omega) rfl dM_tick_129 ?_
          refine hr_if_ne (tgt := 148) G dM_tick_130 (by decide) (fun h130 => ?_) (fun h130 => ?_)
          · skip
            refine hr_L (L' := [(0, .ref (hw_a B 20 0)), (2, .int (nI k))]) (hw_s1 rfl (hw_s1 rfl (hw_s0))) ?_
            exact K148 S1 (by simp only [md_t1, md_id, md_ol, h66, h77, h114, h130, ↓reduceIte, ite_self, show ¬ (1 : Int32) = 0 from by decide]) ⟨hM1, nm1, hms1, hpo1⟩ hF1 hck
          · skip
            refine hr_iload_n G dM_tick_133 rfl rfl ?_
            refine hr_if_ne (tgt := 142) G dM_tick_134 (by decide) (fun _ => ?_) (fun h => absurd h (by decide))
            refine hr_aload_n G dM_tick_142 rfl rfl ?_
            refine hr_iload_n G dM_tick_143 rfl rfl ?_
            have he : S1 34 0 k = 0 := h130
            have hcx : nm1 + md_co k S1 nt ≤ 200 := by have := md_po_end hM1 hkn he nt (Nat.le_refl _); omega
            refine hr_callV (k := 20) (i := 0) (ci := 5) (T := FM) (N := 31) G rfl rfl (hA.lt (show 0 < hw_n0 20 by decide)) kM_166 iM_ends vM_ends (m_M_ends _ _ _ S1 _ hA hF1 ns nt hM1 k nm1 hkn hms1 hcx) rfl rfl (Nat.le_of_ble_eq_true rfl) ⟨by rw [hR]; decide, by rw [hR]; decide⟩ ⟨by rw [hR]; decide, by rw [hR]; decide⟩ dM_tick_144 (fun r nb2 S2 z2 hp => ?_)
            obtain ⟨⟨j, hj1, hr1, hj2⟩, rfl, rfl, rfl⟩ := hp
            obtain rfl := Sum.inl.inj hr1
            refine hr_pop G dM_tick_147 rfl ?_
            refine hr_L (L' := [(0, .ref (hw_a B 20 0)), (2, .int (nI k))]) (hw_s1 rfl (hw_s1 rfl (hw_s0))) ?_
            exact K148 _ (by simp only [md_t1, md_id, md_ol, h66, h77, h114, h130, ↓reduceIte, ite_self, show ¬ (1 : Int32) = 0 from by decide]) (ix_end hM1 hkn he hpo1 hj1 hj2) ((md_endk_r nt).fx (hF1.sv rfl)) ((md_endk_r nt 20 0 1 (by decide) (by decide)).trans hck)
    · skip
      refine hr_sipush (v := 150) G dM_tick_69 (by decide) ?_
      refine hr_goto (tgt := 77) G dM_tick_72 (by decide) ?_
      refine hr_icmp_le (tgt := 84) G dM_tick_77 (by decide) (fun h77 => ?_) (fun h77 => ?_)
      · skip
        refine hr_iconst (v := 0) G dM_tick_84 (by decide) ?_
        refine hr_istore_n (i := 3) G dM_tick_85 rfl (by decide) ?_
        refine hr_aload_n G dM_tick_86 rfl rfl ?_
        refine hr_get (v := .int (S1 20 0 1)) G fM_97 (hA.lt (show 0 < hw_n0 20 by decide)) rfl dM_tick_87 ?_
        refine hr_aload_n G dM_tick_90 rfl rfl ?_
        refine hr_get (v := .ref (hw_a B 31 0)) G fM_41 (hA.lt (show 0 < hw_n0 20 by decide)) (hw_rfx hF1 (by decide) rfl (by decide)) dM_tick_91 ?_
        refine hr_iload_n G dM_tick_94 rfl rfl ?_
        refine hr_iald (n := k) (v := .int (S1 31 0 k)) G rfl (by decide) rfl (hA.lt (show 0 < hw_n0 31 by decide)) rfl (show k < 40 by omega) rfl dM_tick_95 ?_
        refine hr_isub G dM_tick_96 ?_
        refine hr_aload_n G dM_tick_97 rfl rfl ?_
        refine hr_get (v := .ref (hw_a B 33 0)) G fM_47 (hA.lt (show 0 < hw_n0 20 by decide)) (hw_rfx hF1 (by decide) rfl (by decide)) dM_tick_98 ?_
        refine hr_iload_n G dM_tick_101 rfl rfl ?_
        refine hr_zald (n := k) (v := .int (S1 33 0 k)) G rfl (by decide) rfl (hA.lt (show 0 < hw_n0 33 by decide)) rfl (show k < 40 by omega) rfl dM_tick_102 ?_
        refine hr_if_eq (tgt := 112) G dM_tick_103 (by decide) (fun h => absurd h h66) (fun _ => ?_)
        refine hr_sipush (v := 400) G dM_tick_106 (by decide) ?_
        refine hr_goto (tgt := 114) G dM_tick_109 (by decide) ?_
        refine hr_icmp_le (tgt := 121) G dM_tick_114 (by decide) (fun h114 => ?_) (fun h114 => ?_)
        · skip
          refine hr_iconst (v := 0) G dM_tick_121 (by decide) ?_
          refine hr_istore (i := 4) G dM_tick_122 (by decide) ?_
          refine hr_aload_n G dM_tick_124 rfl rfl ?_
          refine hr_get (v := .ref (hw_a B 34 0)) G fM_50 (hA.lt (show 0 < hw_n0 20 by decide)) (hw_rfx hF1 (by decide) rfl (by decide)) dM_tick_125 ?_
          refine hr_iload_n G dM_tick_128 rfl rfl ?_
          refine hr_zald (n := k) (v := .int (S1 34 0 k)) G rfl (by decide) rfl (hA.lt (show 0 < hw_n0 34 by decide)) rfl (show k < 40 by omega) rfl dM_tick_129 ?_
          refine hr_if_ne (tgt := 148) G dM_tick_130 (by decide) (fun h130 => ?_) (fun h130 => ?_)
          · skip
            refine hr_L (L' := [(0, .ref (hw_a B 20 0)), (2, .int (nI k))]) (hw_s1 rfl (hw_s1 rfl (hw_s0))) ?_
            exact K148 S1 (by simp only [md_t1, md_id, md_ol, h66, h77, h114, h130, ↓reduceIte, ite_self, show ¬ (1 : Int32) = 0 from by decide]) ⟨hM1, nm1, hms1, hpo1⟩ hF1 hck
          · skip
            refine hr_iload_n G dM_tick_133 rfl rfl ?_
            refine hr_if_ne (tgt := 142) G dM_tick_134 (by decide) (fun h => absurd (by decide) h) (fun _ => ?_)
            refine hr_iload G dM_tick_137 rfl ?_
            refine hr_if_eq (tgt := 148) G dM_tick_139 (by decide) (fun _ => ?_) (fun h => absurd (by decide) h)
            refine hr_L (L' := [(0, .ref (hw_a B 20 0)), (2, .int (nI k))]) (hw_s1 rfl (hw_s1 rfl (hw_s0))) ?_
            exact K148 S1 (by simp only [md_t1, md_id, md_ol, h66, h77, h114, h130, ↓reduceIte, ite_self, show ¬ (1 : Int32) = 0 from by decide]) ⟨hM1, nm1, hms1, hpo1⟩ hF1 hck
        · skip
          refine hr_iconst (v := 1) G dM_tick_117 (by decide) ?_
          refine hr_goto (tgt := 122) G dM_tick_118 (by decide) ?_
          refine hr_istore (i := 4) G dM_tick_122 (by decide) ?_
          refine hr_aload_n G dM_tick_124 rfl rfl ?_
          refine hr_get (v := .ref (hw_a B 34 0)) G fM_50 (hA.lt (show 0 < hw_n0 20 by decide)) (hw_rfx hF1 (by decide) rfl (by decide)) dM_tick_125 ?_
          refine hr_iload_n G dM_tick_128 rfl rfl ?_
          refine hr_zald (n := k) (v := .int (S1 34 0 k)) G rfl (by decide) rfl (hA.lt (show 0 < hw_n0 34 by decide)) rfl (show k < 40 by omega) rfl dM_tick_129 ?_
          refine hr_if_ne (tgt := 148) G dM_tick_130 (by decide) (fun h130 => ?_) (fun h130 => ?_)
          · skip
            refine hr_L (L' := [(0, .ref (hw_a B 20 0)), (2, .int (nI k))]) (hw_s1 rfl (hw_s1 rfl (hw_s0))) ?_
            exact K148 S1 (by simp only [md_t1, md_id, md_ol, h66, h77, h114, h130, ↓reduceIte, ite_self, show ¬ (1 : Int32) = 0 from by decide]) ⟨hM1, nm1, hms1, hpo1⟩ hF1 hck
          · skip
            refine hr_iload_n G dM_tick_133 rfl rfl ?_
            refine hr_if_ne (tgt := 142) G dM_tick_134 (by decide) (fun h => absurd (by decide) h) (fun _ => ?_)
            refine hr_iload G dM_tick_137 rfl ?_
            refine hr_if_eq (tgt := 148) G dM_tick_139 (by decide) (fun h => absurd h (by decide)) (fun _ => ?_)
            refine hr_aload_n G dM_tick_142 rfl rfl ?_
            refine hr_iload_n G dM_tick_143 rfl rfl ?_
            have he : S1 34 0 k = 0 := h130
            have hcx : nm1 + md_co k S1 nt ≤ 200 := by have := md_po_end hM1 hkn he nt (Nat.le_refl _); omega
            refine hr_callV (k := 20) (i := 0) (ci := 5) (T := FM) (N := 31) G rfl rfl (hA.lt (show 0 < hw_n0 20 by decide)) kM_166 iM_ends vM_ends (m_M_ends _ _ _ S1 _ hA hF1 ns nt hM1 k nm1 hkn hms1 hcx) rfl rfl (Nat.le_of_ble_eq_true rfl) ⟨by rw [hR]; decide, by rw [hR]; decide⟩ ⟨by rw [hR]; decide, by rw [hR]; decide⟩ dM_tick_144 (fun r nb2 S2 z2 hp => ?_)
            obtain ⟨⟨j, hj1, hr1, hj2⟩, rfl, rfl, rfl⟩ := hp
            obtain rfl := Sum.inl.inj hr1
            refine hr_pop G dM_tick_147 rfl ?_
            refine hr_L (L' := [(0, .ref (hw_a B 20 0)), (2, .int (nI k))]) (hw_s1 rfl (hw_s1 rfl (hw_s0))) ?_
            exact K148 _ (by simp only [md_t1, md_id, md_ol, h66, h77, h114, h130, ↓reduceIte, ite_self, show ¬ (1 : Int32) = 0 from by decide]) (ix_end hM1 hkn he hpo1 hj1 hj2) ((md_endk_r nt).fx (hF1.sv rfl)) ((md_endk_r nt 20 0 1 (by decide) (by decide)).trans hck)
      · skip
        refine hr_iconst (v := 1) G dM_tick_80 (by decide) ?_
        refine hr_goto (tgt := 85) G dM_tick_81 (by decide) ?_
        refine hr_istore_n (i := 3) G dM_tick_85 rfl (by decide) ?_
        refine hr_aload_n G dM_tick_86 rfl rfl ?_
        refine hr_get (v := .int (S1 20 0 1)) G fM_97 (hA.lt (show 0 < hw_n0 20 by decide)) rfl dM_tick_87 ?_
        refine hr_aload_n G dM_tick_90 rfl rfl ?_
        refine hr_get (v := .ref (hw_a B 31 0)) G fM_41 (hA.lt (show 0 < hw_n0 20 by decide)) (hw_rfx hF1 (by decide) rfl (by decide)) dM_tick_91 ?_
        refine hr_iload_n G dM_tick_94 rfl rfl ?_
        refine hr_iald (n := k) (v := .int (S1 31 0 k)) G rfl (by decide) rfl (hA.lt (show 0 < hw_n0 31 by decide)) rfl (show k < 40 by omega) rfl dM_tick_95 ?_
        refine hr_isub G dM_tick_96 ?_
        refine hr_aload_n G dM_tick_97 rfl rfl ?_
        refine hr_get (v := .ref (hw_a B 33 0)) G fM_47 (hA.lt (show 0 < hw_n0 20 by decide)) (hw_rfx hF1 (by decide) rfl (by decide)) dM_tick_98 ?_
        refine hr_iload_n G dM_tick_101 rfl rfl ?_
        refine hr_zald (n := k) (v := .int (S1 33 0 k)) G rfl (by decide) rfl (hA.lt (show 0 < hw_n0 33 by decide)) rfl (show k < 40 by omega) rfl dM_tick_102 ?_
        refine hr_if_eq (tgt := 112) G dM_tick_103 (by decide) (fun h => absurd h h66) (fun _ => ?_)
        refine hr_sipush (v := 400) G dM_tick_106 (by decide) ?_
        refine hr_goto (tgt := 114) G dM_tick_109 (by decide) ?_
        refine hr_icmp_le (tgt := 121) G dM_tick_114 (by decide) (fun h114 => ?_) (fun h114 => ?_)
        · skip
          refine hr_iconst (v := 0) G dM_tick_121 (by decide) ?_
          refine hr_istore (i := 4) G dM_tick_122 (by decide) ?_
          refine hr_aload_n G dM_tick_124 rfl rfl ?_
          refine hr_get (v := .ref (hw_a B 34 0)) G fM_50 (hA.lt (show 0 < hw_n0 20 by decide)) (hw_rfx hF1 (by decide) rfl (by decide)) dM_tick_125 ?_
          refine hr_iload_n G dM_tick_128 rfl rfl ?_
          refine hr_zald (n := k) (v := .int (S1 34 0 k)) G rfl (by decide) rfl (hA.lt (show 0 < hw_n0 34 by decide)) rfl (show k < 40 by omega) rfl dM_tick_129 ?_
          refine hr_if_ne (tgt := 148) G dM_tick_130 (by decide) (fun h130 => ?_) (fun h130 => ?_)
          · skip
            refine hr_L (L' := [(0, .ref (hw_a B 20 0)), (2, .int (nI k))]) (hw_s1 rfl (hw_s1 rfl (hw_s0))) ?_
            exact K148 S1 (by simp only [md_t1, md_id, md_ol, h66, h77, h114, h130, ↓reduceIte, ite_self, show ¬ (1 : Int32) = 0 from by decide]) ⟨hM1, nm1, hms1, hpo1⟩ hF1 hck
          · skip
            refine hr_iload_n G dM_tick_133 rfl rfl ?_
            refine hr_if_ne (tgt := 142) G dM_tick_134 (by decide) (fun _ => ?_) (fun h => absurd h (by decide))
            refine hr_aload_n G dM_tick_142 rfl rfl ?_
            refine hr_iload_n G dM_tick_143 rfl rfl ?_
            have he : S1 34 0 k = 0 := h130
            have hcx : nm1 + md_co k S1 nt ≤ 200 := by have := md_po_end hM1 hkn he nt (Nat.le_refl _); omega
            refine hr_callV (k := 20) (i := 0) (ci := 5) (T := FM) (N := 31) G rfl rfl (hA.lt (show 0 < hw_n0 20 by decide)) kM_166 iM_ends vM_ends (m_M_ends _ _ _ S1 _ hA hF1 ns nt hM1 k nm1 hkn hms1 hcx) rfl rfl (Nat.le_of_ble_eq_true rfl) ⟨by rw [hR]; decide, by rw [hR]; decide⟩ ⟨by rw [hR]; decide, by rw [hR]; decide⟩ dM_tick_144 (fun r nb2 S2 z2 hp => ?_)
            obtain ⟨⟨j, hj1, hr1, hj2⟩, rfl, rfl, rfl⟩ := hp
            obtain rfl := Sum.inl.inj hr1
            refine hr_pop G dM_tick_147 rfl ?_
            refine hr_L (L' := [(0, .ref (hw_a B 20 0)), (2, .int (nI k))]) (hw_s1 rfl (hw_s1 rfl (hw_s0))) ?_
            exact K148 _ (by simp only [md_t1, md_id, md_ol, h66, h77, h114, h130, ↓reduceIte, ite_self, show ¬ (1 : Int32) = 0 from by decide]) (ix_end hM1 hkn he hpo1 hj1 hj2) ((md_endk_r nt).fx (hF1.sv rfl)) ((md_endk_r nt 20 0 1 (by decide) (by decide)).trans hck)
        · skip
          refine hr_iconst (v := 1) G dM_tick_117 (by decide) ?_
          refine hr_goto (tgt := 122) G dM_tick_118 (by decide) ?_
          refine hr_istore (i := 4) G dM_tick_122 (by decide) ?_
          refine hr_aload_n G dM_tick_124 rfl rfl ?_
          refine hr_get (v := .ref (hw_a B 34 0)) G fM_50 (hA.lt (show 0 < hw_n0 20 by decide)) (hw_rfx hF1 (by decide) rfl (by decide)) dM_tick_125 ?_
          refine hr_iload_n G dM_tick_128 rfl rfl ?_
          refine hr_zald (n := k) (v := .int (S1 34 0 k)) G rfl (by decide) rfl (hA.lt (show 0 < hw_n0 34 by decide)) rfl (show k < 40 by omega) rfl dM_tick_129 ?_
          refine hr_if_ne (tgt := 148) G dM_tick_130 (by decide) (fun h130 => ?_) (fun h130 => ?_)
          · skip
            refine hr_L (L' := [(0, .ref (hw_a B 20 0)), (2, .int (nI k))]) (hw_s1 rfl (hw_s1 rfl (hw_s0))) ?_
            exact K148 S1 (by simp only [md_t1, md_id, md_ol, h66, h77, h114, h130, ↓reduceIte, ite_self, show ¬ (1 : Int32) = 0 from by decide]) ⟨hM1, nm1, hms1, hpo1⟩ hF1 hck
          · skip
            refine hr_iload_n G dM_tick_133 rfl rfl ?_
            refine hr_if_ne (tgt := 142) G dM_tick_134 (by decide) (fun _ => ?_) (fun h => absurd h (by decide))
            refine hr_aload_n G dM_tick_142 rfl rfl ?_
            refine hr_iload_n G dM_tick_143 rfl rfl ?_
            have he : S1 34 0 k = 0 := h130
            have hcx : nm1 + md_co k S1 nt ≤ 200 := by have := md_po_end hM1 hkn he nt (Nat.le_refl _); omega
            refine hr_callV (k := 20) (i := 0) (ci := 5) (T := FM) (N := 31) G rfl rfl (hA.lt (show 0 < hw_n0 20 by decide)) kM_166 iM_ends vM_ends (m_M_ends _ _ _ S1 _ hA hF1 ns nt hM1 k nm1 hkn hms1 hcx) rfl rfl (Nat.le_of_ble_eq_true rfl) ⟨by rw [hR]; decide, by rw [hR]; decide⟩ ⟨by rw [hR]; decide, by rw [hR]; decide⟩ dM_tick_144 (fun r nb2 S2 z2 hp => ?_)
            obtain ⟨⟨j, hj1, hr1, hj2⟩, rfl, rfl, rfl⟩ := hp
            obtain rfl := Sum.inl.inj hr1
            refine hr_pop G dM_tick_147 rfl ?_
            refine hr_L (L' := [(0, .ref (hw_a B 20 0)), (2, .int (nI k))]) (hw_s1 rfl (hw_s1 rfl (hw_s0))) ?_
            exact K148 _ (by simp only [md_t1, md_id, md_ol, h66, h77, h114, h130, ↓reduceIte, ite_self, show ¬ (1 : Int32) = 0 from by decide]) (ix_end hM1 hkn he hpo1 hj1 hj2) ((md_endk_r nt).fx (hF1.sv rfl)) ((md_endk_r nt 20 0 1 (by decide) (by decide)).trans hck)
