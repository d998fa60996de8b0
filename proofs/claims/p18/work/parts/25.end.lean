/-! The end of a session. -/
theorem hr_acmpc {X : hw_X} {B : hw_B} {fr : Nat → Prop} {nb : Nat → Nat} {S : hw_St} {z c sl : Nat} {Q : State → Prop} {cc : ByteArray} {nL pc : Nat} {own : String} {L : List (Nat × Value)} {st : List Value} (G : hw_G X B fr cc nL own) {k i i' : Nat} {off : Int} {tgt : Nat} (hi : i < nb k) (hi' : i' < nb k) (d : decode cc pc = .ok (.if_acmp .ne off, 3)) (ht : (pc : Int) + off = (tgt : Int)) (kt : ¬ i = i' → hw_V X B fr nb S z c sl Q nL tgt L st) (kf : i = i' → hw_V X B fr nb S z c sl Q nL (pc + 3) L st) : hw_V X B fr nb S z c sl Q nL pc L (.ref (hw_a B k i') :: .ref (hw_a B k i) :: st) :=
  fun ls H locs hl hP hz hf => hr_acmp_ne G d ht (fun h => kt (fun e => h (by rw [e]))) (fun h => kf (hP.2.2 k i k i' hi hi' h).2) ls H locs hl hP hz hf
theorem hr_ldcSW {X : hw_X} {B : hw_B} {fr : Nat → Prop} {nb : Nat → Nat} {S : hw_St} {z c sl : Nat} {Q : State → Prop} {cc : ByteArray} {nL pc : Nat} {own : String} {L : List (Nat × Value)} {st : List Value} (G : hw_G X B fr cc nL own) {index si : Nat} {tx : String} (hq : hw_strs[si]? = some (own, index, tx)) (d : decode cc pc = .ok (.ldc_w index, 3)) (K : hw_V X B fr nb S z c sl Q nL (pc + 3) L (.ref (hw_a B 60 si) :: st)) : hw_V X B fr nb S z c sl Q nL pc L st := by
  intro ls H locs hl hP hz hf T hT XX
  obtain ⟨t, a1, b1⟩ := K ls H locs hl hP hz hf T hT XX
  have hZ := (hw_strK G hq).1
  exact ⟨t, XX.ldcStringW G.1 G.2.2.2.1 (text := tx) (a := hw_a B 60 si) hZ.1 hZ.2 (g := F0 (xm X) pc ls st) rfl (by rw [G.2.1]; exact d) t a1, b1⟩
/-- the messages have changed, nothing else -/
def ms_r (S S' : hw_St) : Prop := (∀ k i j, ¬ k = 12 → ¬ (k = 0 ∧ j = 10) → S' k i j = S k i j) ∧ ∃ m, m ≤ 150 ∧ S' 0 0 10 = nI m
theorem ms_r.tr {S S1 S2 : hw_St} (h1 : ms_r S S1) (h2 : ms_r S1 S2) : ms_r S S2 := ⟨fun k i j a b => (h2.1 k i j a b).trans (h1.1 k i j a b), h2.2⟩
theorem ms_r.fx {S S' : hw_St} (h : ms_r S S') (hF : hw_Fx S) : hw_Fx S' := fun k i j v hi hv => by
  rw [h.1 k i j (fun e => by rw [e] at hv; exact nomatch hv) (fun e => by rw [e.1, e.2] at hv; exact nomatch hv)]
  exact hF k i j v hi hv
theorem hs_tell_r {S : hw_St} {i w m : Nat} (hm : m ≤ 150) (hmc : S 0 0 10 = nI m) : ms_r S (hs_tell S i w m) := by
  have h0 : ms_r S S := ⟨fun _ _ _ _ _ => rfl, m, hm, hmc⟩
  unfold hs_tell
  split
  · split
    · exact h0
    · split
      · exact h0
      · rename_i h
        have hlt : m < 150 := Nat.not_le.mp fun q => h (by rw [hmc]; exact nI_le (a := 150) q (by omega))
        refine ⟨fun k i j a b => ?_, m + 1, hlt, by rw [hw_sv_same, hmc, nI_succ]⟩
        unfold hw_sv
        rw [if_neg (fun e => b ⟨e.1, e.2.2⟩), if_neg (fun e => a e.1)]
  · exact h0
def hs_endk (s : Nat) (S : hw_St) : Nat → hw_St
  | 0 => S
  | k + 1 => if S 11 k 2 = nI s then hs_tell (hs_endk s S k) k (S 11 k 3).toNatClampNeg (hs_endk s S k 0 0 10).toNatClampNeg else hs_endk s S k
theorem hs_endk_r {s : Nat} {S : hw_St} (h : ∃ m, m ≤ 150 ∧ S 0 0 10 = nI m) (k : Nat) : ms_r S (hs_endk s S k) := by
  induction k with
  | zero => exact ⟨fun _ _ _ _ _ => rfl, h⟩
  | succ k ih =>
    unfold hs_endk
    split
    · obtain ⟨m, h1, h2⟩ := ih.2
      refine ih.tr (hs_tell_r (m := _) ?_ ?_) <;> rw [h2, nI_clamp (by omega)]
      exact h1
    · exact ih
theorem nI_inj {a b : Nat} (ha : a < 2 ^ 31) (hb : b < 2 ^ 31) (h : nI a = nI b) : a = b := by
  have := congrArg Int32.toInt h
  rw [nI_toInt ha, nI_toInt hb] at this
  omega
set_option maxRecDepth 100000 in
set_option maxHeartbeats 1000000 in
theorem m_H_end (l : Launch) (B : hw_B) (nb : Nat → Nat) (S : hw_St) (z : Nat) (s : Nat) (hI : ic nb S) (hs : s < nb 9) : hw_M l yH_end cH_end 4 (some .int) ({ frames := 3, cells := 0, slots := 0, locals := 63 }) B [.ref (hw_a B 0 0), .ref (hw_a B 9 s)] nb S z (hw_p (.inl (some (.int (hs_endk s (hw_sv S 9 s 5 0) (nb 11) 0 0 10 - S 0 0 10)))) nb (hs_endk s (hw_sv S 9 s 5 0) (nb 11)) z) := by
  refine hw_M.of (by decide) (Nat.le_of_ble_eq_true rfl) ?_
  intro X fr hl hR G hr hnm
  obtain ⟨hA, hF, ⟨hn9, hc9⟩, ⟨hn11, hc11⟩, ⟨nm, hnm1, hnm2⟩, hT, hSe, hTi, hU, hW0, hW⟩ := hI
  refine hr_aload_n G dH_end_0 rfl rfl ?_
  refine hr_iconst (v := 0) G dH_end_1 (by decide) ?_
  refine hr_put (x := 0) G fH_145 hs rfl (rfl) rfl dH_end_2 ?_
  refine hr_aload_n G dH_end_5 rfl rfl ?_
  refine hr_get (v := .int (S 0 0 10)) G fH_239 (hA.lt (show 0 < hw_n0 0 by decide)) rfl dH_end_6 ?_
  refine hr_istore_n (i := 2) G dH_end_9 rfl (by decide) ?_
  refine hr_iconst (v := 0) G dH_end_10 (by decide) ?_
  refine hr_istore_n (i := 3) G dH_end_11 rfl (by decide) ?_
  refine hr_L (L' := [(0, .ref (hw_a B 0 0)), (1, .ref (hw_a B 9 s)), (2, .int (S 0 0 10)), (3, .int (nI 0))]) (hw_s1 rfl (hw_s1 rfl (hw_s1 rfl (hw_s1 rfl (hw_s0))))) ?_
  have h00 : ∃ m, m ≤ 150 ∧ (hw_sv S 9 s 5 0) 0 0 10 = nI m := ⟨nm, hnm1, hnm2⟩
  suffices H : ∀ (m k : Nat) (S1 : hw_St), S1 = hs_endk s (hw_sv S 9 s 5 0) k → nb 11 - k = m → k ≤ nb 11 → hw_V X B fr nb S1 z 0 0 (hw_MQ X B fr (hw_p (.inl (some (.int (hs_endk s (hw_sv S 9 s 5 0) (nb 11) 0 0 10 - S 0 0 10)))) nb (hs_endk s (hw_sv S 9 s 5 0) (nb 11)) z) 0 0) 4 12 [(0, .ref (hw_a B 0 0)), (1, .ref (hw_a B 9 s)), (2, .int (S 0 0 10)), (3, .int (nI k))] [] from H _ 0 _ rfl rfl (Nat.zero_le _)
  intro m
  induction m with
  | zero =>
    intro k S1 hS1 hm hk
    obtain rfl : k = nb 11 := by omega
    have h1 : ms_r (hw_sv S 9 s 5 0) S1 := by rw [hS1]; exact hs_endk_r h00 _
    have hF1 : hw_Fx S1 := h1.fx (hF.sv rfl)
    have e9 : S1 0 0 9 = nI (nb 11) := (h1.1 0 0 9 (by decide) (by decide)).trans hc11
    refine hr_iload_n G dH_end_12 rfl rfl ?_
    refine hr_aload_n G dH_end_13 rfl rfl ?_
    refine hr_get (v := .int (S1 0 0 9)) G fH_125 (hA.lt (show 0 < hw_n0 0 by decide)) rfl dH_end_14 ?_
    refine hr_icmp_ge (tgt := 49) G dH_end_17 (by decide) (fun _ => ?_) (fun h => absurd (show S1 0 0 9 ≤ nI (nb 11) by rw [e9]; exact nI_le (Nat.le_refl _) (by omega)) h)
    refine hr_aload_n G dH_end_49 rfl rfl ?_
    refine hr_get (v := .int (S1 0 0 10)) G fH_239 (hA.lt (show 0 < hw_n0 0 by decide)) rfl dH_end_50 ?_
    refine hr_iload_n G dH_end_53 rfl rfl ?_
    refine hr_isub G dH_end_54 ?_
    exact hr_iret G hr (fun _ h => h) dH_end_55 ⟨by rw [hS1], rfl, hS1, rfl⟩
  | succ m ih =>
    intro k S1 hS1 hm hk
    have h1 : ms_r (hw_sv S 9 s 5 0) S1 := by rw [hS1]; exact hs_endk_r h00 _
    have hF1 : hw_Fx S1 := h1.fx (hF.sv rfl)
    have e9 : S1 0 0 9 = nI (nb 11) := (h1.1 0 0 9 (by decide) (by decide)).trans hc11
    obtain ⟨ht1, ht2, ⟨sk, hsk, hsk2⟩, ht4, ht5, ht6, ⟨w, hw, htw⟩, ht8⟩ := hTi k (by omega)
    have e10 : S1 10 0 k = nI k := (h1.1 10 0 k (by decide) (by omega)).trans ht1
    have e2 : S1 11 k 2 = nI sk := (h1.1 11 k 2 (by decide) (by decide)).trans hsk2
    have e3 : S1 11 k 3 = nI w := (h1.1 11 k 3 (by decide) (by decide)).trans htw
    obtain ⟨m2, hm2, hmc2⟩ := h1.2
    refine hr_iload_n G dH_end_12 rfl rfl ?_
    refine hr_aload_n G dH_end_13 rfl rfl ?_
    refine hr_get (v := .int (S1 0 0 9)) G fH_125 (hA.lt (show 0 < hw_n0 0 by decide)) rfl dH_end_14 ?_
    refine hr_icmp_ge (tgt := 49) G dH_end_17 (by decide) (fun h => absurd h (show ¬ S1 0 0 9 ≤ nI k by rw [e9]; exact nI_ge (by omega) (by omega))) (fun _ => ?_)
    refine hr_aload_n G dH_end_20 rfl rfl ?_
    refine hr_get (v := .ref (hw_a B 10 0)) G fH_31 (hA.lt (show 0 < hw_n0 0 by decide)) (hw_rfx hF1 (by decide) rfl (by decide)) dH_end_21 ?_
    refine hr_iload_n G dH_end_24 rfl rfl ?_
    refine hr_aald (n := k) (v := .ref (hw_a B 11 k)) G rfl (by decide) rfl (hA.lt (show 0 < hw_n0 10 by decide)) rfl (show k < 150 by omega) (hw_rdy e10 (by omega)) dH_end_25 ?_
    refine hr_get (v := .ref (hw_a B 9 sk)) G fH_167 (show k < nb 11 by omega) (hw_rdy e2 (by omega)) dH_end_26 ?_
    refine hr_aload_n G dH_end_29 rfl rfl ?_
    refine hr_acmpc (k := 9) (tgt := 43) G hsk hs dH_end_30 (by decide) (fun e30 => ?_) (fun e30 => ?_)
    · skip
      refine hr_iinc (v := nI (k + 1)) G dH_end_43 rfl (nI_succ k).symm (by decide) ?_
      refine hr_goto (tgt := 12) G dH_end_46 (by decide) ?_
      refine hr_L (L' := [(0, .ref (hw_a B 0 0)), (1, .ref (hw_a B 9 s)), (2, .int (S 0 0 10)), (3, .int (nI (k + 1)))]) (hw_s1 rfl (hw_s1 rfl (hw_s1 rfl (hw_s1 rfl (hw_s0))))) ?_
      exact ih (k + 1) _ (by rw [hS1, hs_endk, if_neg (by show ¬ S 11 k 2 = nI s; rw [hsk2]; exact fun q => e30 (nI_inj (by omega) (by omega) q))]) (by omega) (by omega)
    · skip
      refine hr_aload_n G dH_end_33 rfl rfl ?_
      refine hr_aload_n G dH_end_34 rfl rfl ?_
      refine hr_get (v := .ref (hw_a B 10 0)) G fH_31 (hA.lt (show 0 < hw_n0 0 by decide)) (hw_rfx hF1 (by decide) rfl (by decide)) dH_end_35 ?_
      refine hr_iload_n G dH_end_38 rfl rfl ?_
      refine hr_aald (n := k) (v := .ref (hw_a B 11 k)) G rfl (by decide) rfl (hA.lt (show 0 < hw_n0 10 by decide)) rfl (show k < 150 by omega) (hw_rdy e10 (by omega)) dH_end_39 ?_
      refine hr_callVn (k := 0) (i := 0) G rfl rfl (hA.lt (show 0 < hw_n0 0 by decide)) kH_257 iH_tellOfEnd vH_tellOfEnd (m_H_tellOfEnd _ _ _ _ _ hA hF1 k w m2 (by omega) hw e3 hm2 hmc2) rfl rfl (Nat.le_of_ble_eq_true rfl) ⟨by rw [hR]; decide, by rw [hR]; decide⟩ ⟨by rw [hR]; decide, by rw [hR]; decide⟩ dH_end_40 ?_
      refine hr_iinc (v := nI (k + 1)) G dH_end_43 rfl (nI_succ k).symm (by decide) ?_
      refine hr_goto (tgt := 12) G dH_end_46 (by decide) ?_
      refine hr_L (L' := [(0, .ref (hw_a B 0 0)), (1, .ref (hw_a B 9 s)), (2, .int (S 0 0 10)), (3, .int (nI (k + 1)))]) (hw_s1 rfl (hw_s1 rfl (hw_s1 rfl (hw_s1 rfl (hw_s0))))) ?_
      exact ih (k + 1) _ (by rw [hs_endk, if_pos (by show S 11 k 2 = nI s; rw [hsk2, e30]), show (hw_sv S 9 s 5 0) 11 k 3 = nI w from htw, ← hS1, hmc2, nI_clamp (by omega), nI_clamp (by omega)]) (by omega) (by omega)
