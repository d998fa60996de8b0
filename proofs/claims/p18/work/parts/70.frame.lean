/-! What the calls leave alone, and what they keep. -/
theorem ib_gt {x a b : Int32} (h : b ≤ x) (hab : a < b) : ¬ x ≤ a := fun q => by
  have h1 := Int32.le_iff_toInt_le.mp h
  have h2 := Int32.lt_iff_toInt_lt.mp hab
  have h3 := Int32.le_iff_toInt_le.mp q
  omega
theorem nI_ge_p {n : Nat} {x : Int32} (hn : n < 2 ^ 31) (h : nI n ≤ x) : ¬ x ≤ nI n - 1 := fun q => by
  cases n with
  | zero =>
    have h1 := Int32.le_iff_toInt_le.mp h
    have h3 := Int32.le_iff_toInt_le.mp q
    rw [show (nI 0).toInt = 0 from rfl] at h1
    rw [show (nI 0 - 1).toInt = -1 from rfl] at h3
    omega
  | succ n =>
    rw [nI_pred] at q
    exact ib_gt h (nI_lt (Nat.lt_succ_self n) hn) q
/-- slots that the class's calls (but letter, text, service, callback, tick) leave alone -/
def cP (k i j : Nat) : Prop := (20 ≤ k ∧ k < 45) ∨ k = 6 ∨ k = 7 ∨ (k = 4 ∧ i = 16) ∨ (k = 0 ∧ j = 11)
def cf (S S' : hw_St) : Prop := ∀ k i j, cP k i j → S' k i j = S k i j
theorem cf_rf {S : hw_St} : cf S S := fun _ _ _ _ => rfl
theorem cf_tr {S S1 S2 : hw_St} (h : cf S S1) (q : cf S1 S2) : cf S S2 := fun k i j p => (q k i j p).trans (h k i j p)
theorem cf_sv {S S' : hw_St} (h : cf S S') {k i j : Nat} {x : Int32} (hk : ¬ cP k i j) : cf S (hw_sv S' k i j x) := fun k' i' j' h' => by
  unfold hw_sv
  rw [if_neg (fun q => hk (by rw [← q.1, ← q.2.1, ← q.2.2]; exact h'))]
  exact h k' i' j' h'
theorem cf_nw {S S' : hw_St} (h : cf S S') {k i : Nat} (hk : ∀ j, ¬ cP k i j) : cf S (hw_nw S' k i) := fun k' i' j' h' => by
  unfold hw_nw
  rw [if_neg (fun q => hk j' (by rw [← q.1, ← q.2]; exact h'))]
  exact h k' i' j' h'
theorem cf_opn {S S' : hw_St} (h : cf S S') {n u : Nat} {r : Int32} : cf S (hs_opn S' n u r) := by
  unfold hs_opn se_new
  refine cf_sv (cf_sv (cf_sv (cf_sv (cf_sv (cf_sv (cf_sv (cf_sv (cf_nw h (fun j => ?_)) ?_) ?_) ?_) ?_) ?_) ?_) ?_) ?_ <;> (unfold cP; omega)
theorem cf_giv {S S' : hw_St} (h : cf S S') {n s : Nat} {k w f c : Int32} : cf S (hs_giv S' n k s w f c) := by
  unfold hs_giv tk_new
  refine cf_sv (cf_sv (cf_sv (cf_sv (cf_sv (cf_sv (cf_sv (cf_sv (cf_sv (cf_nw h (fun j => ?_)) ?_) ?_) ?_) ?_) ?_) ?_) ?_) ?_) ?_ <;> (unfold cP; omega)
/-- behind the sessions and tickets that are there the arrays hold nothing -/
def iz (nb : Nat → Nat) (S : hw_St) : Prop := (∀ j, nb 9 ≤ j → S 8 0 j = -1) ∧ ∀ j, nb 11 ≤ j → S 10 0 j = -1
def ck (S : hw_St) (nb1 : Nat → Nat) (S1 : hw_St) : Prop := ic nb1 S1 ∧ iz nb1 S1 ∧ cf S S1
theorem ck_rf {nb : Nat → Nat} {S : hw_St} (hI : ic nb S) (hZ : iz nb S) : ck S nb S := ⟨hI, hZ, cf_rf⟩
theorem iz_sv {nb : Nat → Nat} {S : hw_St} (h : iz nb S) {k i j : Nat} {x : Int32} (h8 : ¬ k = 8) (h10 : ¬ k = 10) : iz nb (hw_sv S k i j x) :=
  ⟨fun a b => by rw [show hw_sv S k i j x 8 0 a = S 8 0 a by unfold hw_sv; rw [if_neg (fun q => h8 q.1.symm)]]; exact h.1 a b,
   fun a b => by rw [show hw_sv S k i j x 10 0 a = S 10 0 a by unfold hw_sv; rw [if_neg (fun q => h10 q.1.symm)]]; exact h.2 a b⟩
theorem ck_sv {S S1 : hw_St} {nb1 : Nat → Nat} (h : ck S nb1 S1) {k i j : Nat} {x : Int32} (hx : ipp nb1 k i j x) (hk : ¬ cP k i j) (h8 : ¬ k = 8) (h10 : ¬ k = 10) : ck S nb1 (hw_sv S1 k i j x) :=
  ⟨ic_sv h.1 hx, iz_sv h.2.1 h8 h10, cf_sv h.2.2 hk⟩
theorem ipp_50 {nb : Nat → Nat} {i j : Nat} {x : Int32} : ipp nb 50 i j x := by
  refine ⟨?_, ?_, ?_, ?_, ?_, ?_, ?_, ?_, ?_, ?_, ?_, ?_, ?_⟩ <;> first | (intro v hi hv; cases hv; done) | (rintro ⟨q, -⟩; exact absurd q (by decide))
theorem ck_out {S S1 : hw_St} {nb1 : Nat → Nat} (h : ck S nb1 S1) (x : Int32) : ck S nb1 (hw_sv S1 50 0 0 x) := ck_sv h ipp_50 (by unfold cP; omega) (by decide) (by decide)
theorem ck_opn {S S1 : hw_St} {nb1 : Nat → Nat} (h : ck S nb1 S1) (h40 : nb1 9 < 40) {u : Nat} (hu : u < 4) {r : Int32} (hr : ib_b r) : ck S (hw_nb nb1 9) (hs_opn S1 (nb1 9) u r) := by
  refine ⟨ic_opn h.1 h40 hu hr, ⟨fun j hj => ?_, fun j hj => ?_⟩, cf_opn h.2.2⟩
  · have e : hw_nb nb1 9 9 = nb1 9 + 1 := rfl
    rw [e] at hj
    have e2 : ¬ j = nb1 9 := by omega
    rw [show hs_opn S1 (nb1 9) u r 8 0 j = S1 8 0 j by simp [hs_opn, se_new, hw_sv, hw_nw, e2]]
    exact h.2.1.1 j (by omega)
  · exact h.2.1.2 j hj
theorem ck_giv {S S1 : hw_St} {nb1 : Nat → Nat} (h : ck S nb1 S1) (h150 : nb1 11 < 150) {k : Int32} (hk : k = 0 ∨ k = 1 ∨ k = 2) {s : Nat} (hs : s < nb1 9) {w f c : Int32} (hw : ∃ w', w' < 6 ∧ w = nI w') (hf : f = -1 ∨ ∃ p, p < nb1 11 ∧ f = nI p) : ck S (hw_nb nb1 11) (hs_giv S1 (nb1 11) k s w f c) := by
  refine ⟨ic_giv h.1 h150 hk hs hw hf, ⟨fun j hj => ?_, fun j hj => ?_⟩, cf_giv h.2.2⟩
  · exact h.2.1.1 j hj
  · have e : hw_nb nb1 11 11 = nb1 11 + 1 := rfl
    rw [e] at hj
    have e2 : ¬ j = nb1 11 := by omega
    rw [show hs_giv S1 (nb1 11) k s w f c 10 0 j = S1 10 0 j by simp [hs_giv, tk_new, hw_sv, hw_nw, e2]]
    exact h.2.1.2 j (by omega)
theorem ck_ms {S S1 S2 : hw_St} {nb1 : Nat → Nat} (h : ck S nb1 S1) (q : ms_r S1 S2) : ck S nb1 S2 :=
  ⟨ic_ms h.1 q, ⟨fun j hj => by rw [q.1 8 0 j (by decide) (by omega)]; exact h.2.1.1 j hj, fun j hj => by rw [q.1 10 0 j (by decide) (by omega)]; exact h.2.1.2 j hj⟩,
   fun k i j p => (q.1 k i j (by unfold cP at p; omega) (by unfold cP at p; omega)).trans (h.2.2 k i j p)⟩
theorem us_att_0 {S S1 : hw_St} {u : Nat} {y t : Int32} (h : us_att S u y t = (0, S1)) : S1 = hw_sv S 2 u 4 0 := by
  unfold us_att at h
  split at h
  · exact absurd (congrArg Prod.fst h) (by show ¬ (-2 : Int32) = 0; decide)
  · split at h
    · split at h
      · exact (congrArg Prod.snd h).symm
      · exact absurd (congrArg Prod.fst h) (by show ¬ (-2 : Int32) = 0; decide)
    · exact absurd (congrArg Prod.fst h) (by show ¬ (-3 : Int32) = 0; decide)
theorem ck_att {nb : Nat → Nat} {S S1 : hw_St} {u : Nat} {y t a : Int32} (h : us_att S u y t = (a, S1)) (hu : u < 4) (hI : ic nb S) (hZ : iz nb S) : ck S nb S1 := by
  obtain ⟨n, hn, en⟩ := (hI.2.2.2.2.2.2.2.2.1 u hu).2
  have e1 : (us_att S u y t).2 = S1 := congrArg Prod.snd h
  rw [← e1]; clear e1 h
  unfold us_att
  split
  · exact ck_rf hI hZ
  · split
    · rename_i h3
      split
      · exact ck_sv (ck_rf hI hZ) (ipp_2_4 ⟨0, by omega, rfl⟩) (by unfold cP; omega) (by decide) (by decide)
      · have h4 : n < 3 := (nI_ltI (by omega) (by decide)).mp (by rw [← en]; exact h3)
        exact ck_sv (ck_sv (ck_rf hI hZ) (ipp_2_4 ⟨n + 1, by omega, by rw [en, nI_succ]⟩) (by unfold cP; omega) (by decide) (by decide)) ipp_2_5 (by unfold cP; omega) (by decide) (by decide)
    · exact ck_rf hI hZ
theorem ck_unl {nb : Nat → Nat} {S S1 : hw_St} (h : ck S nb S1) (u : Nat) (t : Int32) : ck S nb (us_unl S1 u t) := by
  unfold us_unl
  split
  · exact h
  · split
    · exact h
    · exact ck_sv h (ipp_2_4 ⟨0, by omega, rfl⟩) (by unfold cP; omega) (by decide) (by decide)
theorem ck_end {nb : Nat → Nat} {S S1 : hw_St} (h : ck S nb S1) (s k : Nat) : ck S nb (hs_endk s (hw_sv S1 9 s 5 0) k) :=
  ck_ms (ck_sv h (ipp_9_5 (Or.inl rfl)) (by unfold cP; omega) (by decide) (by decide)) (ic_end h.1 s k).1
theorem ck_tk {nb : Nat → Nat} {S S1 : hw_St} (h : ck S nb S1) (t : Int32) (k : Nat) : ck S nb (hs_tk (nb 11) t S1 k) := by
  induction k with
  | zero => exact h
  | succ k ih =>
    unfold hs_tk
    split
    · exact ih
    · split
      · exact ih
      · exact ck_end ih k (nb 11)
/-- the reference's invariant reads these slots alone -/
theorem ix_eq {ns nt : Nat} {S S' : hw_St} (h : ix ns nt S) (e : ∀ k j, (k = 23 ∨ k = 30 ∨ k = 34 ∨ k = 35 ∨ k = 36 ∨ k = 37 ∨ k = 40 ∨ (k = 20 ∧ (j = 3 ∨ j = 12 ∨ j = 18 ∨ j = 26))) → S' k 0 j = S k 0 j) : ix ns nt S' := by
  obtain ⟨⟨h1, h2, h3, h4, h5, h6, h7, h8, h9⟩, nm, g1, g2⟩ := h
  refine ⟨⟨⟨h1.1, by rw [e 20 12 (by omega)]; exact h1.2⟩, ⟨h2.1, by rw [e 20 18 (by omega)]; exact h2.2⟩, by rw [e 20 3 (by omega)]; exact h3, fun t ht => by rw [e 23 t (by omega)]; exact h4 t ht, fun t ht => by rw [e 30 t (by omega)]; exact h5 t ht, fun t ht => by rw [e 36 t (by omega)]; exact h6 t ht, fun t ht => by rw [e 37 t (by omega)]; exact h7 t ht, fun t ht => by rw [e 40 t (by omega)]; exact h8 t ht, fun t ht => by rw [e 35 t (by omega), e 40 t (by omega)]; intro a p hp b; rw [e 35 p (by omega)]; exact h9 t ht a p hp b⟩, nm, by rw [e 20 26 (by omega)]; exact g1, ?_⟩
  rw [md_po_eq nt (fun i _ => e 36 i (by omega)) (fun i _ => e 34 _ (by omega))]
  exact g2
/-- slots that the reference's calls leave alone: always, and but for letter, text, service, callback, tick -/
def rQ (k i j : Nat) : Prop := k < 20 ∨ 45 ≤ k ∨ (k = 20 ∧ ¬ (j = 0 ∨ j = 1 ∨ j = 3 ∨ j = 12 ∨ j = 18 ∨ j = 26 ∨ j = 29))
def rP (k i j : Nat) : Prop := k < 20 ∨ 45 ≤ k ∨ k = 28 ∨ k = 29 ∨ (k = 20 ∧ ¬ (j = 0 ∨ j = 12 ∨ j = 18 ∨ j = 26 ∨ j = 29))
def rf (S S' : hw_St) : Prop := ∀ k i j, rP k i j → S' k i j = S k i j
def rq (S S' : hw_St) : Prop := ∀ k i j, rQ k i j → S' k i j = S k i j
theorem rf.q {S S' : hw_St} (h : rf S S') : rq S S' := fun k i j p => h k i j (by unfold rQ at p; unfold rP; omega)
theorem rf_rf {S : hw_St} : rf S S := fun _ _ _ _ => rfl
theorem rf_tr {S S1 S2 : hw_St} (h : rf S S1) (q : rf S1 S2) : rf S S2 := fun k i j p => (q k i j p).trans (h k i j p)
theorem rf_sv {S S' : hw_St} (h : rf S S') {k i j : Nat} {x : Int32} (hk : ¬ rP k i j) : rf S (hw_sv S' k i j x) := fun k' i' j' h' => by
  unfold hw_sv
  rw [if_neg (fun q => hk (by rw [← q.1, ← q.2.1, ← q.2.2]; exact h'))]
  exact h k' i' j' h'
theorem rq_rf {S : hw_St} : rq S S := fun _ _ _ _ => rfl
theorem rq_sv {S S' : hw_St} (h : rq S S') {k i j : Nat} {x : Int32} (hk : ¬ rQ k i j) : rq S (hw_sv S' k i j x) := fun k' i' j' h' => by
  unfold hw_sv
  rw [if_neg (fun q => hk (by rw [← q.1, ← q.2.1, ← q.2.2]; exact h'))]
  exact h k' i' j' h'
theorem rq.fx {S S' : hw_St} (h : rq S S') (hF : hw_Fx S) : hw_Fx S' := fun k i j v hi hv => by
  rw [h k i j ?_]
  · exact hF k i j v hi hv
  · unfold rQ
    by_cases e : k = 20
    · subst e
      right; right
      refine ⟨rfl, ?_⟩
      rintro (q | q | q | q | q | q | q) <;> (subst q; exact nomatch hv)
    · by_cases e2 : k < 20
      · exact Or.inl e2
      · refine Or.inr (Or.inl ?_)
        refine Nat.not_lt.mp fun q => ?_
        have : hw_fx k i j = none := by unfold hw_fx; split <;> first | omega | rfl
        rw [this] at hv; exact nomatch hv
theorem ic_rq {nb : Nat → Nat} {S S' : hw_St} (h : ic nb S) (q : rq S S') : ic nb S' := by
  have e : ∀ k i j, k < 20 → S' k i j = S k i j := fun k i j a => q k i j (Or.inl a)
  obtain ⟨hA, hF, ⟨hn9, hc9⟩, ⟨hn11, hc11⟩, hm, hT, hSe, hTi, hU, hW0, hW⟩ := h
  refine ⟨hA, q.fx hF, ⟨hn9, by rw [e 0 0 8 (by decide)]; exact hc9⟩, ⟨hn11, by rw [e 0 0 9 (by decide)]; exact hc11⟩, by rw [e 0 0 10 (by decide)]; exact hm, fun t ht => ?_, fun i hi => ?_, fun i hi => ?_, fun u hu => ?_, by rw [e 7 0 0 (by decide)]; exact hW0, fun k hk => by rw [e 7 0 k (by decide)]; exact hW k hk⟩
  · unfold tx_ok
    rw [e 4 t 1 (by decide)]
    exact ⟨(hT t ht).1, fun j => by rw [e 5 t j (by decide)]; exact (hT t ht).2 j⟩
  · unfold se_ok
    rw [e 8 0 i (by decide), e 9 i 0 (by decide), e 9 i 1 (by decide), e 9 i 3 (by decide), e 9 i 5 (by decide)]
    exact hSe i hi
  · unfold ti_ok
    rw [e 10 0 i (by decide), e 11 i 0 (by decide), e 11 i 2 (by decide), e 11 i 5 (by decide), e 11 i 7 (by decide), e 11 i 8 (by decide), e 11 i 3 (by decide), e 11 i 1 (by decide)]
    exact hTi i hi
  · unfold us_ok
    rw [e 2 u 2 (by decide), e 2 u 4 (by decide)]
    exact hU u hu
theorem iz_rq {nb : Nat → Nat} {S S' : hw_St} (h : iz nb S) (q : rq S S') : iz nb S' :=
  ⟨fun j hj => by rw [q 8 0 j (Or.inl (by decide))]; exact h.1 j hj, fun j hj => by rw [q 10 0 j (Or.inl (by decide))]; exact h.2 j hj⟩
theorem iz_eqv {nb : Nat → Nat} {S S' : hw_St} (h : iz nb S) (q : eqv S S') : iz nb S' :=
  ⟨fun j hj => by rw [q.1 8 0 j (by decide) (by omega)]; exact h.1 j hj, fun j hj => by rw [q.1 10 0 j (by decide) (by omega)]; exact h.2 j hj⟩
/-- how much of the reference's page is written -/
def wr (S : hw_St) : Prop := S 20 0 29 = -1 ∨ ∃ a, a ≤ 1400 ∧ S 20 0 29 = nI a
/-- what class and reference have in common, in this part of the work -/
def r4 (S : hw_St) : Prop := (∀ w, w < 6 → S 28 0 w = S 6 0 w) ∧ S 20 0 3 = S 4 16 1 ∧ (∀ c, 1 ≤ c → c < 6 → S 29 0 c = md_nt (S 7 0 c)) ∧ S 20 0 1 = S 0 0 11
def jv (nb : Nat → Nat) (S : hw_St) : Prop := ic nb S ∧ iz nb S ∧ (∃ ns nt, ix ns nt S) ∧ wr S ∧ r4 S
/-- behind a class call that leaves the common slots alone -/
theorem jv_c {nb nb1 : Nat → Nat} {S S1 S2 : hw_St} (h : jv nb S) (q : ck S nb1 S1) (e : eqv S1 S2) : jv nb1 S2 := by
  obtain ⟨-, -, ⟨ns, nt, hX⟩, hW, hR1, hR2, hR3, hR4⟩ := h
  have f : ∀ k i j, cP k i j → S2 k i j = S k i j := fun k i j p => by
    rw [e.1 k i j (by unfold cP at p; omega) (by unfold cP at p; omega)]
    exact q.2.2 k i j p
  refine ⟨ic_eqv q.1 e, iz_eqv q.2.1 e, ⟨ns, nt, ix_eq hX fun k j p => f k 0 j (by unfold cP; omega)⟩, ?_, fun w hw => ?_, ?_, fun c h1 h2 => ?_, ?_⟩
  · unfold wr; rw [f 20 0 29 (by unfold cP; omega)]; exact hW
  · rw [f 28 0 w (by unfold cP; omega), f 6 0 w (by unfold cP; omega)]; exact hR1 w hw
  · rw [f 20 0 3 (by unfold cP; omega), f 4 16 1 (by unfold cP; omega)]; exact hR2
  · rw [f 29 0 c (by unfold cP; omega), f 7 0 c (by unfold cP; omega)]; exact hR3 c h1 h2
  · rw [f 20 0 1 (by unfold cP; omega), f 0 0 11 (by unfold cP; omega)]; exact hR4
/-- what a reference call keeps -/
def rk (ns nt : Nat) (S S' : hw_St) : Prop := ix ns nt S' ∧ wr S' ∧ rf S S'
theorem jv_r {nb : Nat → Nat} {S S' : hw_St} {ns nt : Nat} (h : jv nb S) (q : rk ns nt S S') : jv nb S' := by
  obtain ⟨hI, hZ, -, -, hR1, hR2, hR3, hR4⟩ := h
  obtain ⟨hX, hW, f⟩ := q
  refine ⟨ic_rq hI f.q, iz_rq hZ f.q, ⟨ns, nt, hX⟩, hW, fun w hw => ?_, ?_, fun c h1 h2 => ?_, ?_⟩
  · rw [f 28 0 w (by unfold rP; omega), f 6 0 w (by unfold rP; omega)]; exact hR1 w hw
  · rw [f 20 0 3 (by unfold rP; omega), f 4 16 1 (by unfold rP; omega)]; exact hR2
  · rw [f 29 0 c (by unfold rP; omega), f 7 0 c (by unfold rP; omega)]; exact hR3 c h1 h2
  · rw [f 20 0 1 (by unfold rP; omega), f 0 0 11 (by unfold rP; omega)]; exact hR4
theorem rk_rf {ns nt : Nat} {S : hw_St} (hX : ix ns nt S) (hW : wr S) : rk ns nt S S := ⟨hX, hW, rf_rf⟩
theorem rk_t {ns nt : Nat} {S S' : hw_St} (h : rk ns nt S S') (x : Int32) : rk ns nt S (hw_sv S' 20 0 0 x) := ⟨ix_t h.1 x, h.2.1, rf_sv h.2.2 (by unfold rP; omega)⟩
/-- a slot that ix doesn't read -/
theorem rk_sv {ns nt : Nat} {S S' : hw_St} (h : rk ns nt S S') {k i j : Nat} {x : Int32} (hk : 20 < k ∧ k < 45 ∧ ¬ k = 28 ∧ ¬ k = 29 ∧ ¬ k = 23 ∧ ¬ k = 30 ∧ ¬ k = 34 ∧ ¬ k = 35 ∧ ¬ k = 36 ∧ ¬ k = 37 ∧ ¬ k = 40) : rk ns nt S (hw_sv S' k i j x) :=
  ⟨ix_eq h.1 fun k' j' p => by unfold hw_sv; rw [if_neg (fun q => by have := q.1; omega)],
   by have e : hw_sv S' k i j x 20 0 29 = S' 20 0 29 := by
        unfold hw_sv; rw [if_neg (fun q => by have := q.1; omega)]
      unfold wr; rw [e]; exact h.2.1,
   rf_sv h.2.2 (by unfold rP; omega)⟩
theorem rk_opn {ns nt : Nat} {S S' : hw_St} (h : rk ns nt S S') (h40 : ns < 40) {u : Nat} (hu : u < 4) (r : Int32) : rk (ns + 1) nt S (md_opn S' ns u r) := by
  refine ⟨ix_opn h.1 h40 hu r, h.2.1, ?_⟩
  unfold md_opn
  refine rf_sv (rf_sv (rf_sv (rf_sv (rf_sv (rf_sv (rf_sv h.2.2 ?_) ?_) ?_) ?_) ?_) ?_) ?_ <;> (unfold rP; omega)
theorem rk_giv {ns nt : Nat} {S S' : hw_St} (h : rk ns nt S S') (h150 : nt < 150) {k s w f p : Int32} (hs : ∃ s', s' < ns ∧ s = nI s') (hw : ∃ w', w' < 6 ∧ w = nI w') (hp : p = -1 ∨ ∃ q, q < nt ∧ p = nI q) (hk : k = 2 → ∀ q, q < nt → p = nI q → ¬ S' 35 0 q = 2) : rk ns (nt + 1) S (md_giv S' nt k s w f p) := by
  refine ⟨ix_giv h.1 h150 hs hw hp hk, h.2.1, ?_⟩
  unfold md_giv
  refine rf_sv (rf_sv (rf_sv (rf_sv (rf_sv (rf_sv (rf_sv (rf_sv h.2.2 ?_) ?_) ?_) ?_) ?_) ?_) ?_) ?_ <;> (unfold rP; omega)
theorem rk_pg {ns nt b : Nat} {S S1 S' : hw_St} (h : rk ns nt S S1) (q : pg_r b S1 S') (hb : b ≤ 1400) : rk ns nt S S' :=
  ⟨ix_pg h.1 q, Or.inr (q.2.imp fun a w => ⟨by omega, w.2⟩), fun k i j p => (q.1 k i j (by unfold rP at p; omega) (by unfold rP at p; omega) (by unfold rP at p; omega)).trans (h.2.2 k i j p)⟩
theorem rf_mm {S S1 S' : hw_St} (h : rf S S1) (q : mm_r S1 S') : rf S S' := fun k i j p => (q k i j (by unfold rP at p; omega) (by unfold rP at p; omega)).trans (h k i j p)
theorem wr_mm {S S' : hw_St} (h : wr S) (q : mm_r S S') : wr S' := by
  unfold wr; rw [q 20 0 29 (by decide) (by decide)]; exact h
theorem md_co_eq {s : Nat} {S S' : hw_St} (h : ∀ i, S' 36 0 i = S 36 0 i) (k : Nat) : md_co s S' k = md_co s S k := by
  induction k with
  | zero => rfl
  | succ k ih => unfold md_co; rw [ih, h k]
theorem rf_tk {S S1 : hw_St} (h : rf S S1) (nt k : Nat) : rf S (md_tk nt S1 k) := by
  induction k with
  | zero => exact h
  | succ k ih =>
    unfold md_tk md_t1
    repeat' split
    all_goals first | exact ih | exact rf_mm (rf_sv ih (by unfold rP; omega)) (md_endk_r nt)
theorem wr_tk {S1 : hw_St} (h : wr S1) (nt k : Nat) : wr (md_tk nt S1 k) := by
  induction k with
  | zero => exact h
  | succ k ih =>
    unfold md_tk md_t1
    repeat' split
    all_goals first | exact ih | exact wr_mm (S := hw_sv _ 34 0 k 1) ih (md_endk_r nt)
theorem md_try_y {S S1 : hw_St} {u n : Nat} {y r a : Int32} (h : md_try S u y r n = (a, S1)) (ha : 0 ≤ a) : a = nI n ∧ S1 = md_opn S n u r := by
  have e1 : (md_try S u y r n).1 = a := congrArg Prod.fst h
  have e2 : (md_try S u y r n).2 = S1 := congrArg Prod.snd h
  rw [← e1] at ha
  rw [← e1, ← e2]
  unfold md_try at ha ⊢
  split
  · rename_i q; rw [if_pos q] at ha; exact absurd ha (show ¬ (0 : Int32) ≤ -2 by decide)
  · rename_i q; rw [if_neg q] at ha
    split
    · rename_i q; rw [if_pos q] at ha; exact absurd ha (show ¬ (0 : Int32) ≤ -3 by decide)
    · rename_i q; rw [if_neg q] at ha
      split
      · exact ⟨rfl, rfl⟩
      · rename_i q; rw [if_neg q] at ha; exact absurd ha (show ¬ (0 : Int32) ≤ -2 by decide)
theorem rk_try {ns nt : Nat} {S S0 S1 : hw_St} {u : Nat} {y r a : Int32} (h : md_try S u y r ns = (a, S1)) (q : rk ns nt S0 S) (h40 : ns < 40) (hu : u < 4) : ∃ ns', rk ns' nt S0 S1 := by
  have e2 : (md_try S u y r ns).2 = S1 := congrArg Prod.snd h
  rw [← e2]; clear e2 h
  unfold md_try
  split
  · exact ⟨ns, q⟩
  · split
    · exact ⟨ns, q⟩
    · split
      · exact ⟨ns + 1, rk_opn q h40 hu r⟩
      · exact ⟨ns, rk_sv (rk_sv q (by omega)) (by omega)⟩
theorem md_en_in {S : hw_St} {v : Int32} (h : ¬ md_en S v = 0) : ∃ w, w < 6 ∧ v = nI w := by
  rcases ib_rng v 6 (by decide) with q | q
  · exact q
  · exact absurd (by unfold md_en; rw [if_pos (show v < 0 ∨ 6 ≤ v from q)]) h
theorem hs_en_in {S : hw_St} {v : Int32} (h : ¬ hs_en S v = 0) : ∃ w, w < 6 ∧ v = nI w := by
  rcases ib_rng v 6 (by decide) with q | q
  · exact q
  · exact absurd (by unfold hs_en; rw [if_pos (show v < 0 ∨ 6 ≤ v from q)]) h
theorem md_j_c (S : hw_St) (t s : Nat) (x h : Int32) : (md_j S t s x h = 0 ∧ ¬ S 35 0 t = 2) ∨ md_j S t s x h = 2 ∨ ¬ md_j S t s x h ≤ 2 := by
  unfold md_j md_jr
  repeat' split
  all_goals first | exact Or.inl ⟨rfl, by assumption⟩ | exact Or.inr (Or.inl rfl) | exact Or.inr (Or.inr (by decide))
