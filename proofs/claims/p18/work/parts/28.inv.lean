/-! The invariant, slot by slot. -/
/-- what ic asks of one slot -/
def ipp (nb : Nat → Nat) (k i j : Nat) (x : Int32) : Prop := (∀ v, i < hw_n0 k → hw_fx k i j = some v → x = nI v) ∧ (k = 0 ∧ i = 0 ∧ j = 8 → x = nI (nb 9)) ∧ (k = 0 ∧ i = 0 ∧ j = 9 → x = nI (nb 11)) ∧ (k = 0 ∧ i = 0 ∧ j = 10 → ∃ m, m ≤ 150 ∧ x = nI m) ∧ (k = 4 ∧ i < 18 ∧ j = 1 → ∃ n, n ≤ hw_ln 5 i ∧ x = nI n) ∧ (k = 5 ∧ i < 18 → ib_c x) ∧ (k = 8 ∧ i = 0 ∧ j < nb 9 → x = nI j) ∧
  (k = 9 ∧ i < nb 9 → (j = 0 → x = nI i) ∧ (j = 1 → ∃ u, u < 4 ∧ x = nI u) ∧ (j = 3 → ib_b x) ∧ (j = 5 → ib_b x)) ∧ (k = 10 ∧ i = 0 ∧ j < nb 11 → x = nI j) ∧
  (k = 11 ∧ i < nb 11 → (j = 0 → x = nI i) ∧ (j = 2 → ∃ s, s < nb 9 ∧ x = nI s) ∧ (j = 5 → x = -1 ∨ ∃ p, p < i ∧ x = nI p) ∧ (j = 7 → ib_b x) ∧ (j = 8 → ib_b x) ∧ (j = 3 → ∃ w, w < 6 ∧ x = nI w) ∧ (j = 1 → x = 0 ∨ x = 1 ∨ x = 2)) ∧
  (k = 2 ∧ i < 4 → (j = 2 → ib_b x) ∧ (j = 4 → ∃ n, n ≤ 3 ∧ x = nI n)) ∧ (k = 7 ∧ i = 0 ∧ j < 6 → ib_b x) ∧ (k = 7 ∧ i = 0 ∧ j = 0 → x = 0)
def ip (nb : Nat → Nat) (S : hw_St) : Prop := hw_al nb ∧ nb 9 ≤ 40 ∧ nb 11 ≤ 150 ∧ ∀ k i j, ipp nb k i j (S k i j)
theorem ip.ic {nb : Nat → Nat} {S : hw_St} (h : ip nb S) : ic nb S := by
  obtain ⟨hA, h9, h11, h⟩ := h
  refine ⟨hA, fun k i j v hi hv => (h k i j).1 v hi hv, ⟨h9, (h 0 0 8).2.1 ⟨rfl, rfl, rfl⟩⟩, ⟨h11, (h 0 0 9).2.2.1 ⟨rfl, rfl, rfl⟩⟩, (h 0 0 10).2.2.2.1 ⟨rfl, rfl, rfl⟩, fun t ht => ⟨(h 4 t 1).2.2.2.2.1 ⟨rfl, ht, rfl⟩, fun j => (h 5 t j).2.2.2.2.2.1 ⟨rfl, ht⟩⟩, fun i hi => ?_, fun i hi => ?_, fun u hu => ?_, (h 7 0 0).2.2.2.2.2.2.2.2.2.2.2.2 ⟨rfl, rfl, rfl⟩, fun k hk => (h 7 0 k).2.2.2.2.2.2.2.2.2.2.2.1 ⟨rfl, rfl, hk⟩⟩
  · have q : ∀ j, _ := fun j => (h 9 i j).2.2.2.2.2.2.2.1 ⟨rfl, hi⟩
    exact ⟨(h 8 0 i).2.2.2.2.2.2.1 ⟨rfl, rfl, hi⟩, (q 0).1 rfl, (q 1).2.1 rfl, (q 3).2.2.1 rfl, (q 5).2.2.2 rfl⟩
  · have q : ∀ j, _ := fun j => (h 11 i j).2.2.2.2.2.2.2.2.2.1 ⟨rfl, hi⟩
    exact ⟨(h 10 0 i).2.2.2.2.2.2.2.2.1 ⟨rfl, rfl, hi⟩, (q 0).1 rfl, (q 2).2.1 rfl, (q 5).2.2.1 rfl, (q 7).2.2.2.1 rfl, (q 8).2.2.2.2.1 rfl, (q 3).2.2.2.2.2.1 rfl, (q 1).2.2.2.2.2.2 rfl⟩
  · have q : ∀ j, _ := fun j => (h 2 u j).2.2.2.2.2.2.2.2.2.2.1 ⟨rfl, hu⟩
    exact ⟨(q 2).1 rfl, (q 4).2 rfl⟩
theorem ic.ip {nb : Nat → Nat} {S : hw_St} (h : ic nb S) : ip nb S := by
  obtain ⟨hA, hF, ⟨hn9, hc9⟩, ⟨hn11, hc11⟩, hm, hT, hSe, hTi, hU, hW0, hW⟩ := h
  refine ⟨hA, hn9, hn11, fun k i j => ⟨fun v hi hv => hF k i j v hi hv, ?_, ?_, ?_, ?_, ?_, ?_, ?_, ?_, ?_, ?_, ?_, ?_⟩⟩
  · rintro ⟨rfl, rfl, rfl⟩; exact hc9
  · rintro ⟨rfl, rfl, rfl⟩; exact hc11
  · rintro ⟨rfl, rfl, rfl⟩; exact hm
  · rintro ⟨rfl, hi, rfl⟩; exact (hT i hi).1
  · rintro ⟨rfl, hi⟩; exact (hT i hi).2 j
  · rintro ⟨rfl, rfl, hj⟩; exact (hSe j hj).1
  · rintro ⟨rfl, hi⟩
    obtain ⟨-, a, b, c, d⟩ := hSe i hi
    exact ⟨fun e => by rw [e]; exact a, fun e => by rw [e]; exact b, fun e => by rw [e]; exact c, fun e => by rw [e]; exact d⟩
  · rintro ⟨rfl, rfl, hj⟩; exact (hTi j hj).1
  · rintro ⟨rfl, hi⟩
    obtain ⟨-, a, b, c, d, e, f, g⟩ := hTi i hi
    exact ⟨fun q => by rw [q]; exact a, fun q => by rw [q]; exact b, fun q => by rw [q]; exact c, fun q => by rw [q]; exact d, fun q => by rw [q]; exact e, fun q => by rw [q]; exact f, fun q => by rw [q]; exact g⟩
  · rintro ⟨rfl, hi⟩
    obtain ⟨a, b⟩ := hU i hi
    exact ⟨fun q => by rw [q]; exact a, fun q => by rw [q]; exact b⟩
  · rintro ⟨rfl, rfl, hj⟩; exact hW j hj
  · rintro ⟨rfl, rfl, rfl⟩; exact hW0
theorem ip_sv {nb : Nat → Nat} {S : hw_St} {E : Nat → Nat → Nat → Prop} {k0 i0 j0 : Nat} {x : Int32} (hx : ipp nb k0 i0 j0 x) (h : ∀ k i j, ¬ (E k i j ∨ (k = k0 ∧ i = i0 ∧ j = j0)) → ipp nb k i j (S k i j)) : ∀ k i j, ¬ E k i j → ipp nb k i j (hw_sv S k0 i0 j0 x k i j) := fun k i j he => by
  unfold hw_sv
  by_cases e : k = k0 ∧ i = i0 ∧ j = j0
  · rw [if_pos e]; obtain ⟨rfl, rfl, rfl⟩ := e; exact hx
  · rw [if_neg e]; exact h k i j (fun q => q.elim he e)
theorem ic_sv {nb : Nat → Nat} {S : hw_St} (h : ic nb S) {k0 i0 j0 : Nat} {x : Int32} (hx : ipp nb k0 i0 j0 x) : ic nb (hw_sv S k0 i0 j0 x) :=
  ip.ic ⟨h.ip.1, h.ip.2.1, h.ip.2.2.1, fun k i j => ip_sv (E := fun _ _ _ => False) hx (fun k i j _ => h.ip.2.2.2 k i j) k i j (fun q => q)⟩
theorem ic_eqv {nb : Nat → Nat} {S S' : hw_St} (h : ic nb S) (q : eqv S S') : ic nb S' := by
  refine ip.ic ⟨h.ip.1, h.ip.2.1, h.ip.2.2.1, fun k i j => ?_⟩
  have h0 := h.ip.2.2.2 k i j
  by_cases e5 : k = 5
  · subst e5
    refine ⟨fun v hi hv => (nomatch hv), fun e => (nomatch e.1), fun e => (nomatch e.1), fun e => (nomatch e.1), fun e => (nomatch e.1), fun e => (q.2 i e.2).2 j, fun e => (nomatch e.1), fun e => (nomatch e.1), fun e => (nomatch e.1), fun e => (nomatch e.1), fun e => (nomatch e.1), fun e => (nomatch e.1), fun e => (nomatch e.1)⟩
  · by_cases e17 : k = 4 ∧ i = 17 ∧ j = 1
    · obtain ⟨rfl, rfl, rfl⟩ := e17
      refine ⟨fun v hi hv => (nomatch hv), fun e => (nomatch e.1), fun e => (nomatch e.1), fun e => (nomatch e.1), fun e => (q.2 17 e.2.1).1, fun e => (nomatch e.1), fun e => (nomatch e.1), fun e => (nomatch e.1), fun e => (nomatch e.1), fun e => (nomatch e.1), fun e => (nomatch e.1), fun e => (nomatch e.1), fun e => (nomatch e.1)⟩
    · rw [q.1 k i j e5 e17]; exact h0
theorem eqv_17 {S S' : hw_St} (h : tx_r 17 S S') (hT : ∀ t, t < 18 → tx_ok S t) : eqv S S' := ⟨fun k i j a b => h.1 k i j (fun q => a q.1) b, fun t ht => by
  by_cases e : t = 17
  · subst e; exact h.2
  · exact h.ot e (hT t ht)⟩
theorem ip_m9 {nb : Nat → Nat} {k i j : Nat} {x : Int32} (h : ipp nb k i j x) (h1 : ¬ (k = 0 ∧ i = 0 ∧ j = 8)) (h2 : ¬ (k = 8 ∧ i = 0 ∧ j = nb 9)) (h3 : ¬ (k = 9 ∧ i = nb 9)) : ipp (hw_nb nb 9) k i j x := by
  have e9 : hw_nb nb 9 9 = nb 9 + 1 := rfl
  have e11 : hw_nb nb 9 11 = nb 11 := rfl
  unfold ipp at h ⊢
  rw [e9, e11]
  obtain ⟨a1, a2, a3, a4, a5, a6, a7, a8, a9, a10, a11, a12, a13⟩ := h
  refine ⟨a1, fun e => absurd e h1, a3, a4, a5, a6, fun e => a7 ⟨e.1, e.2.1, ?_⟩, fun e => a8 ⟨e.1, ?_⟩, a9, fun e => ?_, a11, a12, a13⟩
  · rcases e with ⟨q1, q2, q3⟩
    have : j ≠ nb 9 := fun q => h2 ⟨q1, q2, q⟩
    omega
  · rcases e with ⟨q1, q2⟩
    have : i ≠ nb 9 := fun q => h3 ⟨q1, q⟩
    omega
  · obtain ⟨b1, b2, b3⟩ := a10 e
    exact ⟨b1, fun q => (b2 q).imp fun s hs => ⟨by omega, hs.2⟩, b3⟩
theorem ip_m11 {nb : Nat → Nat} {k i j : Nat} {x : Int32} (h : ipp nb k i j x) (h1 : ¬ (k = 0 ∧ i = 0 ∧ j = 9)) (h2 : ¬ (k = 10 ∧ i = 0 ∧ j = nb 11)) (h3 : ¬ (k = 11 ∧ i = nb 11)) : ipp (hw_nb nb 11) k i j x := by
  have e9 : hw_nb nb 11 9 = nb 9 := rfl
  have e11 : hw_nb nb 11 11 = nb 11 + 1 := rfl
  unfold ipp at h ⊢
  rw [e9, e11]
  obtain ⟨a1, a2, a3, a4, a5, a6, a7, a8, a9, a10, a11, a12, a13⟩ := h
  refine ⟨a1, a2, fun e => absurd e h1, a4, a5, a6, a7, a8, fun e => a9 ⟨e.1, e.2.1, ?_⟩, fun e => a10 ⟨e.1, ?_⟩, a11, a12, a13⟩
  · rcases e with ⟨q1, q2, q3⟩
    have : j ≠ nb 11 := fun q => h2 ⟨q1, q2, q⟩
    omega
  · rcases e with ⟨q1, q2⟩
    have : i ≠ nb 11 := fun q => h3 ⟨q1, q⟩
    omega
theorem ic_opn {nb : Nat → Nat} {S : hw_St} (h : ic nb S) (h40 : nb 9 < 40) {u : Nat} (hu : u < 4) {r : Int32} (hr : ib_b r) : ic (hw_nb nb 9) (hs_opn S (nb 9) u r) := by
  obtain ⟨hA, h9, h11, hp⟩ := h.ip
  have hc := (hp 0 0 8).2.1 ⟨rfl, rfl, rfl⟩
  have e9 : hw_nb nb 9 9 = nb 9 + 1 := rfl
  have e11 : hw_nb nb 9 11 = nb 11 := rfl
  refine ip.ic ⟨hA.nb rfl, by rw [e9]; exact h40, by rw [e11]; exact h11, fun k i j => ?_⟩
  suffices H : ∀ k i j, ¬ False → ipp (hw_nb nb 9) k i j (hs_opn S (nb 9) u r k i j) from H k i j (fun q => q)
  clear k i j
  unfold hs_opn se_new
  refine ip_sv (E := fun _ _ _ => False) ?_ (ip_sv ?_ (ip_sv ?_ (ip_sv ?_ (ip_sv ?_ (ip_sv ?_ (ip_sv ?_ (ip_sv ?_ fun k i j he => ?_)))))))
  · refine ⟨?_, ?_, ?_, ?_, ?_, ?_, ?_, ?_, ?_, ?_, ?_, ?_, ?_⟩ <;> first | (intro v hi hv; cases hv; done) | (rintro ⟨q, -⟩; exact absurd q (by decide)) | (rintro ⟨-, -, q⟩; exact absurd q (by decide)) | skip
    rintro -
    rw [hc, e9, nI_succ]
  · refine ⟨?_, ?_, ?_, ?_, ?_, ?_, ?_, ?_, ?_, ?_, ?_, ?_, ?_⟩ <;> first | (intro v hi hv; cases hv; done) | (rintro ⟨q, -⟩; exact absurd q (by decide)) | skip
    rintro -
    rfl
  all_goals first
    | (refine ⟨fun v hi => absurd hi (Nat.not_lt_zero _), fun e => (nomatch e.1), fun e => (nomatch e.1), fun e => (nomatch e.1), fun e => (nomatch e.1), fun e => (nomatch e.1), fun e => (nomatch e.1), fun _ => ⟨fun e => ?_, fun e => ?_, fun e => ?_, fun e => ?_⟩, fun e => (nomatch e.1), fun e => (nomatch e.1), fun e => (nomatch e.1), fun e => (nomatch e.1), fun e => (nomatch e.1)⟩ <;> first | exact absurd e (by decide) | exact hr | exact ⟨u, hu, rfl⟩ | exact Or.inr rfl | exact hc)
    | skip
  unfold hw_nw
  by_cases e : k = 9 ∧ i = nb 9
  · obtain ⟨rfl, rfl⟩ := e
    rw [if_pos ⟨rfl, rfl⟩]
    refine ⟨fun v hi => absurd hi (Nat.not_lt_zero _), fun e => (nomatch e.1), fun e => (nomatch e.1), fun e => (nomatch e.1), fun e => (nomatch e.1), fun e => (nomatch e.1), fun e => (nomatch e.1), fun _ => ⟨fun e => ?_, fun e => ?_, fun e => ?_, fun e => ?_⟩, fun e => (nomatch e.1), fun e => (nomatch e.1), fun e => (nomatch e.1), fun e => (nomatch e.1), fun e => (nomatch e.1)⟩ <;> (exfalso; apply he; simp [e])
  · rw [if_neg e]
    refine ip_m9 (hp k i j) (fun q => he ?_) (fun q => he ?_) e <;> simp [q]
theorem ic_giv {nb : Nat → Nat} {S : hw_St} (h : ic nb S) (h150 : nb 11 < 150) {k : Int32} (hk : k = 0 ∨ k = 1 ∨ k = 2) {s : Nat} (hs : s < nb 9) {w f c : Int32} (hw : ∃ w', w' < 6 ∧ w = nI w') (hf : f = -1 ∨ ∃ p, p < nb 11 ∧ f = nI p) : ic (hw_nb nb 11) (hs_giv S (nb 11) k s w f c) := by
  obtain ⟨hA, h9, h11, hp⟩ := h.ip
  have hc := (hp 0 0 9).2.2.1 ⟨rfl, rfl, rfl⟩
  have e9 : hw_nb nb 11 9 = nb 9 := rfl
  have e11 : hw_nb nb 11 11 = nb 11 + 1 := rfl
  refine ip.ic ⟨hA.nb rfl, by rw [e9]; exact h9, by rw [e11]; exact h150, fun k i j => ?_⟩
  suffices H : ∀ k1 i j, ¬ False → ipp (hw_nb nb 11) k1 i j (hs_giv S (nb 11) _ s w f c k1 i j) from H _ i j (fun q => q)
  clear i j
  unfold hs_giv tk_new
  refine ip_sv (E := fun _ _ _ => False) ?_ (ip_sv ?_ (ip_sv ?_ (ip_sv ?_ (ip_sv ?_ (ip_sv ?_ (ip_sv ?_ (ip_sv ?_ (ip_sv ?_ fun k i j he => ?_))))))))
  · refine ⟨?_, ?_, ?_, ?_, ?_, ?_, ?_, ?_, ?_, ?_, ?_, ?_, ?_⟩ <;> first | (intro v hi hv; cases hv; done) | (rintro ⟨q, -⟩; exact absurd q (by decide)) | (rintro ⟨-, -, q⟩; exact absurd q (by decide)) | skip
    rintro -
    rw [hc, e11, nI_succ]
  · refine ⟨?_, ?_, ?_, ?_, ?_, ?_, ?_, ?_, ?_, ?_, ?_, ?_, ?_⟩ <;> first | (intro v hi hv; cases hv; done) | (rintro ⟨q, -⟩; exact absurd q (by decide)) | skip
    rintro -
    rfl
  all_goals first
    | (refine ⟨fun v hi => absurd hi (Nat.not_lt_zero _), fun e => (nomatch e.1), fun e => (nomatch e.1), fun e => (nomatch e.1), fun e => (nomatch e.1), fun e => (nomatch e.1), fun e => (nomatch e.1), fun e => (nomatch e.1), fun e => (nomatch e.1), fun _ => ⟨fun e => ?_, fun e => ?_, fun e => ?_, fun e => ?_, fun e => ?_, fun e => ?_, fun e => ?_⟩, fun e => (nomatch e.1), fun e => (nomatch e.1), fun e => (nomatch e.1)⟩ <;> first | exact absurd e (by decide) | exact hk | exact ⟨s, hs, rfl⟩ | exact hw | exact hf | exact hc)
    | skip
  unfold hw_nw
  by_cases e : k = 11 ∧ i = nb 11
  · obtain ⟨rfl, rfl⟩ := e
    rw [if_pos ⟨rfl, rfl⟩]
    refine ⟨fun v hi => absurd hi (Nat.not_lt_zero _), fun e => (nomatch e.1), fun e => (nomatch e.1), fun e => (nomatch e.1), fun e => (nomatch e.1), fun e => (nomatch e.1), fun e => (nomatch e.1), fun e => (nomatch e.1), fun e => (nomatch e.1), fun _ => ⟨fun e => ?_, fun e => ?_, fun e => ?_, fun e => ?_, fun e => ?_, fun e => ?_, fun e => ?_⟩, fun e => (nomatch e.1), fun e => (nomatch e.1), fun e => (nomatch e.1)⟩ <;> first | (exfalso; apply he; simp [e]; done) | (subst e; exact Or.inl rfl)
  · rw [if_neg e]
    refine ip_m11 (hp k i j) (fun q => he ?_) (fun q => he ?_) e <;> simp [q]
