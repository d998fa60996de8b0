/-! What keeps the invariants of the reference. -/
/-- md_po depends on the sessions of the tickets and on which have ended -/
theorem md_po_eq {S S' : hw_St} (k : Nat) (h1 : ∀ i, i < k → S' 36 0 i = S 36 0 i) (h2 : ∀ i, i < k → S' 34 0 (S 36 0 i).toNatClampNeg = S 34 0 (S 36 0 i).toNatClampNeg) : md_po S' k = md_po S k := by
  induction k with
  | zero => rfl
  | succ k ih =>
    unfold md_po
    rw [ih (fun i hi => h1 i (by omega)) (fun i hi => h2 i (by omega)), h1 k (by omega), h2 k (by omega)]
theorem ix_t {ns nt : Nat} {S : hw_St} (h : ix ns nt S) (x : Int32) : ix ns nt (hw_sv S 20 0 0 x) := by
  obtain ⟨h1, nm, h2, h3⟩ := h
  exact ⟨h1, nm, h2, by rw [md_po_eq (S := S) (S' := hw_sv S 20 0 0 x) nt (fun _ _ => rfl) (fun _ _ => rfl)]; exact h3⟩
theorem ix_pg {ns nt b : Nat} {S S' : hw_St} (h : ix ns nt S) (q : pg_r b S S') : ix ns nt S' := by
  obtain ⟨h1, nm, h2, h3⟩ := h
  exact ⟨im_pg h1 q, nm, by rw [q.1 20 0 26 (by decide) (by decide) (by decide)]; exact h2, by rw [md_po_eq nt (fun i _ => q.1 36 0 i (by decide) (by decide) (by omega)) (fun i _ => q.1 34 0 _ (by decide) (by decide) (by omega))]; exact h3⟩
theorem im_opn {ns nt : Nat} {S : hw_St} (h : im ns nt S) (h40 : ns < 40) {u : Nat} (hu : u < 4) (r : Int32) : im (ns + 1) nt (md_opn S ns u r) := by
  obtain ⟨h1, h2, h3, h4, h5, h6, h7, h8, h9⟩ := h
  refine ⟨⟨h40, by show S 20 0 12 + 1 = _; rw [h1.2, nI_succ]⟩, h2, h3, h4, fun i hi => ?_, fun i hi => ?_, h7, h8, h9⟩
  · by_cases e : i = ns
    · subst e; exact ⟨u, hu, by simp [md_opn, hw_sv]⟩
    · rw [show md_opn S ns u r 30 0 i = S 30 0 i by simp [md_opn, hw_sv, e]]; exact h5 i (by omega)
  · obtain ⟨s, hs, q⟩ := h6 i hi
    exact ⟨s, by omega, q⟩
theorem ix_opn {ns nt : Nat} {S : hw_St} (h : ix ns nt S) (h40 : ns < 40) {u : Nat} (hu : u < 4) (r : Int32) : ix (ns + 1) nt (md_opn S ns u r) := by
  obtain ⟨h1, nm, h2, h3⟩ := h
  refine ⟨im_opn h1 h40 hu r, nm, h2, ?_⟩
  have e0 : md_po (md_opn S ns u r) nt = md_po S nt := by
    refine md_po_eq nt (fun _ _ => rfl) (fun i hi => ?_)
    obtain ⟨s, hs, q⟩ := h1.2.2.2.2.2.1 i hi
    rw [q, nI_clamp (by omega)]
    have e : ¬ s = ns := by omega
    simp [md_opn, hw_sv, e]
  rw [e0]; exact h3
theorem ix_giv {ns nt : Nat} {S : hw_St} (h : ix ns nt S) (h150 : nt < 150) {k s w f p : Int32} (hs : ∃ s', s' < ns ∧ s = nI s') (hw : ∃ w', w' < 6 ∧ w = nI w') (hp : p = -1 ∨ ∃ q, q < nt ∧ p = nI q) (hk : k = 2 → ∀ q, q < nt → p = nI q → ¬ S 35 0 q = 2) : ix ns (nt + 1) (md_giv S nt k s w f p) := by
  obtain ⟨h1, nm, h2, h3⟩ := h
  refine ⟨im_giv h1 h150 hs hw hp hk, nm, h2, ?_⟩
  have e : md_po (md_giv S nt k s w f p) nt = md_po S nt := by
    refine md_po_eq nt (fun i hi => ?_) (fun i hi => rfl)
    have e1 : ¬ i = nt := by omega
    simp [md_giv, hw_sv, e1]
  unfold md_po
  rw [e]
  split <;> omega
