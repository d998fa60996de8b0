/-! Draft and page get their numbers. -/
theorem hw_cel_14 {B : hw_B} {i t : Nat} {f : Nat → Int32} {H : Heap} (e : hw_a B 4 t = hw_a B 14 i) (h : hw_cel B 14 i f H) : hw_cel B 4 t f H := by
  obtain ⟨r, h1, h2⟩ := (hw_cel_o (k := 14) (ci := 2) rfl).mp h
  refine (hw_cel_o (k := 4) (ci := 2) rfl).mpr ⟨r, h1, ?_⟩
  rw [e]; exact h2
theorem hw_cel_15 {B : hw_B} {i t : Nat} {f : Nat → Int32} {H : Heap} (e : hw_a B 5 t = hw_a B 15 i) (hl : hw_ln 5 t = hw_ln 15 i) (h : hw_cel B 15 i f H) : hw_cel B 5 t f H := by
  have h2 := (hw_cel_a (k := 15) (et := 2) rfl).mp h
  refine (hw_cel_a (k := 5) (et := 2) rfl).mpr ?_
  rw [e, hl]; exact h2
theorem hr_ren {X : hw_X} {B : hw_B} {fr : Nat → Prop} {nb nb' : Nat → Nat} {S S' : hw_St} {z c sl : Nat} {Q : State → Prop} {nL pc : Nat} {L : List (Nat × Value)} {st : List Value} (f : Nat → Nat → Nat × Nat) (h : ∀ k i, i < nb' k → (f k i).2 < nb (f k i).1 ∧ hw_a B k i = hw_a B (f k i).1 (f k i).2 ∧ ∀ H, hw_cel B (f k i).1 (f k i).2 (S (f k i).1 (f k i).2) H → hw_cel B k i (S' k i) H) (inj : ∀ k i k' i', i < nb' k → i' < nb' k' → (f k i).1 = (f k' i').1 → (f k i).2 = (f k' i').2 → k = k' ∧ i = i') (K : hw_V X B fr nb' S' z c sl Q nL pc L st) : hw_V X B fr nb S z c sl Q nL pc L st := by
  intro ls H locs hl hP hz hf
  refine K ls H locs hl ⟨hP.1, fun k i hi => ⟨?_, (h k i hi).2.2 H (hP.2.1 _ _ (h k i hi).1).2⟩, fun k i k' i' hi hi' e => ?_⟩ hz ⟨hf.1, fun k i hi => ?_, hf.2.2⟩
  · rw [(h k i hi).2.1]; exact (hP.2.1 _ _ (h k i hi).1).1
  · rw [(h k i hi).2.1, (h k' i' hi').2.1] at e
    have q := hP.2.2 _ _ _ _ (h k i hi).1 (h k' i' hi').1 e
    exact inj k i k' i' hi hi' q.1 q.2
  · rw [(h k i hi).2.1]; exact hf.2.1 _ _ (h k i hi).1
/-- draft and page get their numbers -/
def hs_ren (S : hw_St) : hw_St := fun k i => if k = 4 ∧ i = 16 then S 14 0 else if k = 4 ∧ i = 17 then S 14 1 else if k = 5 ∧ i = 16 then S 15 0 else if k = 5 ∧ i = 17 then S 15 1 else S k i
def hw_rn (k i : Nat) : Nat × Nat := if k = 4 ∧ i = 16 then (14, 0) else if k = 4 ∧ i = 17 then (14, 1) else if k = 5 ∧ i = 16 then (15, 0) else if k = 5 ∧ i = 17 then (15, 1) else (k, i)
def n_ren (nb : Nat → Nat) : Nat → Nat := fun k => if k = 4 ∨ k = 5 then 18 else if k = 14 ∨ k = 15 then 0 else nb k
theorem hr_ren1 {X : hw_X} {B : hw_B} {fr : Nat → Prop} {nb : Nat → Nat} {S : hw_St} {z c sl : Nat} {Q : State → Prop} {nL pc : Nat} {L : List (Nat × Value)} {st : List Value} (h4 : nb 4 = 16) (h5 : nb 5 = 16) (h14 : nb 14 = 2) (h15 : nb 15 = 2) (a1 : hw_a B 4 16 = hw_a B 14 0) (a2 : hw_a B 4 17 = hw_a B 14 1) (a3 : hw_a B 5 16 = hw_a B 15 0) (a4 : hw_a B 5 17 = hw_a B 15 1) (K : hw_V X B fr (n_ren nb) (hs_ren S) z c sl Q nL pc L st) : hw_V X B fr nb S z c sl Q nL pc L st := by
  refine hr_ren hw_rn (fun k i hi => ?_) (fun k i k' i' hi hi' e1 e2 => ?_) K
  · unfold n_ren at hi
    unfold hw_rn
    by_cases c1 : k = 4 ∧ i = 16
    · obtain ⟨rfl, rfl⟩ := c1
      exact ⟨by show 0 < nb 14; omega, a1, fun H q => hw_cel_14 a1 q⟩
    · by_cases c2 : k = 4 ∧ i = 17
      · obtain ⟨rfl, rfl⟩ := c2
        exact ⟨by show 1 < nb 14; omega, a2, fun H q => hw_cel_14 a2 q⟩
      · by_cases c3 : k = 5 ∧ i = 16
        · obtain ⟨rfl, rfl⟩ := c3
          exact ⟨by show 0 < nb 15; omega, a3, fun H q => hw_cel_15 a3 rfl q⟩
        · by_cases c4 : k = 5 ∧ i = 17
          · obtain ⟨rfl, rfl⟩ := c4
            exact ⟨by show 1 < nb 15; omega, a4, fun H q => hw_cel_15 a4 rfl q⟩
          · rw [if_neg c1, if_neg c2, if_neg c3, if_neg c4]
            refine ⟨?_, rfl, fun H q => ?_⟩
            · show i < nb k
              by_cases e4 : k = 4
              · subst e4; rw [if_pos (Or.inl rfl)] at hi; omega
              · by_cases e5 : k = 5
                · subst e5; rw [if_pos (Or.inr rfl)] at hi; omega
                · rw [if_neg (by omega)] at hi
                  split at hi
                  · omega
                  · exact hi
            · unfold hs_ren
              rw [if_neg c1, if_neg c2, if_neg c3, if_neg c4]; exact q
  · have lim : ∀ k i, i < n_ren nb k → ¬ k = 14 ∧ ¬ k = 15 := fun k i hi => by
      unfold n_ren at hi
      constructor <;> (rintro rfl; exact absurd hi (Nat.not_lt_zero _))
    have l1 := lim k i hi
    have l2 := lim k' i' hi'
    unfold hw_rn at e1 e2
    repeat' split at e1
    all_goals repeat' split at e2
    all_goals (simp only at e1 e2; first | omega | (exact ⟨e1, e2⟩) | (exfalso; omega))
