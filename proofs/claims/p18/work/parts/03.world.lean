/-! The world: every cell of class, reference and law is (kind, number); its slots are Int32 codes (S kind number slot); a reference is the number of a cell of a known kind, -1 is null. -/
abbrev hw_St : Type := Nat → Nat → Nat → Int32
abbrev hw_D : Type := va_G × (Nat → ClassId)
/-- base; the old heap; class numbers; addresses -/
abbrev hw_B : Type := Nat × Heap × hw_D × (Nat → Nat → Nat)
def hw_a (B : hw_B) (k i : Nat) : Nat := B.2.2.2 k i
def hw_sv (S : hw_St) (k i j : Nat) (v : Int32) : hw_St := fun k' i' j' => if k' = k ∧ i' = i ∧ j' = j then v else S k' i' j'
def hw_rd (B : hw_B) (t : Nat) (v : Int32) : Value := match t with
  | 0 => .int v
  | 1 => .long v.toInt64
  | t + 2 => if v < 0 then .null else .ref (hw_a B t v.toNatClampNeg)
def hw_cel (B : hw_B) (k i : Nat) (f : Nat → Int32) (H : Heap) : Prop := match hw_kd k with
  | .inl ci => ∃ r : vw_C, vwCl[ci]? = some r ∧ t_OB (hw_a B k i) (B.2.2.1.1.1 ci) r.2.2 (B.2.2.1.1.2 ci) H (fun j => hw_rd B (hw_ty k j) (f j))
  | .inr et => H[hw_a B k i]? = some (arrV (B.2.2.1.2 et) (hw_ln k i) (fun j => hw_rd B (hw_ty k j) (f j)))
theorem hw_cel_o {B : hw_B} {k i ci : Nat} {f : Nat → Int32} {H : Heap} (hk : hw_kd k = .inl ci) : hw_cel B k i f H ↔ ∃ r : vw_C, vwCl[ci]? = some r ∧ t_OB (hw_a B k i) (B.2.2.1.1.1 ci) r.2.2 (B.2.2.1.1.2 ci) H (fun j => hw_rd B (hw_ty k j) (f j)) := by
  simp only [hw_cel, hk]
theorem hw_cel_a {B : hw_B} {k i et : Nat} {f : Nat → Int32} {H : Heap} (hk : hw_kd k = .inr et) : hw_cel B k i f H ↔ H[hw_a B k i]? = some (arrV (B.2.2.1.2 et) (hw_ln k i) (fun j => hw_rd B (hw_ty k j) (f j))) := by
  simp only [hw_cel, hk]
def hw_P (B : hw_B) (nb : Nat → Nat) (S : hw_St) (H : Heap) : Prop :=
  (B.1 ≤ H.size ∧ ∀ q : Nat, q < B.1 → H[q]? = B.2.1[q]?) ∧ (∀ k i : Nat, i < nb k → B.1 ≤ hw_a B k i ∧ hw_cel B k i (S k i) H) ∧ ∀ k i k' i' : Nat, i < nb k → i' < nb k' → hw_a B k i = hw_a B k' i' → k = k' ∧ i = i'
theorem hw_cel.kept {B : hw_B} {k i : Nat} {f : Nat → Int32} {H H1 : Heap} (h : hw_cel B k i f H) (hq : H1[hw_a B k i]? = H[hw_a B k i]?) : hw_cel B k i f H1 := by
  cases hk : hw_kd k with
  | inl ci =>
    obtain ⟨r, h1, h2⟩ := (hw_cel_o hk).mp h
    exact (hw_cel_o hk).mpr ⟨r, h1, h2.kept hq⟩
  | inr et => exact (hw_cel_a hk).mpr (hq.trans ((hw_cel_a hk).mp h))
theorem hw_cel.lt {B : hw_B} {k i : Nat} {f : Nat → Int32} {H : Heap} (h : hw_cel B k i f H) : hw_a B k i < H.size := by
  cases hk : hw_kd k with
  | inl ci =>
    obtain ⟨r, h1, cell, h2, -⟩ := (hw_cel_o hk).mp h
    exact (Array.getElem?_eq_some_iff.mp h2).1
  | inr et => exact (Array.getElem?_eq_some_iff.mp ((hw_cel_a hk).mp h)).1
theorem hw_P.set {B : hw_B} {nb : Nat → Nat} {S S' : hw_St} {H H1 : Heap} {k i : Nat} (h : hw_P B nb S H) (hi : i < nb k) (hs : H1.size = H.size) (ho : ∀ q : Nat, q ≠ hw_a B k i → H1[q]? = H[q]?) (hc : hw_cel B k i (S' k i) H1) (hS : ∀ k' i', ¬ (k' = k ∧ i' = i) → S' k' i' = S k' i') : hw_P B nb S' H1 := by
  refine ⟨⟨by rw [hs]; exact h.1.1, fun q hq => ?_⟩, fun k' i' hi' => ⟨(h.2.1 k' i' hi').1, ?_⟩, h.2.2⟩
  · have h1 := (h.2.1 k i hi).1
    rw [ho q (by omega)]
    exact h.1.2 q hq
  · by_cases e : k' = k ∧ i' = i
    · obtain ⟨rfl, rfl⟩ := e
      exact hc
    · rw [hS k' i' e]
      exact (h.2.1 k' i' hi').2.kept (ho _ (fun q => e (h.2.2 _ _ _ _ hi' hi q)))
theorem hw_sv_off {S : hw_St} {k i j k' i' : Nat} {v : Int32} (h : ¬ (k' = k ∧ i' = i)) : hw_sv S k i j v k' i' = S k' i' := by
  funext j'
  unfold hw_sv
  rw [if_neg]
  rintro ⟨a, b, -⟩
  exact h ⟨a, b⟩
theorem hw_sv_row {S : hw_St} {k i j : Nat} {v : Int32} (j' : Nat) : hw_sv S k i j v k i j' = if j' = j then v else S k i j' := by
  unfold hw_sv
  by_cases h : j' = j
  · rw [if_pos ⟨rfl, rfl, h⟩, if_pos h]
  · rw [if_neg (fun q => h q.2.2), if_neg h]
theorem hw_sv_same {S : hw_St} {k i j : Nat} {v : Int32} : hw_sv S k i j v k i j = v := by rw [hw_sv_row, if_pos rfl]
/-- a String constant, the i-th: its cell and its bytes lie in the old heap -/
def hw_sc (B : hw_B) (i : Nat) (q : String × Nat × String) (U : State) : Prop := vk_R q.1 q.2.1 q.2.2 (hw_a B 60 i) U ∧ va_O "java/lang/String" (hw_a B 60 i) (fun x => B.1 ≤ x) U B.2.1 ∧ va_OF "java/lang/String" "coder" "B" (.int 0) (hw_a B 60 i) (fun x => B.1 ≤ x) U B.2.1 ∧ va_OF "java/lang/String" "value" "[B" (.ref (hw_a B 61 i)) (hw_a B 60 i) (fun x => B.1 ≤ x) U B.2.1 ∧ ∃ f : Nat → Int32, va_T .byte (hw_a B 61 i) (hw_sln i) (fun j => .int (f j)) (fun x => B.1 ≤ x) U B.2.1
/-- what throwing needs, and the String constants -/
def hw_Z (B : hw_B) (U : State) : Prop := (vx_Zq Bundle.tN "UNASSIGNED_STACK" Bundle.steD (fun x => B.1 ≤ x) U B.2.1 ∧ vx_Zq Bundle.tN "SUPPRESSED_SENTINEL" Bundle.listD (fun x => B.1 ≤ x) U B.2.1) ∧ va_Nc "java/lang/IllegalStateException" "java/lang/IllegalArgumentException" U ∧ (∀ (i : Nat) (q : String × Nat × String), hw_strs[i]? = some q → hw_sc B i q U) ∧ va_Z "java/lang/String" "COMPACT_STRINGS" "Z" (.int 1) (fun x => B.1 ≤ x) U B.2.1 ∧ va_Zq "jdk/internal/util/Preconditions" "SIOOBE_FORMATTER" "Ljava/util/function/BiFunction;" (fun x => B.1 ≤ x) U B.2.1
/-- what the tables say -/
def hw_K (B : hw_B) (U : State) : Prop := (∀ (c : Nat) (q : vw_C), vwCl[c]? = some q → u_Kn U q.1 q.2.1 q.2.2 (B.2.2.1.1.1 c) (B.2.2.1.1.2 c)) ∧ (∀ et : Nat, et < hw_nt → ArrOfT U (B.2.2.1.2 et) (hw_ft et) ∧ va_RA U (B.2.2.1.2 et) (hw_ft et)) ∧ (∀ w ∈ hw_TS, va_Nw w U) ∧ hw_Z B U
theorem hw_Nw_moved {s U : State} (hW : s.WarmedH U.vm) {w : Cond} (hw : hw_okw w = true) (h : va_Nw w s) : va_Nw w U := by
  have hg : goodWord w = true → va_Nw w U := fun hg => word_at hW (good_of_word hg) h
  cases w with
  | fieldLinkNest a i b n d z => exact va_Nw.warmF hW h
  | methodLinkNest a i x z => exact va_Nw.warmM hW h
  | declares x => exact va_Nw.warmD hW h
  | castable C T => exact va_Nw.warmC hW h
  | arrayOver t =>
    cases t with
    | object C => exact va_AO.moved hW.alike h
    | _ => exact hg hw
  | _ => exact hg hw
theorem hw_sc.moved {B : hw_B} {i : Nat} {q : String × Nat × String} {s U : State} (hW : s.WarmedH U.vm) (h : hw_sc B i q s) : hw_sc B i q U := by
  obtain ⟨h1, h2, h3, h4, f, h5⟩ := h
  exact ⟨vk_R.warm hW h1, va_O.moved hW.alike h2, va_OF.moved hW.alike h3, va_OF.moved hW.alike h4, f, va_T.moved hW.alike h5⟩
theorem hw_K.moved {B : hw_B} {s U : State} (hW : s.WarmedH U.vm) (h : hw_K B s) : hw_K B U :=
  ⟨fun c q hq => u_Kn_moved hW.alike (h.1 c q hq), fun et he => ⟨arrOfT_moved hW.alike (h.2.1 et he).1, (h.2.1 et he).2.moved hW.alike⟩, fun w hw => hw_Nw_moved hW (List.all_eq_true.mp hw_ok w hw) (h.2.2.1 w hw), ⟨vx_Zq.moved hW.alike h.2.2.2.1.1, vx_Zq.moved hW.alike h.2.2.2.1.2⟩, va_Nc.moved hW.alike h.2.2.2.2.1, fun i q hq => (h.2.2.2.2.2.1 i q hq).moved hW, va_Z.moved hW.alike h.2.2.2.2.2.2.1, va_Zq.moved hW.alike h.2.2.2.2.2.2.2⟩
