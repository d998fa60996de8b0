/-! Rows that read, write and make cells. -/
def hw_F (own : String) (index k j : Nat) (ft : FieldType) (fin : Bool) : Prop :=
  ∃ (ci : Nat) (C : String) (T : u_T) (N : Nat) (ty0 : Nat → FieldType), hw_kd k = .inl ci ∧ vwCl[ci]? = some (C, T, N) ∧ j < N ∧ (∀ w ∈ u_ws C T N, w ∈ hw_TS) ∧ (T j).1 = C ∧ (T j).2.2.2 = fin ∧ (∀ k, k < N → parseFieldDescriptor (T k).2.2.1 = some (ty0 k)) ∧ ty0 j = ft ∧
    (∀ a, a < N → ∀ b, b < N → a ≠ b → (T a).2.1 ≠ (T b).2.1) ∧ (Cond.fieldLink own index C (T j).2.1 (T j).2.2.1 ∈ hw_TS ∨ ∃ host : String, Cond.fieldLinkNest own index C (T j).2.1 (T j).2.2.1 host ∈ hw_TS)
def hw_d0 (t : Nat) : Int32 := match t with
  | 0 => 0
  | 1 => 0
  | _ => -1
def hw_nb (nb : Nat → Nat) (k : Nat) : Nat → Nat := fun k' => if k' = k then nb k + 1 else nb k'
def hw_nw (S : hw_St) (k i : Nat) : hw_St := fun k' i' => if k' = k ∧ i' = i then (fun j => hw_d0 (hw_ty k j)) else S k' i'
def hw_N (own : String) (index k N : Nat) : Prop :=
  ∃ (ci : Nat) (C : String) (T : u_T) (ty0 : Nat → FieldType), hw_kd k = .inl ci ∧ vwCl[ci]? = some (C, T, N) ∧ (∀ w ∈ u_ws C T N, w ∈ hw_TS) ∧ (∀ k, k < N → parseFieldDescriptor (T k).2.2.1 = some (ty0 k)) ∧
    Cond.classLink own index C ∈ hw_TS ∧ Cond.instantiable C N ∈ hw_TS ∧ Cond.initialized C ∈ hw_TS ∧ ∀ (B : hw_B) (j : Nat), j < N → defaultValue (ty0 j) = hw_rd B (hw_ty k j) (hw_d0 (hw_ty k j))
theorem hw_P.push {B : hw_B} {nb : Nat → Nat} {S : hw_St} {H H1 : Heap} {k : Nat} (h : hw_P B nb S H) (hA : hw_a B k (nb k) = H.size) (hs : H1.size = H.size + 1) (ho : ∀ q : Nat, q < H.size → H1[q]? = H[q]?) (hc : hw_cel B k (nb k) (fun j => hw_d0 (hw_ty k j)) H1) : hw_P B (hw_nb nb k) (hw_nw S k (nb k)) H1 := by
  have hb := h.1.1
  refine ⟨⟨by omega, fun q hq => (ho q (by omega)).trans (h.1.2 q hq)⟩, fun k' i' hi' => ?_, fun k1 i1 k2 i2 h1 h2 he => ?_⟩
  · by_cases e : k' = k ∧ i' = nb k
    · obtain ⟨rfl, rfl⟩ := e
      refine ⟨by rw [hA]; exact hb, ?_⟩
      have e1 : hw_nw S k' (nb k') k' (nb k') = fun j => hw_d0 (hw_ty k' j) := by simp [hw_nw]
      rw [e1]; exact hc
    · have hi2 : i' < nb k' := by
        unfold hw_nb at hi'
        by_cases ek : k' = k
        · subst ek
          rw [if_pos rfl] at hi'
          have : i' ≠ nb k' := fun q => e ⟨rfl, q⟩
          omega
        · rw [if_neg ek] at hi'; exact hi'
      have e1 : hw_nw S k (nb k) k' i' = S k' i' := by unfold hw_nw; rw [if_neg e]
      rw [e1]
      exact ⟨(h.2.1 k' i' hi2).1, (h.2.1 k' i' hi2).2.kept (ho _ (h.2.1 k' i' hi2).2.lt)⟩
  · have key : ∀ k' i' : Nat, i' < hw_nb nb k k' → (k' = k ∧ i' = nb k) ∨ (i' < nb k' ∧ hw_a B k' i' < H.size) := fun k' i' hi' => by
      by_cases e : k' = k ∧ i' = nb k
      · exact Or.inl e
      · refine Or.inr ?_
        have hi2 : i' < nb k' := by
          unfold hw_nb at hi'
          by_cases ek : k' = k
          · subst ek
            rw [if_pos rfl] at hi'
            have : i' ≠ nb k' := fun q => e ⟨rfl, q⟩
            omega
          · rw [if_neg ek] at hi'; exact hi'
        exact ⟨hi2, (h.2.1 k' i' hi2).2.lt⟩
    rcases key k1 i1 h1 with ⟨a1, b1⟩ | ⟨a1, b1⟩ <;> rcases key k2 i2 h2 with ⟨a2, b2⟩ | ⟨a2, b2⟩
    · exact ⟨a1.trans a2.symm, b1.trans b2.symm⟩
    · exfalso; rw [a1, b1, hA] at he; omega
    · exfalso; rw [a2, b2, hA] at he; omega
    · exact h.2.2 _ _ _ _ a1 a2 he
section HH
variable {X : hw_X} {B : hw_B} {fr : Nat → Prop} {nb : Nat → Nat} {S : hw_St} {z c sl : Nat} {Q : State → Prop} {cc : ByteArray} {nL pc : Nat} {own : String} {L : List (Nat × Value)} {st : List Value}
theorem hr_get (G : hw_G X B fr cc nL own) {k i j index : Nat} {ft : FieldType} {fin : Bool} {v : Value} (F : hw_F own index k j ft fin) (hi : i < nb k) (hv : hw_rd B (hw_ty k j) (S k i j) = v) (d : decode cc pc = .ok (.getfield index, 3)) (K : hw_V X B fr nb S z c sl Q nL (pc + 3) L (v :: st)) : hw_V X B fr nb S z c sl Q nL pc L (.ref (hw_a B k i) :: st) := by
  intro ls H locs hl hP hz hf
  obtain ⟨ci, C, T, N, ty0, hk, hc, hj, hin, hT1, -, -, -, -, hlk⟩ := F
  obtain ⟨r, h1, cell, q1, q2, q3, q4⟩ := (hw_cel_o hk).mp (hP.2.1 k i hi).2
  have hr : r = (C, T, N) := Option.some.inj (h1.symm.trans hc)
  subst hr
  obtain ⟨hS, hfc, kC, hkC, hkind⟩ := G.2.2.2.2.1.1 ci _ hc
  obtain ⟨cf, kf, fi, f, hif, hsl⟩ := hS j hj
  have hN : ∀ w ∈ hw_TS, w.before #[] (xs X) = true := G.2.2.2.2.1.2.2.1
  have hst := (u_facts (args := #[]) hfc hkC (u_lays hN hin hj) hif).1
  have hval : cell.slots[f.slot]? = some v := by rw [hsl]; exact (q4 j hj).trans (congrArg some hv)
  have hif2 : (xs X).fieldFound? (T j).1 (T j).2.1 (T j).2.2.1 = some (cf, kf, fi, f) := hif
  rw [hT1] at hif2
  rcases hlk with hlk | ⟨host, hlk⟩
  · exact W.getf G.1 G.2.1 G.2.2.2.1 (va_any rfl (hN _ hlk)) hif2 hst q1 (by rw [q3]; exact fun h => by cases h) hval rfl rfl d (K ls H locs hl hP hz hf)
  · exact va_Wgetf G.1 G.2.1 G.2.2.2.1 (va_any rfl (hN _ hlk)) hif2 hst q1 (by rw [q3]; exact fun h => by cases h) hval rfl rfl d (K ls H locs hl hP hz hf)
theorem hw_locs {locs : List Loc} {k i j : Nat} (hf : hw_L B fr nb z locs) (hi : i < nb k) : hw_L B fr nb z (locs ++ [(⟨hw_a B k i, j⟩ : Loc)]) := ⟨fun q hq => by
  rcases List.mem_append.mp hq with h | h
  · exact hf.1 q h
  · rw [List.mem_singleton.mp h]; exact hf.2.1 k i hi, hf.2⟩
theorem hw_Lnew {locs : List Loc} {k : Nat} (hf : hw_L B fr nb z locs) (hA : hw_a B k (nb k) = z) : hw_L B fr (hw_nb nb k) (z + 1) locs := by
  refine ⟨hf.1, fun k' i' hi' => ?_, fun q hq => hf.2.2 q (by omega)⟩
  by_cases e : k' = k ∧ i' = nb k
  · obtain ⟨rfl, rfl⟩ := e
    rw [hA]; exact hf.2.2 z (Nat.le_refl z)
  · refine hf.2.1 k' i' ?_
    unfold hw_nb at hi'
    by_cases ek : k' = k
    · subst ek
      rw [if_pos rfl] at hi'
      have : i' ≠ nb k' := fun q => e ⟨rfl, q⟩
      omega
    · rw [if_neg ek] at hi'; exact hi'
theorem hw_upd {B : hw_B} {k i j : Nat} {x : Int32} {v : Value} (hv : hw_rd B (hw_ty k j) x = v) (S : hw_St) (j' : Nat) : updV (fun j => hw_rd B (hw_ty k j) (S k i j)) j v j' = hw_rd B (hw_ty k j') (hw_sv S k i j x k i j') := by
  rw [hw_sv_row]
  unfold updV
  by_cases h : j' = j
  · subst h; rw [if_pos rfl, if_pos rfl, hv]
  · rw [if_neg h, if_neg h]
theorem hr_put (G : hw_G X B fr cc nL own) {k i j index : Nat} {ft : FieldType} {x : Int32} {v : Value} (F : hw_F own index k j ft false) (hi : i < nb k) (hv : hw_rd B (hw_ty k j) x = v) (hn : narrow ft v = v) (hft : fits ft v = true) (d : decode cc pc = .ok (.putfield index, 3)) (K : hw_V X B fr nb (hw_sv S k i j x) z c sl Q nL (pc + 3) L st) : hw_V X B fr nb S z c sl Q nL pc L (v :: .ref (hw_a B k i) :: st) := by
  intro ls H locs hl hP hz hf
  obtain ⟨ci, C, T, N, ty0, hk, hc, hj, hin, hT1, hfin, hty, hf0, hnm, hlk⟩ := F
  obtain ⟨r, h1, cell, q1, q2, q3, q4⟩ := (hw_cel_o hk).mp (hP.2.1 k i hi).2
  have hr : r = (C, T, N) := Option.some.inj (h1.symm.trans hc)
  subst hr
  obtain ⟨hS, hfc, kC, hkC, hkind⟩ := G.2.2.2.2.1.1 ci _ hc
  have hN : ∀ w ∈ hw_TS, w.before #[] (xs X) = true := G.2.2.2.2.1.2.2.1
  have hap : ∀ x y, x < N → y < N → x ≠ y → B.2.2.1.1.2 ci x ≠ B.2.2.1.1.2 ci y := by
    intro x y hx hy hne
    obtain ⟨_, _, _, fa, hia, ea⟩ := hS x hx
    obtain ⟨_, _, _, fb, hib, eb⟩ := hS y hy
    rw [← ea, ← eb]
    refine u_apart (u_lays hN hin hx) (u_lays hN hin hy) hia hib ?_
    rw [(State.fieldFound?_type hia (hty x hx)).1, (State.fieldFound?_type hib (hty y hy)).1]
    exact hnm x hx y hy hne
  obtain ⟨cf, kf, fi, f, hif, hsl⟩ := hS j hj
  have hlay := hN _ (hin _ (u_in_lay hj))
  unfold u_lay at hlay
  rw [if_neg (by rw [hfin]; decide)] at hlay
  have hst := (u_facts (args := #[]) hfc hkC (u_lays hN hin hj) hif).1
  have hd : parseFieldDescriptor (T j).2.2.1 = some ft := by rw [hty j hj, hf0]
  have h6 := u_store hfc hkC hkind hlay hif hd hn hft
  have hif2 : (xs X).fieldFound? (T j).1 (T j).2.1 (T j).2.2.1 = some (cf, kf, fi, f) := hif
  rw [hT1] at hif2
  have hlt : f.slot < cell.slots.size := by rw [hsl]; exact k2_hasslot (q4 j hj)
  have fin : ∀ H' : Heap, H'[hw_a B k i]? = some (cell.setSlot f.slot v) → H'.size = H.size → (∀ q, q ≠ hw_a B k i → H'[q]? = H[q]?) → hw_W X H' (locs ++ [⟨hw_a B k i, f.slot⟩]) c sl Q (F0 (xm X) (pc + 3) ls st) := by
    intro H' e1 e2 e3
    rw [hsl] at e1
    refine K ls H' _ hl (hP.set hi e2 e3 ((hw_cel_o hk).mpr ⟨_, hc, t_OB.to (V := updV (fun j => hw_rd B (hw_ty k j) (S k i j)) j v) ⟨_, e1, q2, q3, t_set q4 hap hj v⟩ (fun j' _ => hw_upd hv S j')⟩) (fun k' i' h => hw_sv_off h)) (e2.trans hz) (hw_locs hf hi)
  rcases hlk with hlk | ⟨host, hlk⟩
  · exact W.putK G.1 G.2.1 (f := f) ⟨G.2.2.2.1, va_any rfl (hN _ hlk), ⟨_, _, _, hif2⟩, hst⟩ (by rw [q2]; exact h6) q1 q3 hlt rfl rfl d fin
  · exact va_WputK G.1 G.2.1 (f := f) G.2.2.2.1 (va_any rfl (hN _ hlk)) hif2 hst (by rw [q2]; exact h6) q1 q3 hlt rfl rfl d fin
theorem hr_putF (G : hw_G X B fr cc nL own) {k i j index : Nat} {ft : FieldType} {x : Int32} {v : Value} (F : hw_F own index k j ft true) (hco : ∀ (ci : Nat) (C : String) (T : u_T) (N : Nat), hw_kd k = .inl ci → vwCl[ci]? = some (C, T, N) → C = own) (hinit : (xt X).name = "<init>") (hi : i < nb k) (hv : hw_rd B (hw_ty k j) x = v) (hn : narrow ft v = v) (hft : fits ft v = true) (d : decode cc pc = .ok (.putfield index, 3)) (K : hw_V X B fr nb (hw_sv S k i j x) z c sl Q nL (pc + 3) L st) : hw_V X B fr nb S z c sl Q nL pc L (v :: .ref (hw_a B k i) :: st) := by
  intro ls H locs hl hP hz hf
  obtain ⟨ci, C, T, N, ty0, hk, hc, hj, hin, hT1, hfin, hty, hf0, hnm, hlk⟩ := F
  obtain ⟨r, h1, cell, q1, q2, q3, q4⟩ := (hw_cel_o hk).mp (hP.2.1 k i hi).2
  have hr : r = (C, T, N) := Option.some.inj (h1.symm.trans hc)
  subst hr
  obtain ⟨hS, hfc, kC, hkC, hkind⟩ := G.2.2.2.2.1.1 ci _ hc
  have hN : ∀ w ∈ hw_TS, w.before #[] (xs X) = true := G.2.2.2.2.1.2.2.1
  have hap : ∀ x y, x < N → y < N → x ≠ y → B.2.2.1.1.2 ci x ≠ B.2.2.1.1.2 ci y := by
    intro x y hx hy hne
    obtain ⟨_, _, _, fa, hia, ea⟩ := hS x hx
    obtain ⟨_, _, _, fb, hib, eb⟩ := hS y hy
    rw [← ea, ← eb]
    refine u_apart (u_lays hN hin hx) (u_lays hN hin hy) hia hib ?_
    rw [(State.fieldFound?_type hia (hty x hx)).1, (State.fieldFound?_type hib (hty y hy)).1]
    exact hnm x hx y hy hne
  obtain ⟨cf, kf, fi, f, hif, hsl⟩ := hS j hj
  have hlay := hN _ (hin _ (u_in_lay hj))
  unfold u_lay at hlay
  rw [if_pos hfin] at hlay
  have hst := (u_facts (args := #[]) hfc hkC (u_lays hN hin hj) hif).1
  have hd : parseFieldDescriptor (T j).2.2.1 = some ft := by rw [hty j hj, hf0]
  have hif2 : (xs X).fieldFound? (T j).1 (T j).2.1 (T j).2.2.1 = some (cf, kf, fi, f) := hif
  have hcf : (xm X).cls = cf := by
    obtain ⟨_, _, c', _, _, _, -, -, hf', -, -, -, hown2, -⟩ := Cond.laysFinal_spec hlay
    have e1 : c' = cf := by have := hif.symm.trans hf'; simp at this; exact this.1.symm
    rw [hT1, hco ci C T N hk hc] at hown2
    rw [← e1]; exact Option.some.inj (G.2.2.2.1.symm.trans hown2)
  have h6 := u_fits hfc hkC hkind (Or.inr hlay) hif hd hn hft
  rw [hT1] at hif2
  have hlt : f.slot < cell.slots.size := by rw [hsl]; exact k2_hasslot (q4 j hj)
  have fin : ∀ H' : Heap, H'[hw_a B k i]? = some (cell.setSlot f.slot v) → H'.size = H.size → (∀ q, q ≠ hw_a B k i → H'[q]? = H[q]?) → hw_W X H' (locs ++ [⟨hw_a B k i, f.slot⟩]) c sl Q (F0 (xm X) (pc + 3) ls st) := by
    intro H' e1 e2 e3
    rw [hsl] at e1
    refine K ls H' _ hl (hP.set hi e2 e3 ((hw_cel_o hk).mpr ⟨_, hc, t_OB.to (V := updV (fun j => hw_rd B (hw_ty k j) (S k i j)) j v) ⟨_, e1, q2, q3, t_set q4 hap hj v⟩ (fun j' _ => hw_upd hv S j')⟩) (fun k' i' h => hw_sv_off h)) (e2.trans hz) (hw_locs hf hi)
  rcases hlk with hlk | ⟨host, hlk⟩
  · exact W.putFinK G.1 G.2.1 G.2.2.2.1 (va_any rfl (hN _ hlk)) hif2 hst hcf hinit (by rw [q2]; exact h6) q1 q3 hlt rfl rfl d fin
  · have ha : hw_a B k i < H.size := (hP.2.1 k i hi).2.lt
    refine va_Wputf G.1 G.2.1 G.2.2.2.1 (va_any rfl (hN _ hlk)) hif2 hst (Or.inr ⟨hcf, hinit⟩) q1 (by rw [q3]; exact fun h => by cases h) hlt h6.1 (by rw [q2, q3]; exact h6.2) rfl rfl d ?_
    refine fin _ ?_ ?_ ?_
    · simp [Array.getElem?_setIfInBounds, ha]
    · simp
    · intro q hq
      simp [Array.getElem?_setIfInBounds, Ne.symm hq]
theorem hr_new (G : hw_G X B fr cc nL own) {k N index : Nat} (F : hw_N own index k N) (hA : hw_a B k (nb k) = z) (hcs : c + 1 ≤ (xR X).cells) (hss : sl + N ≤ (xR X).slots) (d : decode cc pc = .ok (.new index, 3)) (K : hw_V X B fr (hw_nb nb k) (hw_nw S k (nb k)) (z + 1) (c + 1) (sl + N) Q nL (pc + 3) L (.ref (hw_a B k (nb k)) :: st)) : hw_V X B fr nb S z c sl Q nL pc L st := by
  intro ls H locs hl hP hz hf
  obtain ⟨ci, C, T, ty0, hk, hc, hin, hty, w1, w2, w3, hdf⟩ := F
  have hKn := G.2.2.2.2.1.1 ci _ hc
  have hN : ∀ w ∈ hw_TS, w.before #[] (xs X) = true := G.2.2.2.2.1.2.2.1
  refine W.newcK G.1 G.2.1 G.2.2.2.1 (va_any rfl (hN _ w1)) (va_any rfl (hN _ w2)) (va_any rfl (hN _ w3)) rfl d hcs hss hKn.2.1 hz fun H1 kC hkC e1 z1 o1 => ?_
  rw [← hA] at e1 ⊢
  refine K ls H1 locs hl (hP.push (hA.trans hz.symm) (by rw [z1, hz]) (fun q hq => o1 q (by rw [← hz]; exact hq)) ((hw_cel_o hk).mpr ⟨_, hc, (u_born ty0 hN hin hKn hkC e1 hty).to (fun j hj => hdf B j hj)⟩)) (by rw [z1]) (hw_Lnew hf hA)
end HH
