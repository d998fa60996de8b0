/-! Cells that are there from the start; slots that never change; small rows for the walks. -/
def hw_n0 (k : Nat) : Nat := match k with
  | 2 => 4
  | 3 => 4
  | 4 => 18
  | 5 => 18
  | 9 => 0
  | 11 => 0
  | _ => if k < 13 ∨ (20 ≤ k ∧ k < 45) ∨ k = 50 then 1 else 0
def hw_al (nb : Nat → Nat) : Prop := ∀ k : Nat, hw_n0 k ≠ 0 → nb k = hw_n0 k
theorem hw_al.lt {nb : Nat → Nat} (h : hw_al nb) {k i : Nat} (hi : i < hw_n0 k) : i < nb k := by
  rw [h k (by omega)]; exact hi
theorem hw_al.nb {nb : Nat → Nat} {k : Nat} (h : hw_al nb) (hk : hw_n0 k = 0) : hw_al (hw_nb nb k) := fun k' hk' => by
  unfold hw_nb
  rw [if_neg (fun e => hk' (by rw [e]; exact hk))]
  exact h k' hk'
def hw_Fx (S : hw_St) : Prop := ∀ (k i j v : Nat), i < hw_n0 k → hw_fx k i j = some v → S k i j = nI v
theorem hw_Fx.sv {S : hw_St} (h : hw_Fx S) {k i j : Nat} {x : Int32} (hn : hw_fx k i j = none) : hw_Fx (hw_sv S k i j x) := fun k' i' j' v hi hv => by
  unfold hw_sv
  by_cases e : k' = k ∧ i' = i ∧ j' = j
  · obtain ⟨rfl, rfl, rfl⟩ := e
    rw [hn] at hv
    cases hv
  · rw [if_neg e]; exact h k' i' j' v hi hv
theorem hw_Fx.nw {S : hw_St} (h : hw_Fx S) {k i : Nat} (hk : hw_n0 k = 0) : hw_Fx (hw_nw S k i) := fun k' i' j' v hi hv => by
  unfold hw_nw
  rw [if_neg (fun e => by rw [e.1, hk] at hi; exact Nat.not_lt_zero _ hi)]
  exact h k' i' j' v hi hv
theorem hw_rfx {B : hw_B} {S : hw_St} {k i j v t : Nat} (hF : hw_Fx S) (hi : i < hw_n0 k) (h : hw_fx k i j = some v) (hv : v < 2 ^ 31) : hw_rd B (t + 2) (S k i j) = .ref (hw_a B t v) := by
  rw [hF k i j v hi h]; exact hw_rdr hv
theorem hw_rdy {B : hw_B} {S : hw_St} {k i j v t : Nat} (h : S k i j = nI v) (hv : v < 2 ^ 31) : hw_rd B (t + 2) (S k i j) = .ref (hw_a B t v) := by
  rw [h]; exact hw_rdr hv
theorem hw_rdz {B : hw_B} {S : hw_St} {k i j t : Nat} (h : S k i j < 0) : hw_rd B (t + 2) (S k i j) = .null := hw_rdn h
theorem ib_01 {x : Int32} (h : x = 0 ∨ x = 1) : narrow .boolean (.int x) = .int x := by
  rcases h with rfl | rfl <;> rfl
/-- an int within 0 .. n - 1 is a number -/
theorem ib_in {x : Int32} {n : Nat} (h0 : ¬ x < 0) (h1 : x < nI n) (hn : n < 2 ^ 31) : ∃ j : Nat, j < n ∧ x = nI j := by
  obtain ⟨j, hj, rfl⟩ := nI_of h0
  exact ⟨j, (nI_ltI hj hn).mp h1, rfl⟩
/-- the answer, and the world behind it -/
def hw_p (o : hw_O) (nb : Nat → Nat) (S : hw_St) (z : Nat) : hw_T := fun oc nb' S' z' => oc = o ∧ nb' = nb ∧ S' = S ∧ z' = z
theorem hw_pi {o : hw_O} {nb : Nat → Nat} {S : hw_St} {z : Nat} : hw_p o nb S z o nb S z := ⟨rfl, rfl, rfl, rfl⟩
theorem hw_pe {o o' : hw_O} {nb : Nat → Nat} {S S' : hw_St} {z : Nat} (h : o' = o) (h2 : S' = S) : hw_p o nb S z o' nb S' z := ⟨h, rfl, h2, rfl⟩
section HP
variable {X : hw_X} {B : hw_B} {fr : Nat → Prop} {nb nb2 : Nat → Nat} {S S2 : hw_St} {z z2 c sl : Nat} {Q : State → Prop} {cc : ByteArray} {nL pc : Nat} {own : String} {L : List (Nat × Value)} {st : List Value}
theorem hr_callVs {v : Value} (G : hw_G X B fr cc nL own) {k i index maxL n ci N : Nat} {T : u_T} {y : MethodName} {bytes : ByteArray} {ret : Option FieldType} {rm : Room} {As st0 : List Value} (hk : hw_kd k = .inl ci) (hct : vwCl[ci]? = some (y.cls, T, N)) (hi : i < nb k) (cw : hw_C own index y bytes maxL ret n) (w1 : Cond.instanceMethod y ∈ hw_TS) (w2 : Cond.selects y.cls y y ∈ hw_TS) (hM : hw_M X.2.1 y bytes maxL ret rm B (.ref (hw_a B k i) :: As) nb S z (hw_p (.inl (some v)) nb2 S2 z2)) (hn : As.length = n) (hst : st0 = As.reverse ++ .ref (hw_a B k i) :: st) (hW : (st.map fun v => v.category).sum ≤ 8) (hR : rm.frames + 1 ≤ (xR X).frames ∧ 8 + (maxL + 11) + rm.locals ≤ (xR X).locals) (hcs : c + rm.cells ≤ (xR X).cells ∧ sl + rm.slots ≤ (xR X).slots) (d : decode cc pc = .ok (.invokevirtual index, 3))
    (K : hw_V X B fr nb2 S2 z2 (c + rm.cells) (sl + rm.slots) Q nL (pc + 3) L (v :: st)) : hw_V X B fr nb S z c sl Q nL pc L st0 :=
  hr_callV G hk hct hi cw w1 w2 hM hn hst hW hR hcs d (fun r nb' S' z' hp => by
    obtain ⟨h1, rfl, rfl, rfl⟩ := hp
    have h2 := Sum.inl.inj h1
    subst h2
    exact K)
theorem hr_callVn (G : hw_G X B fr cc nL own) {k i index maxL n ci N : Nat} {T : u_T} {y : MethodName} {bytes : ByteArray} {ret : Option FieldType} {rm : Room} {As st0 : List Value} (hk : hw_kd k = .inl ci) (hct : vwCl[ci]? = some (y.cls, T, N)) (hi : i < nb k) (cw : hw_C own index y bytes maxL ret n) (w1 : Cond.instanceMethod y ∈ hw_TS) (w2 : Cond.selects y.cls y y ∈ hw_TS) (hM : hw_M X.2.1 y bytes maxL ret rm B (.ref (hw_a B k i) :: As) nb S z (hw_p (.inl none) nb2 S2 z2)) (hn : As.length = n) (hst : st0 = As.reverse ++ .ref (hw_a B k i) :: st) (hW : (st.map fun v => v.category).sum ≤ 8) (hR : rm.frames + 1 ≤ (xR X).frames ∧ 8 + (maxL + 11) + rm.locals ≤ (xR X).locals) (hcs : c + rm.cells ≤ (xR X).cells ∧ sl + rm.slots ≤ (xR X).slots) (d : decode cc pc = .ok (.invokevirtual index, 3))
    (K : hw_V X B fr nb2 S2 z2 (c + rm.cells) (sl + rm.slots) Q nL (pc + 3) L st) : hw_V X B fr nb S z c sl Q nL pc L st0 :=
  hr_callV G hk hct hi cw w1 w2 hM hn hst hW hR hcs d (fun r nb' S' z' hp => by
    obtain ⟨h1, rfl, rfl, rfl⟩ := hp
    have h2 := Sum.inl.inj h1
    subst h2
    exact K)
theorem hr_callSs {v : Value} (G : hw_G X B fr cc nL own) {index maxL n : Nat} {y : MethodName} {bytes : ByteArray} {ret : Option FieldType} {rm : Room} {As st0 : List Value} (cw : hw_C own index y bytes maxL ret n) (w1 : Cond.static y ∈ hw_TS) (hM : hw_M X.2.1 y bytes maxL ret rm B As nb S z (hw_p (.inl (some v)) nb2 S2 z2)) (hn : As.length = n) (hst : st0 = As.reverse ++ st) (hW : (st.map fun v => v.category).sum ≤ 8) (hR : rm.frames + 1 ≤ (xR X).frames ∧ 8 + (maxL + 11) + rm.locals ≤ (xR X).locals) (hcs : c + rm.cells ≤ (xR X).cells ∧ sl + rm.slots ≤ (xR X).slots) (d : decode cc pc = .ok (.invokestatic index, 3))
    (K : hw_V X B fr nb2 S2 z2 (c + rm.cells) (sl + rm.slots) Q nL (pc + 3) L (v :: st)) : hw_V X B fr nb S z c sl Q nL pc L st0 :=
  hr_callS G cw w1 hM hn hst hW hR hcs d (fun r nb' S' z' hp => by
    obtain ⟨h1, rfl, rfl, rfl⟩ := hp
    have h2 := Sum.inl.inj h1
    subst h2
    exact K)
theorem hr_callSn (G : hw_G X B fr cc nL own) {index maxL n : Nat} {y : MethodName} {bytes : ByteArray} {ret : Option FieldType} {rm : Room} {As st0 : List Value} (cw : hw_C own index y bytes maxL ret n) (w1 : Cond.static y ∈ hw_TS) (hM : hw_M X.2.1 y bytes maxL ret rm B As nb S z (hw_p (.inl none) nb2 S2 z2)) (hn : As.length = n) (hst : st0 = As.reverse ++ st) (hW : (st.map fun v => v.category).sum ≤ 8) (hR : rm.frames + 1 ≤ (xR X).frames ∧ 8 + (maxL + 11) + rm.locals ≤ (xR X).locals) (hcs : c + rm.cells ≤ (xR X).cells ∧ sl + rm.slots ≤ (xR X).slots) (d : decode cc pc = .ok (.invokestatic index, 3))
    (K : hw_V X B fr nb2 S2 z2 (c + rm.cells) (sl + rm.slots) Q nL (pc + 3) L st) : hw_V X B fr nb S z c sl Q nL pc L st0 :=
  hr_callS G cw w1 hM hn hst hW hR hcs d (fun r nb' S' z' hp => by
    obtain ⟨h1, rfl, rfl, rfl⟩ := hp
    have h2 := Sum.inl.inj h1
    subst h2
    exact K)
theorem hr_callIn (G : hw_G X B fr cc nL own) {k i index maxL n : Nat} {y : MethodName} {bytes : ByteArray} {rm : Room} {As st0 : List Value} (cw : hw_C own index y bytes maxL none n) (w1 : Cond.instanceMethod y ∈ hw_TS) (hy : y.name = "<init>") (hM : hw_M X.2.1 y bytes maxL none rm B (.ref (hw_a B k i) :: As) nb S z (hw_p (.inl none) nb2 S2 z2)) (hn : As.length = n) (hst : st0 = As.reverse ++ .ref (hw_a B k i) :: st) (hW : (st.map fun v => v.category).sum ≤ 8) (hR : rm.frames + 1 ≤ (xR X).frames ∧ 8 + (maxL + 11) + rm.locals ≤ (xR X).locals) (hcs : c + rm.cells ≤ (xR X).cells ∧ sl + rm.slots ≤ (xR X).slots) (d : decode cc pc = .ok (.invokespecial index, 3))
    (K : hw_V X B fr nb2 S2 z2 (c + rm.cells) (sl + rm.slots) Q nL (pc + 3) L st) : hw_V X B fr nb S z c sl Q nL pc L st0 :=
  hr_callI G cw w1 hy hM hn hst hW hR hcs d (fun r nb' S' z' hp => by
    obtain ⟨h1, rfl, rfl, rfl⟩ := hp
    have h2 := Sum.inl.inj h1
    subst h2
    exact K)
end HP
theorem ib_rng (x : Int32) (n : Nat) (hn : n < 2 ^ 31) : (∃ j : Nat, j < n ∧ x = nI j) ∨ (x < 0 ∨ nI n ≤ x) := by
  rcases pk_ix x hn with h | h | h
  · exact Or.inr (Or.inl h)
  · exact Or.inr (Or.inr h)
  · exact Or.inl h
