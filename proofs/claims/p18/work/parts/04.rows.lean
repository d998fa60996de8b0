/-! One row an instruction, over the judgement hw_V: the machine at pc with locals L (an association list) and stack st, in a world (nb, S), comes to a state with Q. -/
abbrev hw_X : Type := Program × Launch × Env × Room × State × MethodId × Array Value × List Frame × Method × Code
abbrev xR (X : hw_X) : Room := X.2.2.2.1
abbrev xs (X : hw_X) : State := X.2.2.2.2.1
abbrev xm (X : hw_X) : MethodId := X.2.2.2.2.2.1
abbrev xa (X : hw_X) : Array Value := X.2.2.2.2.2.2.1
abbrev xb (X : hw_X) : List Frame := X.2.2.2.2.2.2.2.1
abbrev xt (X : hw_X) : Method := X.2.2.2.2.2.2.2.2.1
abbrev xc (X : hw_X) : Code := X.2.2.2.2.2.2.2.2.2
abbrev hw_W (X : hw_X) (H : Heap) (locs : List Loc) (c sl : Nat) (Q : State → Prop) (g : JFrame) : Prop := W X.1 X.2.1 X.2.2.1 (xR X) (xs X) (xm X) (xa X) (xb X) (xt X) (xc X) H locs c sl Q g
def hw_L (B : hw_B) (fr : Nat → Prop) (nb : Nat → Nat) (z : Nat) (locs : List Loc) : Prop := (∀ q ∈ locs, fr q.base) ∧ (∀ k i : Nat, i < nb k → fr (hw_a B k i)) ∧ ∀ q : Nat, z ≤ q → fr q
def hw_V (X : hw_X) (B : hw_B) (fr : Nat → Prop) (nb : Nat → Nat) (S : hw_St) (z c sl : Nat) (Q : State → Prop) (nL pc : Nat) (L : List (Nat × Value)) (st : List Value) : Prop :=
  ∀ (ls : Array Slot) (H : Heap) (locs : List Loc), lv_has ls nL L → hw_P B nb S H → H.size = z → hw_L B fr nb z locs → hw_W X H locs c sl Q (F0 (xm X) pc ls st)
def hw_G (X : hw_X) (B : hw_B) (fr : Nat → Prop) (cc : ByteArray) (nL : Nat) (own : String) : Prop :=
  X.1.tables.exec = Jvm.exec ∧ (xc X).code = cc ∧ (xc X).maxLocals = nL ∧ (xs X).vm.findClass own = some (xm X).cls ∧ hw_K B (xs X) ∧ (xt X).locks = false ∧ (∀ (q : Nat) (cell : Cell), fr q → (xs X).heap[q]? = some cell → cell.vm.isStatics = false) ∧ (∀ q : Nat, fr q → B.1 ≤ q) ∧ ∀ q : Nat, q < B.1 → (xs X).heap[q]? = B.2.1[q]?
def hw_lk : List (Nat × Value) → Nat → Option Value
  | [], _ => none
  | q :: r, n => cond (Nat.beq q.1 n) (some q.2) (hw_lk r n)
theorem hw_lk_at {ls : Array Slot} {nL : Nat} {L : List (Nat × Value)} (h : lv_has ls nL L) {n : Nat} {v : Value} (hl : hw_lk L n = some v) : ls[n]? = some (.val v) := by
  suffices hm : (n, v) ∈ L from h.2.2 (n, v) hm
  clear h
  induction L with
  | nil => cases hl
  | cons q r ih =>
    unfold hw_lk at hl
    cases hb : Nat.beq q.1 n with
    | true =>
      rw [hb] at hl
      have h1 : q.1 = n := Nat.eq_of_beq_eq_true hb
      have h2 : q.2 = v := Option.some.inj hl
      subst h1; subst h2
      exact List.mem_cons_self
    | false =>
      rw [hb] at hl
      exact List.mem_cons_of_mem _ (ih hl)
theorem hw_lk_get {L : List (Nat × Value)} {n : Nat} {v : Value} (hl : hw_lk L n = some v) : ∃ k : Nat, L[k]? = some (n, v) := by
  induction L with
  | nil => cases hl
  | cons q r ih =>
    unfold hw_lk at hl
    cases hb : Nat.beq q.1 n with
    | true =>
      rw [hb] at hl
      have h1 : q.1 = n := Nat.eq_of_beq_eq_true hb
      have h2 : q.2 = v := Option.some.inj hl
      subst h1; subst h2
      exact ⟨0, rfl⟩
    | false =>
      rw [hb] at hl
      obtain ⟨k, hk⟩ := ih hl
      exact ⟨k + 1, hk⟩
def hw_st (L : List (Nat × Value)) (i : Nat) (v : Value) : List (Nat × Value) := (i, v) :: L.filter (fun q => !(q.1 == i) && !(q.1 + 1 == i && q.2.category == 2))
def hw_st2 (L : List (Nat × Value)) (i : Nat) (v : Value) : List (Nat × Value) := (i, v) :: L.filter (fun q => !(q.1 == i) && (!(q.1 == i + 1) && !(q.1 + 1 == i && q.2.category == 2)))
def hw_sub (L L' : List (Nat × Value)) : Prop := ∀ q ∈ L', hw_lk L q.1 = some q.2
theorem hw_s0 {L : List (Nat × Value)} : hw_sub L [] := fun q h => by cases h
theorem hw_s1 {L r : List (Nat × Value)} {n : Nat} {v : Value} (h : hw_lk L n = some v) (hr : hw_sub L r) : hw_sub L ((n, v) :: r) := fun q hq => by
  rcases List.mem_cons.mp hq with rfl | h'
  · exact h
  · exact hr q h'
section HR
variable {X : hw_X} {B : hw_B} {fr : Nat → Prop} {nb : Nat → Nat} {S : hw_St} {z c sl : Nat} {Q : State → Prop} {cc : ByteArray} {nL pc : Nat} {own : String} {L : List (Nat × Value)} {st : List Value}
theorem hr_L {L' : List (Nat × Value)} (h : hw_sub L L') (K : hw_V X B fr nb S z c sl Q nL pc L' st) : hw_V X B fr nb S z c sl Q nL pc L st :=
  fun ls H locs hl => K ls H locs ⟨hl.1, hl.2.1, fun q hq => hw_lk_at hl (h q hq)⟩
theorem hr_st {st' : List Value} (h : st = st') (K : hw_V X B fr nb S z c sl Q nL pc L st') : hw_V X B fr nb S z c sl Q nL pc L st := h ▸ K
theorem hr_S {S' : hw_St} (h : S = S') (K : hw_V X B fr nb S' z c sl Q nL pc L st) : hw_V X B fr nb S z c sl Q nL pc L st := h ▸ K
theorem hr_wide {c' sl' : Nat} (h1 : c ≤ c') (h2 : sl ≤ sl') (K : hw_V X B fr nb S z c' sl' Q nL pc L st) : hw_V X B fr nb S z c sl Q nL pc L st :=
  fun ls H locs hl hP hz hf => W.widen h1 h2 (K ls H locs hl hP hz hf)
theorem hr_topi {x : Int32} (K : ∀ y : Int32, y = x → hw_V X B fr nb S z c sl Q nL pc L (.int y :: st)) : hw_V X B fr nb S z c sl Q nL pc L (.int x :: st) := K x rfl

theorem hr_iconst (G : hw_G X B fr cc nL own) {n : Int} {v : Int32} (d : decode cc pc = .ok (.iconst n, 1)) (hv : Int32.ofInt n = v) (K : hw_V X B fr nb S z c sl Q nL (pc + 1) L (.int v :: st)) : hw_V X B fr nb S z c sl Q nL pc L (st) :=
  fun ls H locs hl hP hz hf => lv_iconst G.1 G.2.1 d hv (K ls H locs hl hP hz hf)
theorem hr_bipush (G : hw_G X B fr cc nL own) {n : Int} {v : Int32} (d : decode cc pc = .ok (.bipush n, 2)) (hv : (Int8.ofInt n).toInt32 = v) (K : hw_V X B fr nb S z c sl Q nL (pc + 2) L (.int v :: st)) : hw_V X B fr nb S z c sl Q nL pc L (st) :=
  fun ls H locs hl hP hz hf => lv_bipush G.1 G.2.1 d hv (K ls H locs hl hP hz hf)
theorem hr_sipush (G : hw_G X B fr cc nL own) {n : Int} {v : Int32} (d : decode cc pc = .ok (.sipush n, 3)) (hv : (Int16.ofInt n).toInt32 = v) (K : hw_V X B fr nb S z c sl Q nL (pc + 3) L (.int v :: st)) : hw_V X B fr nb S z c sl Q nL pc L (st) :=
  fun ls H locs hl hP hz hf => lv_sipush G.1 G.2.1 d hv (K ls H locs hl hP hz hf)
theorem hr_lconst (G : hw_G X B fr cc nL own) {n : Fin 2} {v : Int64} (d : decode cc pc = .ok (.lconst n, 1)) (hv : Int64.ofNat (n : Nat) = v) (K : hw_V X B fr nb S z c sl Q nL (pc + 1) L (.long v :: st)) : hw_V X B fr nb S z c sl Q nL pc L (st) :=
  fun ls H locs hl hP hz hf => lv_lconst G.1 G.2.1 d hv (K ls H locs hl hP hz hf)
theorem hr_null (G : hw_G X B fr cc nL own)  (d : decode cc pc = .ok (.aconst_null, 1)) (K : hw_V X B fr nb S z c sl Q nL (pc + 1) L (.null :: st)) : hw_V X B fr nb S z c sl Q nL pc L (st) :=
  fun ls H locs hl hP hz hf => lv_null G.1 G.2.1 d (K ls H locs hl hP hz hf)
theorem hr_iload_n (G : hw_G X B fr cc nL own) {k : Fin 4} {i : Nat} {x : Int32} (d : decode cc pc = .ok (.iload_n k, 1)) (hi : (k : Nat) = i) (h : hw_lk L i = some (.int x)) (K : hw_V X B fr nb S z c sl Q nL (pc + 1) L (.int x :: st)) : hw_V X B fr nb S z c sl Q nL pc L (st) :=
  fun ls H locs hl hP hz hf => lv_iload_n G.1 G.2.1 d hi (hw_lk_at hl h) (K ls H locs hl hP hz hf)
theorem hr_iload (G : hw_G X B fr cc nL own) {k : Nat} {x : Int32} (d : decode cc pc = .ok (.iload k, 2)) (h : hw_lk L k = some (.int x)) (K : hw_V X B fr nb S z c sl Q nL (pc + 2) L (.int x :: st)) : hw_V X B fr nb S z c sl Q nL pc L (st) :=
  fun ls H locs hl hP hz hf => lv_iload G.1 G.2.1 d (hw_lk_at hl h) (K ls H locs hl hP hz hf)
theorem hr_lload_n (G : hw_G X B fr cc nL own) {k : Fin 4} {i : Nat} {x : Int64} (d : decode cc pc = .ok (.lload_n k, 1)) (hi : (k : Nat) = i) (h : hw_lk L i = some (.long x)) (K : hw_V X B fr nb S z c sl Q nL (pc + 1) L (.long x :: st)) : hw_V X B fr nb S z c sl Q nL pc L (st) :=
  fun ls H locs hl hP hz hf => lv_lload_n G.1 G.2.1 d hi (hw_lk_at hl h) (K ls H locs hl hP hz hf)
theorem hr_lload (G : hw_G X B fr cc nL own) {k : Nat} {x : Int64} (d : decode cc pc = .ok (.lload k, 2)) (h : hw_lk L k = some (.long x)) (K : hw_V X B fr nb S z c sl Q nL (pc + 2) L (.long x :: st)) : hw_V X B fr nb S z c sl Q nL pc L (st) :=
  fun ls H locs hl hP hz hf => lv_lload G.1 G.2.1 d (hw_lk_at hl h) (K ls H locs hl hP hz hf)
theorem hr_aload_n (G : hw_G X B fr cc nL own) {k : Fin 4} {i : Nat} {x : Nat} (d : decode cc pc = .ok (.aload_n k, 1)) (hi : (k : Nat) = i) (h : hw_lk L i = some (.ref x)) (K : hw_V X B fr nb S z c sl Q nL (pc + 1) L (.ref x :: st)) : hw_V X B fr nb S z c sl Q nL pc L (st) :=
  fun ls H locs hl hP hz hf => lv_aload_n G.1 G.2.1 d hi (hw_lk_at hl h) (K ls H locs hl hP hz hf)
theorem hr_aload (G : hw_G X B fr cc nL own) {k : Nat} {x : Nat} (d : decode cc pc = .ok (.aload k, 2)) (h : hw_lk L k = some (.ref x)) (K : hw_V X B fr nb S z c sl Q nL (pc + 2) L (.ref x :: st)) : hw_V X B fr nb S z c sl Q nL pc L (st) :=
  fun ls H locs hl hP hz hf => lv_aload G.1 G.2.1 d (hw_lk_at hl h) (K ls H locs hl hP hz hf)
theorem hr_aload_nN (G : hw_G X B fr cc nL own) {k : Fin 4} {i : Nat} (d : decode cc pc = .ok (.aload_n k, 1)) (hi : (k : Nat) = i) (h : hw_lk L i = some .null) (K : hw_V X B fr nb S z c sl Q nL (pc + 1) L (.null :: st)) : hw_V X B fr nb S z c sl Q nL pc L (st) :=
  fun ls H locs hl hP hz hf => lv_aload_nN G.1 G.2.1 d hi (hw_lk_at hl h) (K ls H locs hl hP hz hf)
theorem hr_aloadN (G : hw_G X B fr cc nL own) {k : Nat} (d : decode cc pc = .ok (.aload k, 2)) (h : hw_lk L k = some .null) (K : hw_V X B fr nb S z c sl Q nL (pc + 2) L (.null :: st)) : hw_V X B fr nb S z c sl Q nL pc L (st) :=
  fun ls H locs hl hP hz hf => lv_aloadN G.1 G.2.1 d (hw_lk_at hl h) (K ls H locs hl hP hz hf)
theorem hr_istore_n (G : hw_G X B fr cc nL own) {k : Fin 4} {i : Nat} {x : Int32} (d : decode cc pc = .ok (.istore_n k, 1)) (hi : (k : Nat) = i) (hn : i < nL) (K : hw_V X B fr nb S z c sl Q nL (pc + 1) (hw_st L i (.int x)) st) : hw_V X B fr nb S z c sl Q nL pc L (.int x :: st) :=
  fun ls H locs hl hP hz hf => lv_istore_n G.1 G.2.1 d hi hl hn rfl (fun ls' hl' => K ls' H locs hl' hP hz hf)
theorem hr_istore (G : hw_G X B fr cc nL own) {i : Nat} {x : Int32} (d : decode cc pc = .ok (.istore i, 2)) (hn : i < nL) (K : hw_V X B fr nb S z c sl Q nL (pc + 2) (hw_st L i (.int x)) st) : hw_V X B fr nb S z c sl Q nL pc L (.int x :: st) :=
  fun ls H locs hl hP hz hf => lv_istore G.1 G.2.1 d hl hn rfl (fun ls' hl' => K ls' H locs hl' hP hz hf)
theorem hr_astore_n (G : hw_G X B fr cc nL own) {k : Fin 4} {i : Nat} {x : Nat} (d : decode cc pc = .ok (.astore_n k, 1)) (hi : (k : Nat) = i) (hn : i < nL) (K : hw_V X B fr nb S z c sl Q nL (pc + 1) (hw_st L i (.ref x)) st) : hw_V X B fr nb S z c sl Q nL pc L (.ref x :: st) :=
  fun ls H locs hl hP hz hf => lv_astore_n G.1 G.2.1 d hi hl hn rfl (fun ls' hl' => K ls' H locs hl' hP hz hf)
theorem hr_astore (G : hw_G X B fr cc nL own) {i : Nat} {x : Nat} (d : decode cc pc = .ok (.astore i, 2)) (hn : i < nL) (K : hw_V X B fr nb S z c sl Q nL (pc + 2) (hw_st L i (.ref x)) st) : hw_V X B fr nb S z c sl Q nL pc L (.ref x :: st) :=
  fun ls H locs hl hP hz hf => lv_astore G.1 G.2.1 d hl hn rfl (fun ls' hl' => K ls' H locs hl' hP hz hf)
theorem hr_astore_nN (G : hw_G X B fr cc nL own) {k : Fin 4} {i : Nat}  (d : decode cc pc = .ok (.astore_n k, 1)) (hi : (k : Nat) = i) (hn : i < nL) (K : hw_V X B fr nb S z c sl Q nL (pc + 1) (hw_st L i (.null)) st) : hw_V X B fr nb S z c sl Q nL pc L (.null :: st) :=
  fun ls H locs hl hP hz hf => lv_astore_nN G.1 G.2.1 d hi hl hn rfl (fun ls' hl' => K ls' H locs hl' hP hz hf)
theorem hr_astoreN (G : hw_G X B fr cc nL own) {i : Nat}  (d : decode cc pc = .ok (.astore i, 2)) (hn : i < nL) (K : hw_V X B fr nb S z c sl Q nL (pc + 2) (hw_st L i (.null)) st) : hw_V X B fr nb S z c sl Q nL pc L (.null :: st) :=
  fun ls H locs hl hP hz hf => lv_astoreN G.1 G.2.1 d hl hn rfl (fun ls' hl' => K ls' H locs hl' hP hz hf)
theorem hr_lstore_n (G : hw_G X B fr cc nL own) {k : Fin 4} {i : Nat} {x : Int64} (d : decode cc pc = .ok (.lstore_n k, 1)) (hi : (k : Nat) = i) (hn : i + 1 < nL) (K : hw_V X B fr nb S z c sl Q nL (pc + 1) (hw_st2 L i (.long x)) st) : hw_V X B fr nb S z c sl Q nL pc L (.long x :: st) :=
  fun ls H locs hl hP hz hf => lv_lstore_n G.1 G.2.1 d hi hl hn rfl (fun ls' hl' => K ls' H locs hl' hP hz hf)
theorem hr_lstore (G : hw_G X B fr cc nL own) {i : Nat} {x : Int64} (d : decode cc pc = .ok (.lstore i, 2)) (hn : i + 1 < nL) (K : hw_V X B fr nb S z c sl Q nL (pc + 2) (hw_st2 L i (.long x)) st) : hw_V X B fr nb S z c sl Q nL pc L (.long x :: st) :=
  fun ls H locs hl hP hz hf => lv_lstore G.1 G.2.1 d hl hn rfl (fun ls' hl' => K ls' H locs hl' hP hz hf)
theorem hr_iinc (G : hw_G X B fr cc nL own) {i : Nat} {n : Int} {x v : Int32} (d : decode cc pc = .ok (.iinc i n, 3)) (h : hw_lk L i = some (.int x)) (hv : x + Int32.ofInt n = v) (hn : i < nL) (K : hw_V X B fr nb S z c sl Q nL (pc + 3) (hw_st L i (.int v)) st) : hw_V X B fr nb S z c sl Q nL pc L st :=
  fun ls H locs hl hP hz hf => by
    obtain ⟨k, hk⟩ := hw_lk_get h
    exact lv_iinc (k := k) G.1 G.2.1 d hl hk hv hn rfl (fun ls' hl' => K ls' H locs hl' hP hz hf)
theorem hr_iadd (G : hw_G X B fr cc nL own) {x y : Int32} (d : decode cc pc = .ok (.iadd, 1)) (K : hw_V X B fr nb S z c sl Q nL (pc + 1) L (.int (x + y) :: st)) : hw_V X B fr nb S z c sl Q nL pc L (.int y :: .int x :: st) :=
  fun ls H locs hl hP hz hf => lv_iadd G.1 G.2.1 d (K ls H locs hl hP hz hf)
theorem hr_isub (G : hw_G X B fr cc nL own) {x y : Int32} (d : decode cc pc = .ok (.isub, 1)) (K : hw_V X B fr nb S z c sl Q nL (pc + 1) L (.int (x - y) :: st)) : hw_V X B fr nb S z c sl Q nL pc L (.int y :: .int x :: st) :=
  fun ls H locs hl hP hz hf => lv_isub G.1 G.2.1 d (K ls H locs hl hP hz hf)
theorem hr_imul (G : hw_G X B fr cc nL own) {x y : Int32} (d : decode cc pc = .ok (.imul, 1)) (K : hw_V X B fr nb S z c sl Q nL (pc + 1) L (.int (x * y) :: st)) : hw_V X B fr nb S z c sl Q nL pc L (.int y :: .int x :: st) :=
  fun ls H locs hl hP hz hf => lv_imul G.1 G.2.1 d (K ls H locs hl hP hz hf)
theorem hr_iand (G : hw_G X B fr cc nL own) {x y : Int32} (d : decode cc pc = .ok (.iand, 1)) (K : hw_V X B fr nb S z c sl Q nL (pc + 1) L (.int (x &&& y) :: st)) : hw_V X B fr nb S z c sl Q nL pc L (.int y :: .int x :: st) :=
  fun ls H locs hl hP hz hf => lv_iand G.1 G.2.1 d (K ls H locs hl hP hz hf)
theorem hr_ior (G : hw_G X B fr cc nL own) {x y : Int32} (d : decode cc pc = .ok (.ior, 1)) (K : hw_V X B fr nb S z c sl Q nL (pc + 1) L (.int (x ||| y) :: st)) : hw_V X B fr nb S z c sl Q nL pc L (.int y :: .int x :: st) :=
  fun ls H locs hl hP hz hf => lv_ior G.1 G.2.1 d (K ls H locs hl hP hz hf)
theorem hr_ixor (G : hw_G X B fr cc nL own) {x y : Int32} (d : decode cc pc = .ok (.ixor, 1)) (K : hw_V X B fr nb S z c sl Q nL (pc + 1) L (.int (x ^^^ y) :: st)) : hw_V X B fr nb S z c sl Q nL pc L (.int y :: .int x :: st) :=
  fun ls H locs hl hP hz hf => lv_ixor G.1 G.2.1 d (K ls H locs hl hP hz hf)
theorem hr_ishl (G : hw_G X B fr cc nL own) {x y : Int32} (d : decode cc pc = .ok (.ishl, 1)) (K : hw_V X B fr nb S z c sl Q nL (pc + 1) L (.int (x <<< (y &&& 31)) :: st)) : hw_V X B fr nb S z c sl Q nL pc L (.int y :: .int x :: st) :=
  fun ls H locs hl hP hz hf => lv_ishl G.1 G.2.1 d (K ls H locs hl hP hz hf)
theorem hr_ishr (G : hw_G X B fr cc nL own) {x y : Int32} (d : decode cc pc = .ok (.ishr, 1)) (K : hw_V X B fr nb S z c sl Q nL (pc + 1) L (.int (x >>> (y &&& 31)) :: st)) : hw_V X B fr nb S z c sl Q nL pc L (.int y :: .int x :: st) :=
  fun ls H locs hl hP hz hf => lv_ishr G.1 G.2.1 d (K ls H locs hl hP hz hf)
theorem hr_idiv (G : hw_G X B fr cc nL own) {x y : Int32} (d : decode cc pc = .ok (.idiv, 1)) (hne : ¬ y = 0) (K : hw_V X B fr nb S z c sl Q nL (pc + 1) L (.int (x / y) :: st)) : hw_V X B fr nb S z c sl Q nL pc L (.int y :: .int x :: st) :=
  fun ls H locs hl hP hz hf => lv_idiv G.1 G.2.1 d hne (K ls H locs hl hP hz hf)
theorem hr_irem (G : hw_G X B fr cc nL own) {x y : Int32} (d : decode cc pc = .ok (.irem, 1)) (hne : ¬ y = 0) (K : hw_V X B fr nb S z c sl Q nL (pc + 1) L (.int (x - x / y * y) :: st)) : hw_V X B fr nb S z c sl Q nL pc L (.int y :: .int x :: st) :=
  fun ls H locs hl hP hz hf => lv_irem G.1 G.2.1 d hne (K ls H locs hl hP hz hf)
theorem hr_ineg (G : hw_G X B fr cc nL own) {x : Int32} (d : decode cc pc = .ok (.ineg, 1)) (K : hw_V X B fr nb S z c sl Q nL (pc + 1) L (.int (-x) :: st)) : hw_V X B fr nb S z c sl Q nL pc L (.int x :: st) :=
  fun ls H locs hl hP hz hf => lv_ineg G.1 G.2.1 d (K ls H locs hl hP hz hf)
theorem hr_ladd (G : hw_G X B fr cc nL own) {x y : Int64} (d : decode cc pc = .ok (.ladd, 1)) (K : hw_V X B fr nb S z c sl Q nL (pc + 1) L (.long (x + y) :: st)) : hw_V X B fr nb S z c sl Q nL pc L (.long y :: .long x :: st) :=
  fun ls H locs hl hP hz hf => lv_ladd G.1 G.2.1 d (K ls H locs hl hP hz hf)
theorem hr_lsub (G : hw_G X B fr cc nL own) {x y : Int64} (d : decode cc pc = .ok (.lsub, 1)) (K : hw_V X B fr nb S z c sl Q nL (pc + 1) L (.long (x - y) :: st)) : hw_V X B fr nb S z c sl Q nL pc L (.long y :: .long x :: st) :=
  fun ls H locs hl hP hz hf => lv_lsub G.1 G.2.1 d (K ls H locs hl hP hz hf)
theorem hr_lmul (G : hw_G X B fr cc nL own) {x y : Int64} (d : decode cc pc = .ok (.lmul, 1)) (K : hw_V X B fr nb S z c sl Q nL (pc + 1) L (.long (x * y) :: st)) : hw_V X B fr nb S z c sl Q nL pc L (.long y :: .long x :: st) :=
  fun ls H locs hl hP hz hf => lv_lmul G.1 G.2.1 d (K ls H locs hl hP hz hf)
theorem hr_ldiv (G : hw_G X B fr cc nL own) {x y : Int64} (d : decode cc pc = .ok (.ldiv, 1)) (hne : ¬ y = 0) (K : hw_V X B fr nb S z c sl Q nL (pc + 1) L (.long (x / y) :: st)) : hw_V X B fr nb S z c sl Q nL pc L (.long y :: .long x :: st) :=
  fun ls H locs hl hP hz hf => lv_ldiv G.1 G.2.1 d hne (K ls H locs hl hP hz hf)
theorem hr_lrem (G : hw_G X B fr cc nL own) {x y : Int64} (d : decode cc pc = .ok (.lrem, 1)) (hne : ¬ y = 0) (K : hw_V X B fr nb S z c sl Q nL (pc + 1) L (.long (x - x / y * y) :: st)) : hw_V X B fr nb S z c sl Q nL pc L (.long y :: .long x :: st) :=
  fun ls H locs hl hP hz hf => lv_lrem G.1 G.2.1 d hne (K ls H locs hl hP hz hf)
theorem hr_lneg (G : hw_G X B fr cc nL own) {x : Int64} (d : decode cc pc = .ok (.lneg, 1)) (K : hw_V X B fr nb S z c sl Q nL (pc + 1) L (.long (-x) :: st)) : hw_V X B fr nb S z c sl Q nL pc L (.long x :: st) :=
  fun ls H locs hl hP hz hf => lv_lneg G.1 G.2.1 d (K ls H locs hl hP hz hf)
theorem hr_lcmp (G : hw_G X B fr cc nL own) {x y : Int64} (d : decode cc pc = .ok (.lcmp, 1)) (K : hw_V X B fr nb S z c sl Q nL (pc + 1) L (.int (lg_cmp x y) :: st)) : hw_V X B fr nb S z c sl Q nL pc L (.long y :: .long x :: st) :=
  fun ls H locs hl hP hz hf => W.lcmp G.1 G.2.1 d (K ls H locs hl hP hz hf)
theorem hr_i2l (G : hw_G X B fr cc nL own) {x : Int32} (d : decode cc pc = .ok (.i2l, 1)) (K : hw_V X B fr nb S z c sl Q nL (pc + 1) L (.long x.toInt64 :: st)) : hw_V X B fr nb S z c sl Q nL pc L (.int x :: st) :=
  fun ls H locs hl hP hz hf => lv_i2l G.1 G.2.1 d rfl (K ls H locs hl hP hz hf)
theorem hr_l2i (G : hw_G X B fr cc nL own) {x : Int64} (d : decode cc pc = .ok (.l2i, 1)) (K : hw_V X B fr nb S z c sl Q nL (pc + 1) L (.int x.toInt32 :: st)) : hw_V X B fr nb S z c sl Q nL pc L (.long x :: st) :=
  fun ls H locs hl hP hz hf => lv_l2i G.1 G.2.1 d rfl (K ls H locs hl hP hz hf)
theorem hr_i2c (G : hw_G X B fr cc nL own) {x : Int32} (d : decode cc pc = .ok (.i2c, 1)) (K : hw_V X B fr nb S z c sl Q nL (pc + 1) L (.int (x.toUInt32 % 65536).toInt32 :: st)) : hw_V X B fr nb S z c sl Q nL pc L (.int x :: st) :=
  fun ls H locs hl hP hz hf => lv_i2c G.1 G.2.1 d rfl (K ls H locs hl hP hz hf)
theorem hr_dup (G : hw_G X B fr cc nL own) {a : Value} (d : decode cc pc = .ok (.dup, 1)) (h : a.category = 1) (K : hw_V X B fr nb S z c sl Q nL (pc + 1) L (a :: a :: st)) : hw_V X B fr nb S z c sl Q nL pc L (a :: st) :=
  fun ls H locs hl hP hz hf => lv_dup G.1 G.2.1 d h (K ls H locs hl hP hz hf)
theorem hr_pop (G : hw_G X B fr cc nL own) {a : Value} (d : decode cc pc = .ok (.pop, 1)) (h : a.category = 1) (K : hw_V X B fr nb S z c sl Q nL (pc + 1) L (st)) : hw_V X B fr nb S z c sl Q nL pc L (a :: st) :=
  fun ls H locs hl hP hz hf => lv_pop G.1 G.2.1 d h (K ls H locs hl hP hz hf)
theorem hr_dup_x1 (G : hw_G X B fr cc nL own) {a b : Value} (d : decode cc pc = .ok (.dup_x1, 1)) (h : a.category = 1) (h2 : b.category = 1) (K : hw_V X B fr nb S z c sl Q nL (pc + 1) L (a :: b :: a :: st)) : hw_V X B fr nb S z c sl Q nL pc L (a :: b :: st) :=
  fun ls H locs hl hP hz hf => lv_dup_x1 G.1 G.2.1 d h h2 (K ls H locs hl hP hz hf)
theorem hr_dup_x2 (G : hw_G X B fr cc nL own) {a b e : Value} (d : decode cc pc = .ok (.dup_x2, 1)) (h : a.category = 1) (h2 : b.category = 1) (h3 : e.category = 1) (K : hw_V X B fr nb S z c sl Q nL (pc + 1) L (a :: b :: e :: a :: st)) : hw_V X B fr nb S z c sl Q nL pc L (a :: b :: e :: st) :=
  fun ls H locs hl hP hz hf => lv_dup_x2 G.1 G.2.1 d h h2 h3 (K ls H locs hl hP hz hf)
theorem hr_dup2 (G : hw_G X B fr cc nL own) {a b : Value} (d : decode cc pc = .ok (.dup2, 1)) (h : a.category = 1) (h2 : b.category = 1) (K : hw_V X B fr nb S z c sl Q nL (pc + 1) L (a :: b :: a :: b :: st)) : hw_V X B fr nb S z c sl Q nL pc L (a :: b :: st) :=
  fun ls H locs hl hP hz hf => lv_dup2_11 G.1 G.2.1 d h h2 (K ls H locs hl hP hz hf)
theorem hr_if_eq (G : hw_G X B fr cc nL own) {x : Int32} {off : Int} {tgt : Nat} (d : decode cc pc = .ok (.ifCond .eq off, 3)) (ht : (pc : Int) + off = (tgt : Int)) (kt : x = 0 → hw_V X B fr nb S z c sl Q nL tgt L st) (kf : ¬ x = 0 → hw_V X B fr nb S z c sl Q nL (pc + 3) L st) : hw_V X B fr nb S z c sl Q nL pc L (.int x :: st) :=
  fun ls H locs hl hP hz hf => lv_if_eq G.1 G.2.1 d ht (fun h => kt h ls H locs hl hP hz hf) (fun h => kf h ls H locs hl hP hz hf)
theorem hr_icmp_eq (G : hw_G X B fr cc nL own) {x y : Int32} {off : Int} {tgt : Nat} (d : decode cc pc = .ok (.if_icmp .eq off, 3)) (ht : (pc : Int) + off = (tgt : Int)) (kt : x = y → hw_V X B fr nb S z c sl Q nL tgt L st) (kf : ¬ x = y → hw_V X B fr nb S z c sl Q nL (pc + 3) L st) : hw_V X B fr nb S z c sl Q nL pc L (.int y :: .int x :: st) :=
  fun ls H locs hl hP hz hf => lv_icmp_eq G.1 G.2.1 d ht (fun h => kt h ls H locs hl hP hz hf) (fun h => kf h ls H locs hl hP hz hf)
theorem hr_if_ne (G : hw_G X B fr cc nL own) {x : Int32} {off : Int} {tgt : Nat} (d : decode cc pc = .ok (.ifCond .ne off, 3)) (ht : (pc : Int) + off = (tgt : Int)) (kt : ¬ x = 0 → hw_V X B fr nb S z c sl Q nL tgt L st) (kf : x = 0 → hw_V X B fr nb S z c sl Q nL (pc + 3) L st) : hw_V X B fr nb S z c sl Q nL pc L (.int x :: st) :=
  fun ls H locs hl hP hz hf => lv_if_ne G.1 G.2.1 d ht (fun h => kt h ls H locs hl hP hz hf) (fun h => kf h ls H locs hl hP hz hf)
theorem hr_icmp_ne (G : hw_G X B fr cc nL own) {x y : Int32} {off : Int} {tgt : Nat} (d : decode cc pc = .ok (.if_icmp .ne off, 3)) (ht : (pc : Int) + off = (tgt : Int)) (kt : ¬ x = y → hw_V X B fr nb S z c sl Q nL tgt L st) (kf : x = y → hw_V X B fr nb S z c sl Q nL (pc + 3) L st) : hw_V X B fr nb S z c sl Q nL pc L (.int y :: .int x :: st) :=
  fun ls H locs hl hP hz hf => lv_icmp_ne G.1 G.2.1 d ht (fun h => kt h ls H locs hl hP hz hf) (fun h => kf h ls H locs hl hP hz hf)
theorem hr_if_lt (G : hw_G X B fr cc nL own) {x : Int32} {off : Int} {tgt : Nat} (d : decode cc pc = .ok (.ifCond .lt off, 3)) (ht : (pc : Int) + off = (tgt : Int)) (kt : x < 0 → hw_V X B fr nb S z c sl Q nL tgt L st) (kf : ¬ x < 0 → hw_V X B fr nb S z c sl Q nL (pc + 3) L st) : hw_V X B fr nb S z c sl Q nL pc L (.int x :: st) :=
  fun ls H locs hl hP hz hf => lv_if_lt G.1 G.2.1 d ht (fun h => kt h ls H locs hl hP hz hf) (fun h => kf h ls H locs hl hP hz hf)
theorem hr_icmp_lt (G : hw_G X B fr cc nL own) {x y : Int32} {off : Int} {tgt : Nat} (d : decode cc pc = .ok (.if_icmp .lt off, 3)) (ht : (pc : Int) + off = (tgt : Int)) (kt : x < y → hw_V X B fr nb S z c sl Q nL tgt L st) (kf : ¬ x < y → hw_V X B fr nb S z c sl Q nL (pc + 3) L st) : hw_V X B fr nb S z c sl Q nL pc L (.int y :: .int x :: st) :=
  fun ls H locs hl hP hz hf => lv_icmp_lt G.1 G.2.1 d ht (fun h => kt h ls H locs hl hP hz hf) (fun h => kf h ls H locs hl hP hz hf)
theorem hr_if_ge (G : hw_G X B fr cc nL own) {x : Int32} {off : Int} {tgt : Nat} (d : decode cc pc = .ok (.ifCond .ge off, 3)) (ht : (pc : Int) + off = (tgt : Int)) (kt : 0 ≤ x → hw_V X B fr nb S z c sl Q nL tgt L st) (kf : ¬ 0 ≤ x → hw_V X B fr nb S z c sl Q nL (pc + 3) L st) : hw_V X B fr nb S z c sl Q nL pc L (.int x :: st) :=
  fun ls H locs hl hP hz hf => lv_if_ge G.1 G.2.1 d ht (fun h => kt h ls H locs hl hP hz hf) (fun h => kf h ls H locs hl hP hz hf)
theorem hr_icmp_ge (G : hw_G X B fr cc nL own) {x y : Int32} {off : Int} {tgt : Nat} (d : decode cc pc = .ok (.if_icmp .ge off, 3)) (ht : (pc : Int) + off = (tgt : Int)) (kt : y ≤ x → hw_V X B fr nb S z c sl Q nL tgt L st) (kf : ¬ y ≤ x → hw_V X B fr nb S z c sl Q nL (pc + 3) L st) : hw_V X B fr nb S z c sl Q nL pc L (.int y :: .int x :: st) :=
  fun ls H locs hl hP hz hf => lv_icmp_ge G.1 G.2.1 d ht (fun h => kt h ls H locs hl hP hz hf) (fun h => kf h ls H locs hl hP hz hf)
theorem hr_if_gt (G : hw_G X B fr cc nL own) {x : Int32} {off : Int} {tgt : Nat} (d : decode cc pc = .ok (.ifCond .gt off, 3)) (ht : (pc : Int) + off = (tgt : Int)) (kt : 0 < x → hw_V X B fr nb S z c sl Q nL tgt L st) (kf : ¬ 0 < x → hw_V X B fr nb S z c sl Q nL (pc + 3) L st) : hw_V X B fr nb S z c sl Q nL pc L (.int x :: st) :=
  fun ls H locs hl hP hz hf => lv_if_gt G.1 G.2.1 d ht (fun h => kt h ls H locs hl hP hz hf) (fun h => kf h ls H locs hl hP hz hf)
theorem hr_icmp_gt (G : hw_G X B fr cc nL own) {x y : Int32} {off : Int} {tgt : Nat} (d : decode cc pc = .ok (.if_icmp .gt off, 3)) (ht : (pc : Int) + off = (tgt : Int)) (kt : y < x → hw_V X B fr nb S z c sl Q nL tgt L st) (kf : ¬ y < x → hw_V X B fr nb S z c sl Q nL (pc + 3) L st) : hw_V X B fr nb S z c sl Q nL pc L (.int y :: .int x :: st) :=
  fun ls H locs hl hP hz hf => lv_icmp_gt G.1 G.2.1 d ht (fun h => kt h ls H locs hl hP hz hf) (fun h => kf h ls H locs hl hP hz hf)
theorem hr_if_le (G : hw_G X B fr cc nL own) {x : Int32} {off : Int} {tgt : Nat} (d : decode cc pc = .ok (.ifCond .le off, 3)) (ht : (pc : Int) + off = (tgt : Int)) (kt : x ≤ 0 → hw_V X B fr nb S z c sl Q nL tgt L st) (kf : ¬ x ≤ 0 → hw_V X B fr nb S z c sl Q nL (pc + 3) L st) : hw_V X B fr nb S z c sl Q nL pc L (.int x :: st) :=
  fun ls H locs hl hP hz hf => lv_if_le G.1 G.2.1 d ht (fun h => kt h ls H locs hl hP hz hf) (fun h => kf h ls H locs hl hP hz hf)
theorem hr_icmp_le (G : hw_G X B fr cc nL own) {x y : Int32} {off : Int} {tgt : Nat} (d : decode cc pc = .ok (.if_icmp .le off, 3)) (ht : (pc : Int) + off = (tgt : Int)) (kt : x ≤ y → hw_V X B fr nb S z c sl Q nL tgt L st) (kf : ¬ x ≤ y → hw_V X B fr nb S z c sl Q nL (pc + 3) L st) : hw_V X B fr nb S z c sl Q nL pc L (.int y :: .int x :: st) :=
  fun ls H locs hl hP hz hf => lv_icmp_le G.1 G.2.1 d ht (fun h => kt h ls H locs hl hP hz hf) (fun h => kf h ls H locs hl hP hz hf)
theorem hr_goto (G : hw_G X B fr cc nL own) {off : Int} {tgt : Nat} (d : decode cc pc = .ok (.goto off, 3)) (ht : (pc : Int) + off = (tgt : Int)) (K : hw_V X B fr nb S z c sl Q nL tgt L st) : hw_V X B fr nb S z c sl Q nL pc L st :=
  fun ls H locs hl hP hz hf => lv_goto G.1 G.2.1 d ht (K ls H locs hl hP hz hf)
theorem hr_ifnonnull (G : hw_G X B fr cc nL own) {x : Nat} {off : Int} {tgt : Nat} (d : decode cc pc = .ok (.ifnonnull off, 3)) (ht : (pc : Int) + off = (tgt : Int)) (K : hw_V X B fr nb S z c sl Q nL tgt L st) : hw_V X B fr nb S z c sl Q nL pc L (.ref x :: st) :=
  fun ls H locs hl hP hz hf => lv_ifnonnull G.1 G.2.1 d ht (K ls H locs hl hP hz hf)
theorem hr_ifnull (G : hw_G X B fr cc nL own) {x : Nat} {off : Int} (d : decode cc pc = .ok (.ifnull off, 3)) (K : hw_V X B fr nb S z c sl Q nL (pc + 3) L st) : hw_V X B fr nb S z c sl Q nL pc L (.ref x :: st) :=
  fun ls H locs hl hP hz hf => lv_ifnull G.1 G.2.1 d (K ls H locs hl hP hz hf)
theorem hr_ifnullN (G : hw_G X B fr cc nL own) {off : Int} {tgt : Nat} (d : decode cc pc = .ok (.ifnull off, 3)) (ht : (pc : Int) + off = (tgt : Int)) (K : hw_V X B fr nb S z c sl Q nL tgt L st) : hw_V X B fr nb S z c sl Q nL pc L (.null :: st) :=
  fun ls H locs hl hP hz hf => lv_ifnullN G.1 G.2.1 d ht (K ls H locs hl hP hz hf)
theorem hr_ifnonnullN (G : hw_G X B fr cc nL own) {off : Int} (d : decode cc pc = .ok (.ifnonnull off, 3)) (K : hw_V X B fr nb S z c sl Q nL (pc + 3) L st) : hw_V X B fr nb S z c sl Q nL pc L (.null :: st) :=
  fun ls H locs hl hP hz hf => lv_ifnonnullN G.1 G.2.1 d (K ls H locs hl hP hz hf)
theorem hr_acmp_ne (G : hw_G X B fr cc nL own) {x y : Nat} {off : Int} {tgt : Nat} (d : decode cc pc = .ok (.if_acmp .ne off, 3)) (ht : (pc : Int) + off = (tgt : Int)) (kt : ¬ x = y → hw_V X B fr nb S z c sl Q nL tgt L st) (kf : x = y → hw_V X B fr nb S z c sl Q nL (pc + 3) L st) : hw_V X B fr nb S z c sl Q nL pc L (.ref y :: .ref x :: st) :=
  fun ls H locs hl hP hz hf => lv_acmp_ne (rx := some x) (ry := some y) G.1 G.2.1 d ht (fun h => kt (fun e => h (congrArg some e)) ls H locs hl hP hz hf) (fun h => kf (Option.some.inj h) ls H locs hl hP hz hf)
theorem hr_tblOut (G : hw_G X B fr cc nL own) {dflt lo hi : Int} {offs : Array Int} {len : Nat} {x : Int32} {tgt : Nat} (d : decode cc pc = .ok (.tableswitch dflt lo hi offs, len)) (h : x.toInt < lo ∨ hi < x.toInt) (ht : (pc : Int) + dflt = (tgt : Int)) (K : hw_V X B fr nb S z c sl Q nL tgt L st) : hw_V X B fr nb S z c sl Q nL pc L (.int x :: st) :=
  fun ls H locs hl hP hz hf => lv_tableOut G.1 G.2.1 d h ht (K ls H locs hl hP hz hf)
theorem hr_tblIn (G : hw_G X B fr cc nL own) {dflt lo hi : Int} {offs : Array Int} {len : Nat} {x : Int32} {off : Int} {tgt : Nat} (d : decode cc pc = .ok (.tableswitch dflt lo hi offs, len)) (h1 : ¬ x.toInt < lo) (h2 : ¬ hi < x.toInt) (ho : offs[(x.toInt - lo).toNat]? = some off) (ht : (pc : Int) + off = (tgt : Int)) (K : hw_V X B fr nb S z c sl Q nL tgt L st) : hw_V X B fr nb S z c sl Q nL pc L (.int x :: st) :=
  fun ls H locs hl hP hz hf => lv_tableIn G.1 G.2.1 d h1 h2 ho ht (K ls H locs hl hP hz hf)
theorem hr_lookup (G : hw_G X B fr cc nL own) {dflt : Int} {ps : Array (Int × Int)} {len : Nat} {x : Int32} {off : Int} {tgt : Nat} (d : decode cc pc = .ok (.lookupswitch dflt ps, len)) (hp : (ps.toList.zip (ps.toList.drop 1)).all (fun (a, next) => a.1 < next.1) = true) (ho : Op.lookupswitch.offset ps.toList dflt x.toInt = off) (ht : (pc : Int) + off = (tgt : Int)) (K : hw_V X B fr nb S z c sl Q nL tgt L st) : hw_V X B fr nb S z c sl Q nL pc L (.int x :: st) :=
  fun ls H locs hl hP hz hf => lv_lookup G.1 G.2.1 d hp ho ht (K ls H locs hl hP hz hf)
end HR
