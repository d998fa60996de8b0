/-! Rows on arrays. -/
section HA
variable {X : hw_X} {B : hw_B} {fr : Nat → Prop} {nb : Nat → Nat} {S : hw_St} {z c sl : Nat} {Q : State → Prop} {cc : ByteArray} {nL pc : Nat} {own : String} {L : List (Nat × Value)} {st : List Value}
theorem hw_idx {N n : Nat} {cA : ClassId} {f : Nat → Value} (hn : n < N) (hN : N < 2 ^ 31) : ¬ (nI n < 0 ∨ (arrV cA N f).slots.size ≤ (nI n).toNatClampNeg) := by
  rw [arrV_size]; exact nI_in hn hN
theorem hw_rdv {N n : Nat} {cA : ClassId} {f : Nat → Value} (hn : n < N) (hN : N < 2 ^ 31) : (arrV cA N f).slots[(nI n).toNatClampNeg]? = some (f n) := by
  rw [nI_clamp (by omega)]; exact arrV_read _ _ hn
theorem hw_rdr {B : hw_B} {t n : Nat} (hn : n < 2 ^ 31) : hw_rd B (t + 2) (nI n) = .ref (hw_a B t n) := by
  show (if nI n < 0 then Value.null else .ref (hw_a B t (nI n).toNatClampNeg)) = _
  rw [if_neg (nI_pos hn), nI_clamp hn]
theorem hw_rdn {B : hw_B} {t : Nat} {v : Int32} (h : v < 0) : hw_rd B (t + 2) v = .null := by
  show (if v < 0 then Value.null else _) = _
  rw [if_pos h]
theorem hr_alen (G : hw_G X B fr cc nL own) {k i et : Nat} {v : Int32} (hk : hw_kd k = .inr et) (het : et < hw_nt) (hi : i < nb k) (hv : nI (hw_ln k i) = v) (d : decode cc pc = .ok (.arraylength, 1)) (K : hw_V X B fr nb S z c sl Q nL (pc + 1) L (.int v :: st)) : hw_V X B fr nb S z c sl Q nL pc L (.ref (hw_a B k i) :: st) := by
  intro ls H locs hl hP hz hf
  exact W.alen (n := v) G.1 G.2.1 ((hw_cel_a hk).mp (hP.2.1 k i hi).2) ((G.2.2.2.2.1.2.1 et het).1 _ _) (by rw [arrV_size]; exact hv) rfl rfl d (K ls H locs hl hP hz hf)

theorem hr_iald (G : hw_G X B fr cc nL own) {k i n et : Nat} {x : Int32} {v : Value} (hk : hw_kd k = .inr et) (het : et < hw_nt) (he : hw_ft et = .int) (hi : i < nb k) (hx : x = nI n) (hn : n < hw_ln k i) (hv : hw_rd B (hw_ty k n) (S k i n) = v) (d : decode cc pc = .ok (.iaload, 1)) (K : hw_V X B fr nb S z c sl Q nL (pc + 1) L (v :: st)) : hw_V X B fr nb S z c sl Q nL pc L (.int x :: .ref (hw_a B k i) :: st) := by
  intro ls H locs hl hP hz hf
  have hA := (G.2.2.2.2.1.2.1 et het).1
  rw [he] at hA
  subst hx
  exact W.iald G.1 G.2.1 ((hw_cel_a hk).mp (hP.2.1 k i hi).2) (hA _ _) (fun q => by cases q) (hw_idx hn (hw_ln_lt k i)) ((hw_rdv hn (hw_ln_lt k i)).trans (congrArg some hv)) rfl rfl d (K ls H locs hl hP hz hf)
theorem hr_zald (G : hw_G X B fr cc nL own) {k i n et : Nat} {x : Int32} {v : Value} (hk : hw_kd k = .inr et) (het : et < hw_nt) (he : hw_ft et = .boolean) (hi : i < nb k) (hx : x = nI n) (hn : n < hw_ln k i) (hv : hw_rd B (hw_ty k n) (S k i n) = v) (d : decode cc pc = .ok (.baload, 1)) (K : hw_V X B fr nb S z c sl Q nL (pc + 1) L (v :: st)) : hw_V X B fr nb S z c sl Q nL pc L (.int x :: .ref (hw_a B k i) :: st) := by
  intro ls H locs hl hP hz hf
  have hA := (G.2.2.2.2.1.2.1 et het).1
  rw [he] at hA
  subst hx
  exact W.zald G.1 G.2.1 ((hw_cel_a hk).mp (hP.2.1 k i hi).2) (hA _ _) (fun q => by cases q) (hw_idx hn (hw_ln_lt k i)) ((hw_rdv hn (hw_ln_lt k i)).trans (congrArg some hv)) rfl rfl d (K ls H locs hl hP hz hf)
theorem hr_cald (G : hw_G X B fr cc nL own) {k i n et : Nat} {x : Int32} {v : Value} (hk : hw_kd k = .inr et) (het : et < hw_nt) (he : hw_ft et = .char) (hi : i < nb k) (hx : x = nI n) (hn : n < hw_ln k i) (hv : hw_rd B (hw_ty k n) (S k i n) = v) (d : decode cc pc = .ok (.caload, 1)) (K : hw_V X B fr nb S z c sl Q nL (pc + 1) L (v :: st)) : hw_V X B fr nb S z c sl Q nL pc L (.int x :: .ref (hw_a B k i) :: st) := by
  intro ls H locs hl hP hz hf
  have hA := (G.2.2.2.2.1.2.1 et het).1
  rw [he] at hA
  subst hx
  exact W.cald G.1 G.2.1 ((hw_cel_a hk).mp (hP.2.1 k i hi).2) (hA _ _) (fun q => by cases q) (hw_idx hn (hw_ln_lt k i)) ((hw_rdv hn (hw_ln_lt k i)).trans (congrArg some hv)) rfl rfl d (K ls H locs hl hP hz hf)
theorem hr_lald (G : hw_G X B fr cc nL own) {k i n et : Nat} {x : Int32} {v : Value} (hk : hw_kd k = .inr et) (het : et < hw_nt) (he : hw_ft et = .long) (hi : i < nb k) (hx : x = nI n) (hn : n < hw_ln k i) (hv : hw_rd B (hw_ty k n) (S k i n) = v) (d : decode cc pc = .ok (.laload, 1)) (K : hw_V X B fr nb S z c sl Q nL (pc + 1) L (v :: st)) : hw_V X B fr nb S z c sl Q nL pc L (.int x :: .ref (hw_a B k i) :: st) := by
  intro ls H locs hl hP hz hf
  have hA := (G.2.2.2.2.1.2.1 et het).1
  rw [he] at hA
  subst hx
  exact W.lald G.1 G.2.1 ((hw_cel_a hk).mp (hP.2.1 k i hi).2) (hA _ _) (fun q => by cases q) (hw_idx hn (hw_ln_lt k i)) ((hw_rdv hn (hw_ln_lt k i)).trans (congrArg some hv)) rfl rfl d (K ls H locs hl hP hz hf)
theorem hr_aald (G : hw_G X B fr cc nL own) {k i n et : Nat} {C : String} {x : Int32} {v : Value} (hk : hw_kd k = .inr et) (het : et < hw_nt) (he : hw_ft et = .object C) (hi : i < nb k) (hx : x = nI n) (hn : n < hw_ln k i) (hv : hw_rd B (hw_ty k n) (S k i n) = v) (d : decode cc pc = .ok (.aaload, 1)) (K : hw_V X B fr nb S z c sl Q nL (pc + 1) L (v :: st)) : hw_V X B fr nb S z c sl Q nL pc L (.int x :: .ref (hw_a B k i) :: st) := by
  intro ls H locs hl hP hz hf
  have hA := (G.2.2.2.2.1.2.1 et het).1
  rw [he] at hA
  subst hx
  exact W.aald (ty := .object C) G.1 G.2.1 ((hw_cel_a hk).mp (hP.2.1 k i hi).2) (hA _ _) rfl (fun q => by cases q) (hw_idx hn (hw_ln_lt k i)) ((hw_rdv hn (hw_ln_lt k i)).trans (congrArg some hv)) rfl rfl d (K ls H locs hl hP hz hf)
theorem hw_aset {H H1 : Heap} {k i n et : Nat} {y : Int32} {v : Value} (hk : hw_kd k = .inr et) (hP : hw_P B nb S H) (hi : i < nb k) (hn : n < hw_ln k i) (hv : hw_rd B (hw_ty k n) y = v) (e1 : H1[hw_a B k i]? = some ((arrV (B.2.2.1.2 et) (hw_ln k i) (fun j => hw_rd B (hw_ty k j) (S k i j))).setSlot (nI n).toNatClampNeg v)) (e2 : H1.size = H.size) (e3 : ∀ q, q ≠ hw_a B k i → H1[q]? = H[q]?) : hw_P B nb (hw_sv S k i n y) H1 := by
  refine hP.set hi e2 e3 ((hw_cel_a hk).mpr ?_) (fun k' i' h => hw_sv_off h)
  rw [e1, arrV_store, nI_clamp (Nat.lt_trans hn (hw_ln_lt k i))]
  congr 2
  funext j'
  exact hw_upd hv S j'

theorem hr_iast (G : hw_G X B fr cc nL own) {k i n et : Nat} {x y : Int32} (hk : hw_kd k = .inr et) (het : et < hw_nt) (he : hw_ft et = .int) (hi : i < nb k) (hx : x = nI n) (hn : n < hw_ln k i) (ht : hw_ty k n = 0) (d : decode cc pc = .ok (.iastore, 1)) (K : hw_V X B fr nb (hw_sv S k i n y) z c sl Q nL (pc + 1) L st) : hw_V X B fr nb S z c sl Q nL pc L (.int y :: .int x :: .ref (hw_a B k i) :: st) := by
  intro ls H locs hl hP hz hf
  have hA := (G.2.2.2.2.1.2.1 et het).1
  rw [he] at hA
  subst hx
  refine W.iast G.1 G.2.1 ((hw_cel_a hk).mp (hP.2.1 k i hi).2) (hA _ _) (fun q => by cases q) (hw_idx hn (hw_ln_lt k i)) rfl rfl d fun H1 e1 e2 e3 => ?_
  exact K ls H1 _ hl (hw_aset hk hP hi hn (by rw [ht]; first | done | rfl) e1 e2 e3) (e2.trans hz) (hw_locs hf hi)
theorem hr_zast (G : hw_G X B fr cc nL own) {k i n et : Nat} {x y : Int32} (hk : hw_kd k = .inr et) (het : et < hw_nt) (he : hw_ft et = .boolean) (hi : i < nb k) (hx : x = nI n) (hn : n < hw_ln k i) (ht : hw_ty k n = 0) (hnr : narrow .boolean (.int y) = .int y) (d : decode cc pc = .ok (.bastore, 1)) (K : hw_V X B fr nb (hw_sv S k i n y) z c sl Q nL (pc + 1) L st) : hw_V X B fr nb S z c sl Q nL pc L (.int y :: .int x :: .ref (hw_a B k i) :: st) := by
  intro ls H locs hl hP hz hf
  have hA := (G.2.2.2.2.1.2.1 et het).1
  rw [he] at hA
  subst hx
  refine W.zast G.1 G.2.1 ((hw_cel_a hk).mp (hP.2.1 k i hi).2) (hA _ _) (fun q => by cases q) (hw_idx hn (hw_ln_lt k i)) rfl rfl d fun H1 e1 e2 e3 => ?_
  exact K ls H1 _ hl (hw_aset hk hP hi hn (by rw [ht]; first | done | rfl) (by rw [hnr] at e1; exact e1) e2 e3) (e2.trans hz) (hw_locs hf hi)
theorem hr_cast (G : hw_G X B fr cc nL own) {k i n et : Nat} {x y : Int32} (hk : hw_kd k = .inr et) (het : et < hw_nt) (he : hw_ft et = .char) (hi : i < nb k) (hx : x = nI n) (hn : n < hw_ln k i) (ht : hw_ty k n = 0) (hnr : narrow .char (.int y) = .int y) (d : decode cc pc = .ok (.castore, 1)) (K : hw_V X B fr nb (hw_sv S k i n y) z c sl Q nL (pc + 1) L st) : hw_V X B fr nb S z c sl Q nL pc L (.int y :: .int x :: .ref (hw_a B k i) :: st) := by
  intro ls H locs hl hP hz hf
  have hA := (G.2.2.2.2.1.2.1 et het).1
  rw [he] at hA
  subst hx
  refine W.cast G.1 G.2.1 ((hw_cel_a hk).mp (hP.2.1 k i hi).2) (hA _ _) (fun q => by cases q) (hw_idx hn (hw_ln_lt k i)) rfl rfl d fun H1 e1 e2 e3 => ?_
  exact K ls H1 _ hl (hw_aset hk hP hi hn (by rw [ht]; first | done | rfl) (by rw [hnr] at e1; exact e1) e2 e3) (e2.trans hz) (hw_locs hf hi)
theorem hr_last (G : hw_G X B fr cc nL own) {k i n et : Nat} {x y : Int32} (hk : hw_kd k = .inr et) (het : et < hw_nt) (he : hw_ft et = .long) (hi : i < nb k) (hx : x = nI n) (hn : n < hw_ln k i) (ht : hw_ty k n = 1) (d : decode cc pc = .ok (.lastore, 1)) (K : hw_V X B fr nb (hw_sv S k i n y) z c sl Q nL (pc + 1) L st) : hw_V X B fr nb S z c sl Q nL pc L (.long y.toInt64 :: .int x :: .ref (hw_a B k i) :: st) := by
  intro ls H locs hl hP hz hf
  have hA := (G.2.2.2.2.1.2.1 et het).1
  rw [he] at hA
  subst hx
  refine W.last G.1 G.2.1 ((hw_cel_a hk).mp (hP.2.1 k i hi).2) (hA _ _) (fun q => by cases q) (hw_idx hn (hw_ln_lt k i)) rfl rfl d fun H1 e1 e2 e3 => ?_
  exact K ls H1 _ hl (hw_aset hk hP hi hn (by rw [ht]; first | done | rfl) e1 e2 e3) (e2.trans hz) (hw_locs hf hi)
theorem hr_aast (G : hw_G X B fr cc nL own) {k i n et t v ci : Nat} {C : String} {T : u_T} {N : Nat} {x : Int32} (hk : hw_kd k = .inr et) (het : et < hw_nt) (he : hw_ft et = .object C) (hkt : hw_kd t = .inl ci) (hct : vwCl[ci]? = some (C, T, N)) (hi : i < nb k) (hvi : v < nb t) (hv31 : v < 2 ^ 31) (hx : x = nI n) (hn : n < hw_ln k i) (ht : hw_ty k n = t + 2) (d : decode cc pc = .ok (.aastore, 1)) (K : hw_V X B fr nb (hw_sv S k i n (nI v)) z c sl Q nL (pc + 1) L st) : hw_V X B fr nb S z c sl Q nL pc L (.ref (hw_a B t v) :: .int x :: .ref (hw_a B k i) :: st) := by
  intro ls H locs hl hP hz hf
  have hA := (G.2.2.2.2.1.2.1 et het).2
  rw [he] at hA
  obtain ⟨kA, comp, k1, k2, k3, -⟩ := hA
  subst hx
  obtain ⟨r', hr', cellV, g1, g2, g3, -⟩ := (hw_cel_o hkt).mp (hP.2.1 t v hvi).2
  have hcls := (G.2.2.2.2.1.1 ci _ hct).2
  have hcomp : comp = B.2.2.1.1.1 ci := Option.some.inj (k3.symm.trans hcls.1)
  subst hcomp
  have hcls2 := hcls.2
  obtain ⟨kC, hkC, -⟩ := hcls2
  have hlt := hw_ln_lt k i
  refine W.aast G.1 G.2.1 ((hw_cel_a hk).mp (hP.2.1 k i hi).2) (fun q h => by cases h) (fun h => by cases h) k1 k2 rfl hkC ⟨nI_pos (by omega), by rw [arrV_size, nI_clamp (by omega)]; exact hn⟩ g1 (fun q h => by rw [g3] at h; cases h) (by rw [g2]; exact hkC) (by rw [g2]; exact va_assign hcls) rfl rfl d fun H1 e1 e2 e3 => ?_
  exact K ls H1 _ hl (hw_aset hk hP hi hn (by rw [ht]; exact hw_rdr hv31) e1 e2 e3) (e2.trans hz) (hw_locs hf hi)
theorem hr_newa (G : hw_G X B fr cc nL own) {k n et : Nat} {atype : ArrayType} {x : Int32} (hk : hw_kd k = .inr et) (het : et < hw_nt) (he : hw_ft et = newarray.typeOf atype) (hw : Cond.arrayClass (newarray.typeOf atype) ∈ hw_TS) (hon : (Cond.arrayClass (newarray.typeOf atype)).before #[] (xs X) = true → (Cond.arrayClass (newarray.typeOf atype)).before (xa X) (xs X) = true) (hp : ∀ U cA, va_RA U cA (newarray.typeOf atype) → U.vm.findClass ("[" ++ (newarray.typeOf atype).toString) = some cA) (hd : ∀ B j, defaultValue (newarray.typeOf atype) = hw_rd B (hw_ty k j) (hw_d0 (hw_ty k j))) (hx : x = nI n) (hn : n = hw_ln k (nb k)) (hby : n * componentBytes (newarray.typeOf atype) ≤ 536870912) (hA : hw_a B k (nb k) = z) (hcs : c + 1 ≤ (xR X).cells) (hss : sl + n ≤ (xR X).slots) (d : decode cc pc = .ok (.newarray atype, 2))
    (K : hw_V X B fr (hw_nb nb k) (hw_nw S k (nb k)) (z + 1) (c + 1) (sl + n) Q nL (pc + 2) L (.ref (hw_a B k (nb k)) :: st)) : hw_V X B fr nb S z c sl Q nL pc L (.int x :: st) := by
  intro ls H locs hl hP hz hf
  have hlt := hw_ln_lt k (nb k)
  have hR := hp _ _ (by rw [← he]; exact (G.2.2.2.2.1.2.1 et het).2)
  subst hx
  refine va_newaK G.1 G.2.1 (hon (G.2.2.2.2.1.2.2.1 _ hw)) rfl d rfl (nI_pos (by omega)) (nI_clamp (by omega)) hby hcs hss hz fun H1 cA e1 z1 o1 _ hfc => ?_
  have hcA : cA = B.2.2.1.2 et := Option.some.inj (hfc.symm.trans hR)
  rw [← hA] at e1 ⊢
  refine K ls H1 locs hl (hP.push (hA.trans hz.symm) (by rw [z1, hz]) (fun q hq => o1 q (by rw [← hz]; exact hq)) ((hw_cel_a hk).mpr ?_)) (by rw [z1]) (hw_Lnew hf hA)
  rw [e1, hcA, hn]
  congr 2
  funext j
  exact hd B j
theorem hr_anew (G : hw_G X B fr cc nL own) {k n et index t : Nat} {C : String} {x : Int32} (hk : hw_kd k = .inr et) (het : et < hw_nt) (he : hw_ft et = .object C) (hw : Cond.classLink own index C ∈ hw_TS) (hw2 : Cond.arrayOver (.object C) ∈ hw_TS) (ht : ∀ j, hw_ty k j = t + 2) (hx : x = nI n) (hn : n = hw_ln k (nb k)) (hby : n * 4 ≤ 536870912) (hA : hw_a B k (nb k) = z) (hcs : c + 1 ≤ (xR X).cells) (hss : sl + n ≤ (xR X).slots) (d : decode cc pc = .ok (.anewarray index, 3))
    (K : hw_V X B fr (hw_nb nb k) (hw_nw S k (nb k)) (z + 1) (c + 1) (sl + n) Q nL (pc + 3) L (.ref (hw_a B k (nb k)) :: st)) : hw_V X B fr nb S z c sl Q nL pc L (.int x :: st) := by
  intro ls H locs hl hP hz hf
  have hlt := hw_ln_lt k (nb k)
  have hR := (G.2.2.2.2.1.2.1 et het).2
  rw [he] at hR
  obtain ⟨kA', comp', -, -, -, hR4⟩ := hR
  subst hx
  have hcl : (nI n).toNatClampNeg = n := nI_clamp (by omega)
  refine W.anew G.1 G.2.1 G.2.2.2.1 (va_any rfl (G.2.2.2.2.1.2.2.1 _ hw)) (va_AO.use (G.2.2.2.2.1.2.2.1 _ hw2)) rfl d rfl (nI_pos (by omega)) (by rw [hcl]; exact hby) hcs (by rw [hcl]; exact hss) fun cA kA comp f1 f2 f3 f4 => ?_
  have hcA : cA = B.2.2.1.2 et := Option.some.inj (f1.symm.trans hR4)
  rw [hcl]
  generalize hH1 : H.push ({ cls := cA, slots := Array.replicate n .null, vm := .none } : Cell) = H1
  have z1 : H1.size = H.size + 1 := by rw [← hH1, Array.size_push]
  have e1 : H1[H.size]? = some (arrV cA n (fun _ => .null)) := by rw [← hH1, Array.getElem?_push_size, ← arrV_new]
  have o1 : ∀ q : Nat, q < H.size → H1[q]? = H[q]? := fun q hq => by rw [← hH1, Array.getElem?_push, if_neg (Nat.ne_of_lt hq)]
  have hA' : hw_a B k (nb k) = H.size := hA.trans hz.symm
  rw [← hA'] at e1 ⊢
  refine K ls H1 locs hl (hP.push hA' z1 o1 ((hw_cel_a hk).mpr ?_)) (by rw [z1, hz]) (hw_Lnew hf hA)
  rw [e1, hcA, hn]
  congr 2
  funext j
  rw [ht j]
  exact (hw_rdn (show (-1 : Int32) < 0 by decide)).symm
end HA
