/-! The law: rows, bodies of its loop. -/
/-- addresses told anew for a session and a ticket that do not live yet -/
def reB (B : hw_B) (nb : Nat → Nat) (z1 z2 : Nat) : hw_B := (B.1, B.2.1, B.2.2.1, fun k i => if k = 9 ∧ i = nb 9 then z1 else if k = 11 ∧ i = nb 11 then z2 else hw_a B k i)
theorem reB_lt {B : hw_B} {nb : Nat → Nat} {z1 z2 k i : Nat} (h : i < nb k) : hw_a (reB B nb z1 z2) k i = hw_a B k i := by
  show (if k = 9 ∧ i = nb 9 then z1 else if k = 11 ∧ i = nb 11 then z2 else hw_a B k i) = hw_a B k i
  rw [if_neg, if_neg]
  · rintro ⟨rfl, rfl⟩; exact Nat.lt_irrefl _ h
  · rintro ⟨rfl, rfl⟩; exact Nat.lt_irrefl _ h
theorem reB_9 {B : hw_B} {nb : Nat → Nat} {z1 z2 : Nat} : hw_a (reB B nb z1 z2) 9 (nb 9) = z1 := if_pos ⟨rfl, rfl⟩
theorem reB_11 {B : hw_B} {nb : Nat → Nat} {z1 z2 : Nat} : hw_a (reB B nb z1 z2) 11 (nb 11) = z2 := by
  show (if 11 = 9 ∧ nb 11 = nb 9 then z1 else if 11 = 11 ∧ nb 11 = nb 11 then z2 else hw_a B 11 (nb 11)) = z2
  rw [if_neg (fun q => absurd q.1 (by decide)), if_pos ⟨rfl, rfl⟩]
theorem reB_rd {B : hw_B} {nb : Nat → Nat} {z1 z2 t : Nat} {v : Int32} (h9 : t = 11 → v < 0 ∨ v.toNatClampNeg < nb 9) (h11 : t = 13 → v < 0 ∨ v.toNatClampNeg < nb 11) : hw_rd (reB B nb z1 z2) t v = hw_rd B t v := by
  match t, h9, h11 with
  | 0, _, _ => rfl
  | 1, _, _ => rfl
  | t + 2, h9, h11 =>
    show (if v < 0 then Value.null else .ref (hw_a (reB B nb z1 z2) t v.toNatClampNeg)) = if v < 0 then Value.null else .ref (hw_a B t v.toNatClampNeg)
    by_cases hv : v < 0
    · rw [if_pos hv, if_pos hv]
    · rw [if_neg hv, if_neg hv]
      refine congrArg Value.ref ?_
      by_cases e9 : t = 9
      · subst e9; exact reB_lt ((h9 rfl).resolve_left hv)
      · by_cases e11 : t = 11
        · subst e11; exact reB_lt ((h11 rfl).resolve_left hv)
        · show (if t = 9 ∧ v.toNatClampNeg = nb 9 then z1 else if t = 11 ∧ v.toNatClampNeg = nb 11 then z2 else hw_a B t v.toNatClampNeg) = _
          rw [if_neg (fun q => e9 q.1), if_neg (fun q => e11 q.1)]
theorem ty_11 {k j : Nat} (h : hw_ty k j = 11) : k = 8 ∨ (k = 11 ∧ j = 2) := by
  unfold hw_ty at h
  repeat' split at h
  all_goals first | exact Or.inl rfl | exact Or.inr ⟨rfl, rfl⟩ | exact absurd h (by decide)
theorem ty_13 {k j : Nat} (h : hw_ty k j = 13) : k = 10 ∨ (k = 11 ∧ j = 5) := by
  unfold hw_ty at h
  repeat' split at h
  all_goals first | exact Or.inl rfl | exact Or.inr ⟨rfl, rfl⟩ | exact absurd h (by decide)
theorem ic_cl9 {nb : Nat → Nat} {S : hw_St} (hI : ic nb S) (hZ : iz nb S) {k i : Nat} (hi : i < nb k) (j : Nat) (h : hw_ty k j = 11) : S k i j < 0 ∨ (S k i j).toNatClampNeg < nb 9 := by
  have h9 := hI.2.2.1.1
  rcases ty_11 h with rfl | ⟨rfl, rfl⟩
  · have e : nb 8 = 1 := hI.1 8 (by decide)
    obtain rfl : i = 0 := by omega
    by_cases hj : j < nb 9
    · right
      rw [(hI.2.2.2.2.2.2.1 j hj).1, nI_clamp (by omega)]; exact hj
    · left
      rw [hZ.1 j (by omega)]; decide
  · right
    obtain ⟨s, hs, e⟩ := (hI.2.2.2.2.2.2.2.1 i hi).2.2.1
    rw [e, nI_clamp (by omega)]; exact hs
theorem ic_cl11 {nb : Nat → Nat} {S : hw_St} (hI : ic nb S) (hZ : iz nb S) {k i : Nat} (hi : i < nb k) (j : Nat) (h : hw_ty k j = 13) : S k i j < 0 ∨ (S k i j).toNatClampNeg < nb 11 := by
  have h11 := hI.2.2.2.1.1
  rcases ty_13 h with rfl | ⟨rfl, rfl⟩
  · have e : nb 10 = 1 := hI.1 10 (by decide)
    obtain rfl : i = 0 := by omega
    by_cases hj : j < nb 11
    · right
      rw [(hI.2.2.2.2.2.2.2.1 j hj).1, nI_clamp (by omega)]; exact hj
    · left
      rw [hZ.2 j (by omega)]; decide
  · rcases (hI.2.2.2.2.2.2.2.1 i hi).2.2.2.1 with e | ⟨p, hp, e⟩
    · left; rw [e]; decide
    · right; rw [e, nI_clamp (by omega)]; omega
theorem reB_cel {B : hw_B} {nb : Nat → Nat} {S : hw_St} {z1 z2 k i : Nat} {H : Heap} (hI : ic nb S) (hZ : iz nb S) (hi : i < nb k) (h : hw_cel B k i (S k i) H) : hw_cel (reB B nb z1 z2) k i (S k i) H := by
  have e : (fun j => hw_rd (reB B nb z1 z2) (hw_ty k j) (S k i j)) = fun j => hw_rd B (hw_ty k j) (S k i j) := funext fun j => reB_rd (ic_cl9 hI hZ hi j) (ic_cl11 hI hZ hi j)
  cases hk : hw_kd k with
  | inl ci =>
    obtain ⟨r, h1, h2⟩ := (hw_cel_o hk).mp h
    refine (hw_cel_o hk).mpr ⟨r, h1, ?_⟩
    rw [e, reB_lt hi]; exact h2
  | inr et =>
    have h2 := (hw_cel_a hk).mp h
    refine (hw_cel_a hk).mpr ?_
    rw [e, reB_lt hi]; exact h2
theorem hr_reB {X : hw_X} {B : hw_B} {fr : Nat → Prop} {nb : Nat → Nat} {S : hw_St} {z c sl : Nat} {Q : State → Prop} {nL pc : Nat} {L : List (Nat × Value)} {st : List Value} (hI : ic nb S) (hZ : iz nb S) (z1 z2 : Nat) (K : hw_V X (reB B nb z1 z2) fr nb S z c sl Q nL pc L st) : hw_V X B fr nb S z c sl Q nL pc L st := by
  intro ls H locs hl hP hz hf
  refine K ls H locs hl ⟨hP.1, fun k i hi => ⟨?_, reB_cel hI hZ hi (hP.2.1 k i hi).2⟩, fun k i k' i' hi hi' e => ?_⟩ hz ⟨hf.1, fun k i hi => ?_, hf.2.2⟩
  · rw [reB_lt hi]; exact (hP.2.1 k i hi).1
  · rw [reB_lt hi, reB_lt hi'] at e; exact hP.2.2 _ _ _ _ hi hi' e
  · rw [reB_lt hi]; exact hf.2.1 k i hi
theorem hw_sc.rb {B : hw_B} {nb : Nat → Nat} {z1 z2 i : Nat} {q : String × Nat × String} {U : State} (h : hw_sc B i q U) : hw_sc (reB B nb z1 z2) i q U := by
  have e0 : hw_a (reB B nb z1 z2) 60 i = hw_a B 60 i := by
    show (if 60 = 9 ∧ i = nb 9 then z1 else if 60 = 11 ∧ i = nb 11 then z2 else hw_a B 60 i) = _
    rw [if_neg (fun q => absurd q.1 (by decide)), if_neg (fun q => absurd q.1 (by decide))]
  have e1 : hw_a (reB B nb z1 z2) 61 i = hw_a B 61 i := by
    show (if 61 = 9 ∧ i = nb 9 then z1 else if 61 = 11 ∧ i = nb 11 then z2 else hw_a B 61 i) = _
    rw [if_neg (fun q => absurd q.1 (by decide)), if_neg (fun q => absurd q.1 (by decide))]
  unfold hw_sc
  rw [e0, e1]; exact h
theorem hw_G.rb {X : hw_X} {B : hw_B} {fr : Nat → Prop} {cc : ByteArray} {nL : Nat} {own : String} (G : hw_G X B fr cc nL own) (nb : Nat → Nat) (z1 z2 : Nat) : hw_G X (reB B nb z1 z2) fr cc nL own := by
  obtain ⟨g1, g2, g3, g4, ⟨k1, k2, k3, k4, k5, k6, k7, k8⟩, g6, g7, g8, g9⟩ := G
  exact ⟨g1, g2, g3, g4, ⟨k1, k2, k3, k4, k5, fun i q hq => (k6 i q hq).rb, k7, k8⟩, g6, g7, g8, g9⟩
/-- the script -/
theorem hr_sld {X : hw_X} {B : hw_B} {fr : Nat → Prop} {nb : Nat → Nat} {S : hw_St} {z c sl : Nat} {Q : State → Prop} {nL pc : Nat} {L : List (Nat × Value)} {st : List Value} {cc : ByteArray} {own : String} (G : hw_G X B fr cc nL own) {b L0 n : Nat} {s0 : Nat → Int32} (hX : va_X b L0 s0 (xs X) (xs X).heap) (hb : b < (xs X).heap.size) (hB : B.1 = (xs X).heap.size) {x : Int32} (hx : x = nI n) (hn : n < L0) (hL : L0 < 2 ^ 31) (d : decode cc pc = .ok (.iaload, 1)) (K : hw_V X B fr nb S z c sl Q nL (pc + 1) L (.int (s0 n) :: st)) : hw_V X B fr nb S z c sl Q nL pc L (.int x :: .ref b :: st) := by
  intro ls H locs hl hP hz hf
  subst hx
  refine va_sld (A := fun q => B.1 ≤ q) G.1 G.2.1 hX hb (by rw [hB]; exact Nat.not_le.mpr hb) ⟨by rw [← hB]; exact hP.1.1, fun q h1 h2 => ?_, fun l hl => G.2.2.2.2.2.2.2.1 _ (hf.1 l hl)⟩ (nI_in hn hL) d ?_
  · rw [hP.1.2 q (Nat.not_le.mp h2), G.2.2.2.2.2.2.2.2 q (Nat.not_le.mp h2)]
  · rw [nI_clamp (by omega)]; exact K ls H locs hl hP hz hf
theorem hr_slen {X : hw_X} {B : hw_B} {fr : Nat → Prop} {nb : Nat → Nat} {S : hw_St} {z c sl : Nat} {Q : State → Prop} {nL pc : Nat} {L : List (Nat × Value)} {st : List Value} {cc : ByteArray} {own : String} (G : hw_G X B fr cc nL own) {b L0 : Nat} {s0 : Nat → Int32} (hX : va_X b L0 s0 (xs X) (xs X).heap) (hb : b < (xs X).heap.size) (hB : B.1 = (xs X).heap.size) (d : decode cc pc = .ok (.arraylength, 1)) (K : hw_V X B fr nb S z c sl Q nL (pc + 1) L (.int (nI L0) :: st)) : hw_V X B fr nb S z c sl Q nL pc L (.ref b :: st) := by
  intro ls H locs hl hP hz hf
  refine va_slen (A := fun q => B.1 ≤ q) G.1 G.2.1 hX hb (by rw [hB]; exact Nat.not_le.mpr hb) ⟨by rw [← hB]; exact hP.1.1, fun q h1 h2 => ?_, fun l hl => G.2.2.2.2.2.2.2.1 _ (hf.1 l hl)⟩ d (K ls H locs hl hP hz hf)
  rw [hP.1.2 q (Nat.not_le.mp h2), G.2.2.2.2.2.2.2.2 q (Nat.not_le.mp h2)]
theorem lq_0 {k b : Int32} {S3 : hw_St} (h : ag0 k b S3) (e : k = 0) : lg_cmp (S3 50 0 0).toInt64 b.toInt64 = 0 := by
  rw [h.2 e]; exact (lg_cmp_eq _ _).mpr rfl
theorem lq_b0 {k b : Int32} {S3 : hw_St} (h : agb k b S3) (e : k = 0) (hb : b = 0) : lg_cmp (S3 50 0 0).toInt64 (0 : Int64) = 0 := by
  rw [h.2 e, if_pos hb]; exact (lg_cmp_eq _ _).mpr rfl
theorem lq_b1 {k b : Int32} {S3 : hw_St} (h : agb k b S3) (e : k = 0) (hb : ¬ b = 0) : lg_cmp (S3 50 0 0).toInt64 (1 : Int64) = 0 := by
  rw [h.2 e, if_neg hb]; exact (lg_cmp_eq _ _).mpr rfl
/-- the law's locals at the head of its loop -/
abbrev lw_L (B : hw_B) (b t : Nat) : List (Nat × Value) := [(0, .ref b), (1, .ref (hw_a B 0 0)), (2, .ref (hw_a B 20 0)), (3, .ref (hw_a B 50 0)), (4, .int (nI (5 * t)))]
/-- what the law's walk rests on: the script, the launch, the room -/
def lw_E (X : hw_X) (b L0 : Nat) (s0 : Nat → Int32) : Prop := X.2.1.stackTraces = false ∧ va_X b L0 s0 (xs X) (xs X).heap ∧ b < (xs X).heap.size ∧ L0 < 2 ^ 31 ∧ 12 ≤ (xR X).frames ∧ 300 ≤ (xR X).locals
set_option maxRecDepth 100000 in
set_option maxHeartbeats 1000000 in
theorem bo_letter {X : hw_X} {B : hw_B} {fr : Nat → Prop} {nb : Nat → Nat} {S : hw_St} {z c sl : Nat} {Q : State → Prop} (G : hw_G X B fr cL_law 7 "TicketHouseLaw") {b L0 t : Nat} {s0 : Nat → Int32} (hE : lw_E X b L0 s0) (hB : B.1 = (xs X).heap.size) (ht : 5 * t + 5 ≤ L0) (hc : c + 2 ≤ (xR X).cells) (hs : sl + 15 ≤ (xR X).slots) (J : jw t nb S) (K : ∀ nb' S' z', jw (t + 1) nb' S' → hw_V X B fr nb' S' z' (c + 2) (sl + 15) Q 7 793 (lw_L B b t) []) : hw_V X B fr nb S z c sl Q 7 120 (lw_L B b t) [] := by
  refine hr_aload_n G dL_law_120 rfl rfl ?_
  refine hr_aload_n G dL_law_121 rfl rfl ?_
  refine hr_iload G dL_law_122 rfl ?_
  refine hr_iconst (v := 1) G dL_law_124 (by decide) ?_
  refine hr_iadd G dL_law_125 ?_
  refine hr_sld (n := (5 * t + 1)) G hE.2.1 hE.2.2.1 hB (nI_add (5 * t) 1) (by omega) hE.2.2.2.1 dL_law_126 ?_
  refine hr_aload_n G dL_law_127 rfl rfl ?_
  obtain ⟨k, nb1, S1, hM, hR⟩ := st_letter X.2.1 hE.1 B nb S z J (s0 (5 * t + 1))
  refine hr_callW G kL_60.1.1 kL_60.1.2 kL_60.2.1 kL_60.2.2 sL_letter hM rfl rfl (Nat.le_of_ble_eq_true rfl) ⟨Nat.le_trans (Nat.le_of_ble_eq_true rfl) hE.2.2.2.2.1, Nat.le_trans (Nat.le_of_ble_eq_true rfl) hE.2.2.2.2.2⟩ ⟨Nat.le_trans (show c + 1 ≤ c + 2 by omega) hc, Nat.le_trans (show sl + 6 ≤ sl + 15 by omega) hs⟩ dL_law_128 (fun r nb2 S2 z2 hp => ?_)
  refine hr_wide (c' := c + 2) (sl' := sl + 15) (show c + 1 ≤ c + 2 by omega) (show sl + 6 ≤ sl + 15 by omega) ?_
  obtain ⟨h1, h2, hq⟩ := hp
  subst h2
  obtain rfl := Sum.inl.inj h1
  obtain ⟨hA1, hR2⟩ := hR _ hq
  obtain ⟨P, hP, hPo⟩ := hR2 z2
  refine hr_istore (i := 5) G dL_law_131 (by decide) ?_
  refine hr_aload_n G dL_law_133 rfl rfl ?_
  refine hr_aload_n G dL_law_134 rfl rfl ?_
  refine hr_iload G dL_law_135 rfl ?_
  refine hr_iconst (v := 1) G dL_law_137 (by decide) ?_
  refine hr_iadd G dL_law_138 ?_
  refine hr_sld (n := (5 * t + 1)) G hE.2.1 hE.2.2.1 hB (nI_add (5 * t) 1) (by omega) hE.2.2.2.1 dL_law_139 ?_
  refine hr_callV (k := 20) (i := 0) G rfl rfl (hA1.lt (show 0 < hw_n0 20 by decide)) kL_65 iM_letter vM_letter hP rfl rfl (Nat.le_of_ble_eq_true rfl) ⟨Nat.le_trans (Nat.le_of_ble_eq_true rfl) hE.2.2.2.2.1, Nat.le_trans (Nat.le_of_ble_eq_true rfl) hE.2.2.2.2.2⟩ ⟨hc, hs⟩ dL_law_140 (fun r nb3 S3 z3 hp => ?_)
  refine hr_wide (c' := c + 2) (sl' := sl + 15) (show c + 2 + 0 ≤ c + 2 from Nat.le_refl _) (show sl + 15 + 0 ≤ sl + 15 from Nat.le_refl _) ?_
  obtain ⟨e1, J3, ans, e2, hag⟩ := hPo _ _ _ _ hp
  subst e1
  obtain rfl := Sum.inl.inj e2
  refine hr_istore (i := 6) G dL_law_143 (by decide) ?_
  refine hr_goto (tgt := 793) G dL_law_145 (by decide) ?_
  refine hr_L (L' := lw_L B b t) (hw_s1 rfl (hw_s1 rfl (hw_s1 rfl (hw_s1 rfl (hw_s1 rfl hw_s0))))) ?_
  exact K _ _ _ J3
set_option maxRecDepth 100000 in
set_option maxHeartbeats 1000000 in
theorem bo_text {X : hw_X} {B : hw_B} {fr : Nat → Prop} {nb : Nat → Nat} {S : hw_St} {z c sl : Nat} {Q : State → Prop} (G : hw_G X B fr cL_law 7 "TicketHouseLaw") {b L0 t : Nat} {s0 : Nat → Int32} (hE : lw_E X b L0 s0) (hB : B.1 = (xs X).heap.size) (ht : 5 * t + 5 ≤ L0) (hc : c + 2 ≤ (xR X).cells) (hs : sl + 15 ≤ (xR X).slots) (J : jw t nb S) (K : ∀ nb' S' z', jw (t + 1) nb' S' → hw_V X B fr nb' S' z' (c + 2) (sl + 15) Q 7 793 (lw_L B b t) []) : hw_V X B fr nb S z c sl Q 7 148 (lw_L B b t) [] := by
  refine hr_aload_n G dL_law_148 rfl rfl ?_
  refine hr_aload_n G dL_law_149 rfl rfl ?_
  refine hr_iload G dL_law_150 rfl ?_
  refine hr_iconst (v := 1) G dL_law_152 (by decide) ?_
  refine hr_iadd G dL_law_153 ?_
  refine hr_sld (n := (5 * t + 1)) G hE.2.1 hE.2.2.1 hB (nI_add (5 * t) 1) (by omega) hE.2.2.2.1 dL_law_154 ?_
  refine hr_aload_n G dL_law_155 rfl rfl ?_
  refine hr_iload G dL_law_156 rfl ?_
  refine hr_iconst (v := 2) G dL_law_158 (by decide) ?_
  refine hr_iadd G dL_law_159 ?_
  refine hr_sld (n := (5 * t + 2)) G hE.2.1 hE.2.2.1 hB (nI_add (5 * t) 2) (by omega) hE.2.2.2.1 dL_law_160 ?_
  refine hr_aload_n G dL_law_161 rfl rfl ?_
  obtain ⟨k, nb1, S1, hM, hR⟩ := st_text X.2.1 hE.1 B nb S z J (s0 (5 * t + 1)) (s0 (5 * t + 2))
  refine hr_callW G kL_66.1.1 kL_66.1.2 kL_66.2.1 kL_66.2.2 sL_text hM rfl rfl (Nat.le_of_ble_eq_true rfl) ⟨Nat.le_trans (Nat.le_of_ble_eq_true rfl) hE.2.2.2.2.1, Nat.le_trans (Nat.le_of_ble_eq_true rfl) hE.2.2.2.2.2⟩ ⟨Nat.le_trans (show c + 1 ≤ c + 2 by omega) hc, Nat.le_trans (show sl + 6 ≤ sl + 15 by omega) hs⟩ dL_law_162 (fun r nb2 S2 z2 hp => ?_)
  refine hr_wide (c' := c + 2) (sl' := sl + 15) (show c + 1 ≤ c + 2 by omega) (show sl + 6 ≤ sl + 15 by omega) ?_
  obtain ⟨h1, h2, hq⟩ := hp
  subst h2
  obtain rfl := Sum.inl.inj h1
  obtain ⟨hA1, hR2⟩ := hR _ hq
  obtain ⟨P, hP, hPo⟩ := hR2 z2
  refine hr_istore (i := 5) G dL_law_165 (by decide) ?_
  refine hr_aload_n G dL_law_167 rfl rfl ?_
  refine hr_aload_n G dL_law_168 rfl rfl ?_
  refine hr_iload G dL_law_169 rfl ?_
  refine hr_iconst (v := 1) G dL_law_171 (by decide) ?_
  refine hr_iadd G dL_law_172 ?_
  refine hr_sld (n := (5 * t + 1)) G hE.2.1 hE.2.2.1 hB (nI_add (5 * t) 1) (by omega) hE.2.2.2.1 dL_law_173 ?_
  refine hr_aload_n G dL_law_174 rfl rfl ?_
  refine hr_iload G dL_law_175 rfl ?_
  refine hr_iconst (v := 2) G dL_law_177 (by decide) ?_
  refine hr_iadd G dL_law_178 ?_
  refine hr_sld (n := (5 * t + 2)) G hE.2.1 hE.2.2.1 hB (nI_add (5 * t) 2) (by omega) hE.2.2.2.1 dL_law_179 ?_
  refine hr_callV (k := 20) (i := 0) G rfl rfl (hA1.lt (show 0 < hw_n0 20 by decide)) kL_69 iM_text vM_text hP rfl rfl (Nat.le_of_ble_eq_true rfl) ⟨Nat.le_trans (Nat.le_of_ble_eq_true rfl) hE.2.2.2.2.1, Nat.le_trans (Nat.le_of_ble_eq_true rfl) hE.2.2.2.2.2⟩ ⟨hc, hs⟩ dL_law_180 (fun r nb3 S3 z3 hp => ?_)
  refine hr_wide (c' := c + 2) (sl' := sl + 15) (show c + 2 + 0 ≤ c + 2 from Nat.le_refl _) (show sl + 15 + 0 ≤ sl + 15 from Nat.le_refl _) ?_
  obtain ⟨e1, J3, ans, e2, hag⟩ := hPo _ _ _ _ hp
  subst e1
  obtain rfl := Sum.inl.inj e2
  refine hr_istore (i := 6) G dL_law_183 (by decide) ?_
  refine hr_goto (tgt := 793) G dL_law_185 (by decide) ?_
  refine hr_L (L' := lw_L B b t) (hw_s1 rfl (hw_s1 rfl (hw_s1 rfl (hw_s1 rfl (hw_s1 rfl hw_s0))))) ?_
  exact K _ _ _ J3
set_option maxRecDepth 100000 in
set_option maxHeartbeats 1000000 in
theorem bo_password {X : hw_X} {B : hw_B} {fr : Nat → Prop} {nb : Nat → Nat} {S : hw_St} {z c sl : Nat} {Q : State → Prop} (G : hw_G X B fr cL_law 7 "TicketHouseLaw") {b L0 t : Nat} {s0 : Nat → Int32} (hE : lw_E X b L0 s0) (hB : B.1 = (xs X).heap.size) (ht : 5 * t + 5 ≤ L0) (hc : c + 2 ≤ (xR X).cells) (hs : sl + 15 ≤ (xR X).slots) (J : jw t nb S) (K : ∀ nb' S' z', jw (t + 1) nb' S' → hw_V X B fr nb' S' z' (c + 2) (sl + 15) Q 7 793 (lw_L B b t) []) : hw_V X B fr nb S z c sl Q 7 188 (lw_L B b t) [] := by
  refine hr_aload_n G dL_law_188 rfl rfl ?_
  refine hr_aload_n G dL_law_189 rfl rfl ?_
  refine hr_iload G dL_law_190 rfl ?_
  refine hr_iconst (v := 1) G dL_law_192 (by decide) ?_
  refine hr_iadd G dL_law_193 ?_
  refine hr_sld (n := (5 * t + 1)) G hE.2.1 hE.2.2.1 hB (nI_add (5 * t) 1) (by omega) hE.2.2.2.1 dL_law_194 ?_
  refine hr_aload_n G dL_law_195 rfl rfl ?_
  refine hr_iload G dL_law_196 rfl ?_
  refine hr_iconst (v := 2) G dL_law_198 (by decide) ?_
  refine hr_iadd G dL_law_199 ?_
  refine hr_sld (n := (5 * t + 2)) G hE.2.1 hE.2.2.1 hB (nI_add (5 * t) 2) (by omega) hE.2.2.2.1 dL_law_200 ?_
  refine hr_aload_n G dL_law_201 rfl rfl ?_
  obtain ⟨k, nb1, S1, hM, hR⟩ := st_password X.2.1 hE.1 B nb S z J (s0 (5 * t + 1)) (s0 (5 * t + 2))
  refine hr_callW G kL_70.1.1 kL_70.1.2 kL_70.2.1 kL_70.2.2 sL_password hM rfl rfl (Nat.le_of_ble_eq_true rfl) ⟨Nat.le_trans (Nat.le_of_ble_eq_true rfl) hE.2.2.2.2.1, Nat.le_trans (Nat.le_of_ble_eq_true rfl) hE.2.2.2.2.2⟩ ⟨Nat.le_trans (show c + 1 ≤ c + 2 by omega) hc, Nat.le_trans (show sl + 6 ≤ sl + 15 by omega) hs⟩ dL_law_202 (fun r nb2 S2 z2 hp => ?_)
  refine hr_wide (c' := c + 2) (sl' := sl + 15) (show c + 1 ≤ c + 2 by omega) (show sl + 6 ≤ sl + 15 by omega) ?_
  obtain ⟨h1, h2, hq⟩ := hp
  subst h2
  obtain rfl := Sum.inl.inj h1
  obtain ⟨hA1, hR2⟩ := hR _ hq
  obtain ⟨P, hP, hPo⟩ := hR2 z2
  refine hr_istore (i := 5) G dL_law_205 (by decide) ?_
  refine hr_aload_n G dL_law_207 rfl rfl ?_
  refine hr_aload_n G dL_law_208 rfl rfl ?_
  refine hr_iload G dL_law_209 rfl ?_
  refine hr_iconst (v := 1) G dL_law_211 (by decide) ?_
  refine hr_iadd G dL_law_212 ?_
  refine hr_sld (n := (5 * t + 1)) G hE.2.1 hE.2.2.1 hB (nI_add (5 * t) 1) (by omega) hE.2.2.2.1 dL_law_213 ?_
  refine hr_aload_n G dL_law_214 rfl rfl ?_
  refine hr_iload G dL_law_215 rfl ?_
  refine hr_iconst (v := 2) G dL_law_217 (by decide) ?_
  refine hr_iadd G dL_law_218 ?_
  refine hr_sld (n := (5 * t + 2)) G hE.2.1 hE.2.2.1 hB (nI_add (5 * t) 2) (by omega) hE.2.2.2.1 dL_law_219 ?_
  refine hr_callV (k := 20) (i := 0) G rfl rfl (hA1.lt (show 0 < hw_n0 20 by decide)) kL_72 iM_password vM_password hP rfl rfl (Nat.le_of_ble_eq_true rfl) ⟨Nat.le_trans (Nat.le_of_ble_eq_true rfl) hE.2.2.2.2.1, Nat.le_trans (Nat.le_of_ble_eq_true rfl) hE.2.2.2.2.2⟩ ⟨hc, hs⟩ dL_law_220 (fun r nb3 S3 z3 hp => ?_)
  refine hr_wide (c' := c + 2) (sl' := sl + 15) (show c + 2 + 0 ≤ c + 2 from Nat.le_refl _) (show sl + 15 + 0 ≤ sl + 15 from Nat.le_refl _) ?_
  obtain ⟨e1, J3, ans, e2, hag⟩ := hPo _ _ _ _ hp
  subst e1
  obtain rfl := Sum.inl.inj e2
  refine hr_istore (i := 6) G dL_law_223 (by decide) ?_
  refine hr_goto (tgt := 793) G dL_law_225 (by decide) ?_
  refine hr_L (L' := lw_L B b t) (hw_s1 rfl (hw_s1 rfl (hw_s1 rfl (hw_s1 rfl (hw_s1 rfl hw_s0))))) ?_
  exact K _ _ _ J3
set_option maxRecDepth 100000 in
set_option maxHeartbeats 1000000 in
theorem bo_service {X : hw_X} {B : hw_B} {fr : Nat → Prop} {nb : Nat → Nat} {S : hw_St} {z c sl : Nat} {Q : State → Prop} (G : hw_G X B fr cL_law 7 "TicketHouseLaw") {b L0 t : Nat} {s0 : Nat → Int32} (hE : lw_E X b L0 s0) (hB : B.1 = (xs X).heap.size) (ht : 5 * t + 5 ≤ L0) (hc : c + 2 ≤ (xR X).cells) (hs : sl + 15 ≤ (xR X).slots) (J : jw t nb S) (K : ∀ nb' S' z', jw (t + 1) nb' S' → hw_V X B fr nb' S' z' (c + 2) (sl + 15) Q 7 793 (lw_L B b t) []) : hw_V X B fr nb S z c sl Q 7 228 (lw_L B b t) [] := by
  refine hr_aload_n G dL_law_228 rfl rfl ?_
  refine hr_aload_n G dL_law_229 rfl rfl ?_
  refine hr_iload G dL_law_230 rfl ?_
  refine hr_iconst (v := 1) G dL_law_232 (by decide) ?_
  refine hr_iadd G dL_law_233 ?_
  refine hr_sld (n := (5 * t + 1)) G hE.2.1 hE.2.2.1 hB (nI_add (5 * t) 1) (by omega) hE.2.2.2.1 dL_law_234 ?_
  refine hr_aload_n G dL_law_235 rfl rfl ?_
  refine hr_iload G dL_law_236 rfl ?_
  refine hr_iconst (v := 2) G dL_law_238 (by decide) ?_
  refine hr_iadd G dL_law_239 ?_
  refine hr_sld (n := (5 * t + 2)) G hE.2.1 hE.2.2.1 hB (nI_add (5 * t) 2) (by omega) hE.2.2.2.1 dL_law_240 ?_
  refine hr_aload_n G dL_law_241 rfl rfl ?_
  obtain ⟨k, nb1, S1, hM, hR⟩ := st_service X.2.1 hE.1 B nb S z J (s0 (5 * t + 1)) (s0 (5 * t + 2))
  refine hr_callW G kL_73.1.1 kL_73.1.2 kL_73.2.1 kL_73.2.2 sL_service hM rfl rfl (Nat.le_of_ble_eq_true rfl) ⟨Nat.le_trans (Nat.le_of_ble_eq_true rfl) hE.2.2.2.2.1, Nat.le_trans (Nat.le_of_ble_eq_true rfl) hE.2.2.2.2.2⟩ ⟨Nat.le_trans (show c + 1 ≤ c + 2 by omega) hc, Nat.le_trans (show sl + 6 ≤ sl + 15 by omega) hs⟩ dL_law_242 (fun r nb2 S2 z2 hp => ?_)
  refine hr_wide (c' := c + 2) (sl' := sl + 15) (show c + 1 ≤ c + 2 by omega) (show sl + 6 ≤ sl + 15 by omega) ?_
  obtain ⟨h1, h2, hq⟩ := hp
  subst h2
  obtain rfl := Sum.inl.inj h1
  obtain ⟨hA1, hR2⟩ := hR _ hq
  obtain ⟨P, hP, hPo⟩ := hR2 z2
  refine hr_istore (i := 5) G dL_law_245 (by decide) ?_
  refine hr_aload_n G dL_law_247 rfl rfl ?_
  refine hr_aload_n G dL_law_248 rfl rfl ?_
  refine hr_iload G dL_law_249 rfl ?_
  refine hr_iconst (v := 1) G dL_law_251 (by decide) ?_
  refine hr_iadd G dL_law_252 ?_
  refine hr_sld (n := (5 * t + 1)) G hE.2.1 hE.2.2.1 hB (nI_add (5 * t) 1) (by omega) hE.2.2.2.1 dL_law_253 ?_
  refine hr_aload_n G dL_law_254 rfl rfl ?_
  refine hr_iload G dL_law_255 rfl ?_
  refine hr_iconst (v := 2) G dL_law_257 (by decide) ?_
  refine hr_iadd G dL_law_258 ?_
  refine hr_sld (n := (5 * t + 2)) G hE.2.1 hE.2.2.1 hB (nI_add (5 * t) 2) (by omega) hE.2.2.2.1 dL_law_259 ?_
  refine hr_callV (k := 20) (i := 0) G rfl rfl (hA1.lt (show 0 < hw_n0 20 by decide)) kL_75 iM_service vM_service hP rfl rfl (Nat.le_of_ble_eq_true rfl) ⟨Nat.le_trans (Nat.le_of_ble_eq_true rfl) hE.2.2.2.2.1, Nat.le_trans (Nat.le_of_ble_eq_true rfl) hE.2.2.2.2.2⟩ ⟨hc, hs⟩ dL_law_260 (fun r nb3 S3 z3 hp => ?_)
  refine hr_wide (c' := c + 2) (sl' := sl + 15) (show c + 2 + 0 ≤ c + 2 from Nat.le_refl _) (show sl + 15 + 0 ≤ sl + 15 from Nat.le_refl _) ?_
  obtain ⟨e1, J3, ans, e2, hag⟩ := hPo _ _ _ _ hp
  subst e1
  obtain rfl := Sum.inl.inj e2
  refine hr_istore (i := 6) G dL_law_263 (by decide) ?_
  refine hr_goto (tgt := 793) G dL_law_265 (by decide) ?_
  refine hr_L (L' := lw_L B b t) (hw_s1 rfl (hw_s1 rfl (hw_s1 rfl (hw_s1 rfl (hw_s1 rfl hw_s0))))) ?_
  exact K _ _ _ J3
set_option maxRecDepth 100000 in
set_option maxHeartbeats 1000000 in
theorem bo_callback {X : hw_X} {B : hw_B} {fr : Nat → Prop} {nb : Nat → Nat} {S : hw_St} {z c sl : Nat} {Q : State → Prop} (G : hw_G X B fr cL_law 7 "TicketHouseLaw") {b L0 t : Nat} {s0 : Nat → Int32} (hE : lw_E X b L0 s0) (hB : B.1 = (xs X).heap.size) (ht : 5 * t + 5 ≤ L0) (hc : c + 2 ≤ (xR X).cells) (hs : sl + 15 ≤ (xR X).slots) (J : jw t nb S) (K : ∀ nb' S' z', jw (t + 1) nb' S' → hw_V X B fr nb' S' z' (c + 2) (sl + 15) Q 7 793 (lw_L B b t) []) : hw_V X B fr nb S z c sl Q 7 268 (lw_L B b t) [] := by
  refine hr_aload_n G dL_law_268 rfl rfl ?_
  refine hr_aload_n G dL_law_269 rfl rfl ?_
  refine hr_iload G dL_law_270 rfl ?_
  refine hr_iconst (v := 1) G dL_law_272 (by decide) ?_
  refine hr_iadd G dL_law_273 ?_
  refine hr_sld (n := (5 * t + 1)) G hE.2.1 hE.2.2.1 hB (nI_add (5 * t) 1) (by omega) hE.2.2.2.1 dL_law_274 ?_
  refine hr_aload_n G dL_law_275 rfl rfl ?_
  refine hr_iload G dL_law_276 rfl ?_
  refine hr_iconst (v := 2) G dL_law_278 (by decide) ?_
  refine hr_iadd G dL_law_279 ?_
  refine hr_sld (n := (5 * t + 2)) G hE.2.1 hE.2.2.1 hB (nI_add (5 * t) 2) (by omega) hE.2.2.2.1 dL_law_280 ?_
  refine hr_if_eq (tgt := 288) G dL_law_281 (by decide) (fun h281 => ?_) (fun h281 => ?_)
  · skip
    refine hr_iconst (v := 0) G dL_law_288 (by decide) ?_
    refine hr_aload_n G dL_law_289 rfl rfl ?_
    obtain ⟨k, nb1, S1, hM, hR⟩ := st_callback X.2.1 hE.1 B nb S z J (s0 (5 * t + 1)) 0 (Or.inl rfl)
    refine hr_callW G kL_76.1.1 kL_76.1.2 kL_76.2.1 kL_76.2.2 sL_callback hM rfl rfl (Nat.le_of_ble_eq_true rfl) ⟨Nat.le_trans (Nat.le_of_ble_eq_true rfl) hE.2.2.2.2.1, Nat.le_trans (Nat.le_of_ble_eq_true rfl) hE.2.2.2.2.2⟩ ⟨Nat.le_trans (show c + 1 ≤ c + 2 by omega) hc, Nat.le_trans (show sl + 6 ≤ sl + 15 by omega) hs⟩ dL_law_290 (fun r nb2 S2 z2 hp => ?_)
    refine hr_wide (c' := c + 2) (sl' := sl + 15) (show c + 1 ≤ c + 2 by omega) (show sl + 6 ≤ sl + 15 by omega) ?_
    obtain ⟨h1, h2, hq⟩ := hp
    subst h2
    obtain rfl := Sum.inl.inj h1
    obtain ⟨hA1, hR2⟩ := hR _ hq
    obtain ⟨P, hP, hPo⟩ := hR2 z2
    refine hr_istore (i := 5) G dL_law_293 (by decide) ?_
    refine hr_aload_n G dL_law_295 rfl rfl ?_
    refine hr_aload_n G dL_law_296 rfl rfl ?_
    refine hr_iload G dL_law_297 rfl ?_
    refine hr_iconst (v := 1) G dL_law_299 (by decide) ?_
    refine hr_iadd G dL_law_300 ?_
    refine hr_sld (n := (5 * t + 1)) G hE.2.1 hE.2.2.1 hB (nI_add (5 * t) 1) (by omega) hE.2.2.2.1 dL_law_301 ?_
    refine hr_aload_n G dL_law_302 rfl rfl ?_
    refine hr_iload G dL_law_303 rfl ?_
    refine hr_iconst (v := 2) G dL_law_305 (by decide) ?_
    refine hr_iadd G dL_law_306 ?_
    refine hr_sld (n := (5 * t + 2)) G hE.2.1 hE.2.2.1 hB (nI_add (5 * t) 2) (by omega) hE.2.2.2.1 dL_law_307 ?_
    refine hr_if_eq (tgt := 315) G dL_law_308 (by decide) (fun _ => ?_) (fun h => absurd h281 h)
    refine hr_iconst (v := 0) G dL_law_315 (by decide) ?_
    refine hr_callV (k := 20) (i := 0) G rfl rfl (hA1.lt (show 0 < hw_n0 20 by decide)) kL_79 iM_callback vM_callback hP rfl rfl (Nat.le_of_ble_eq_true rfl) ⟨Nat.le_trans (Nat.le_of_ble_eq_true rfl) hE.2.2.2.2.1, Nat.le_trans (Nat.le_of_ble_eq_true rfl) hE.2.2.2.2.2⟩ ⟨hc, hs⟩ dL_law_316 (fun r nb3 S3 z3 hp => ?_)
    refine hr_wide (c' := c + 2) (sl' := sl + 15) (show c + 2 + 0 ≤ c + 2 from Nat.le_refl _) (show sl + 15 + 0 ≤ sl + 15 from Nat.le_refl _) ?_
    obtain ⟨e1, J3, ans, e2, hag⟩ := hPo _ _ _ _ hp
    subst e1
    obtain rfl := Sum.inl.inj e2
    refine hr_istore (i := 6) G dL_law_319 (by decide) ?_
    refine hr_goto (tgt := 793) G dL_law_321 (by decide) ?_
    refine hr_L (L' := lw_L B b t) (hw_s1 rfl (hw_s1 rfl (hw_s1 rfl (hw_s1 rfl (hw_s1 rfl hw_s0))))) ?_
    exact K _ _ _ J3
  · skip
    refine hr_iconst (v := 1) G dL_law_284 (by decide) ?_
    refine hr_goto (tgt := 289) G dL_law_285 (by decide) ?_
    refine hr_aload_n G dL_law_289 rfl rfl ?_
    obtain ⟨k, nb1, S1, hM, hR⟩ := st_callback X.2.1 hE.1 B nb S z J (s0 (5 * t + 1)) 1 (Or.inr rfl)
    refine hr_callW G kL_76.1.1 kL_76.1.2 kL_76.2.1 kL_76.2.2 sL_callback hM rfl rfl (Nat.le_of_ble_eq_true rfl) ⟨Nat.le_trans (Nat.le_of_ble_eq_true rfl) hE.2.2.2.2.1, Nat.le_trans (Nat.le_of_ble_eq_true rfl) hE.2.2.2.2.2⟩ ⟨Nat.le_trans (show c + 1 ≤ c + 2 by omega) hc, Nat.le_trans (show sl + 6 ≤ sl + 15 by omega) hs⟩ dL_law_290 (fun r nb2 S2 z2 hp => ?_)
    refine hr_wide (c' := c + 2) (sl' := sl + 15) (show c + 1 ≤ c + 2 by omega) (show sl + 6 ≤ sl + 15 by omega) ?_
    obtain ⟨h1, h2, hq⟩ := hp
    subst h2
    obtain rfl := Sum.inl.inj h1
    obtain ⟨hA1, hR2⟩ := hR _ hq
    obtain ⟨P, hP, hPo⟩ := hR2 z2
    refine hr_istore (i := 5) G dL_law_293 (by decide) ?_
    refine hr_aload_n G dL_law_295 rfl rfl ?_
    refine hr_aload_n G dL_law_296 rfl rfl ?_
    refine hr_iload G dL_law_297 rfl ?_
    refine hr_iconst (v := 1) G dL_law_299 (by decide) ?_
    refine hr_iadd G dL_law_300 ?_
    refine hr_sld (n := (5 * t + 1)) G hE.2.1 hE.2.2.1 hB (nI_add (5 * t) 1) (by omega) hE.2.2.2.1 dL_law_301 ?_
    refine hr_aload_n G dL_law_302 rfl rfl ?_
    refine hr_iload G dL_law_303 rfl ?_
    refine hr_iconst (v := 2) G dL_law_305 (by decide) ?_
    refine hr_iadd G dL_law_306 ?_
    refine hr_sld (n := (5 * t + 2)) G hE.2.1 hE.2.2.1 hB (nI_add (5 * t) 2) (by omega) hE.2.2.2.1 dL_law_307 ?_
    refine hr_if_eq (tgt := 315) G dL_law_308 (by decide) (fun h => absurd h h281) (fun _ => ?_)
    refine hr_iconst (v := 1) G dL_law_311 (by decide) ?_
    refine hr_goto (tgt := 316) G dL_law_312 (by decide) ?_
    refine hr_callV (k := 20) (i := 0) G rfl rfl (hA1.lt (show 0 < hw_n0 20 by decide)) kL_79 iM_callback vM_callback hP rfl rfl (Nat.le_of_ble_eq_true rfl) ⟨Nat.le_trans (Nat.le_of_ble_eq_true rfl) hE.2.2.2.2.1, Nat.le_trans (Nat.le_of_ble_eq_true rfl) hE.2.2.2.2.2⟩ ⟨hc, hs⟩ dL_law_316 (fun r nb3 S3 z3 hp => ?_)
    refine hr_wide (c' := c + 2) (sl' := sl + 15) (show c + 2 + 0 ≤ c + 2 from Nat.le_refl _) (show sl + 15 + 0 ≤ sl + 15 from Nat.le_refl _) ?_
    obtain ⟨e1, J3, ans, e2, hag⟩ := hPo _ _ _ _ hp
    subst e1
    obtain rfl := Sum.inl.inj e2
    refine hr_istore (i := 6) G dL_law_319 (by decide) ?_
    refine hr_goto (tgt := 793) G dL_law_321 (by decide) ?_
    refine hr_L (L' := lw_L B b t) (hw_s1 rfl (hw_s1 rfl (hw_s1 rfl (hw_s1 rfl (hw_s1 rfl hw_s0))))) ?_
    exact K _ _ _ J3
set_option maxRecDepth 100000 in
set_option maxHeartbeats 1000000 in
theorem bo_login {X : hw_X} {B : hw_B} {fr : Nat → Prop} {nb : Nat → Nat} {S : hw_St} {z c sl : Nat} {Q : State → Prop} (G : hw_G X B fr cL_law 7 "TicketHouseLaw") {b L0 t : Nat} {s0 : Nat → Int32} (hE : lw_E X b L0 s0) (hB : B.1 = (xs X).heap.size) (ht : 5 * t + 5 ≤ L0) (hc : c + 2 ≤ (xR X).cells) (hs : sl + 15 ≤ (xR X).slots) (J : jw t nb S) (hz9 : hw_a B 9 (nb 9) = z) (K : ∀ nb' S' z', jw (t + 1) nb' S' → hw_V X B fr nb' S' z' (c + 2) (sl + 15) Q 7 793 (lw_L B b t) []) : hw_V X B fr nb S z c sl Q 7 324 (lw_L B b t) [] := by
  refine hr_aload_n G dL_law_324 rfl rfl ?_
  refine hr_aload_n G dL_law_325 rfl rfl ?_
  refine hr_iload G dL_law_326 rfl ?_
  refine hr_iconst (v := 1) G dL_law_328 (by decide) ?_
  refine hr_iadd G dL_law_329 ?_
  refine hr_sld (n := (5 * t + 1)) G hE.2.1 hE.2.2.1 hB (nI_add (5 * t) 1) (by omega) hE.2.2.2.1 dL_law_330 ?_
  refine hr_aload_n G dL_law_331 rfl rfl ?_
  refine hr_iload G dL_law_332 rfl ?_
  refine hr_iconst (v := 2) G dL_law_334 (by decide) ?_
  refine hr_iadd G dL_law_335 ?_
  refine hr_sld (n := (5 * t + 2)) G hE.2.1 hE.2.2.1 hB (nI_add (5 * t) 2) (by omega) hE.2.2.2.1 dL_law_336 ?_
  refine hr_aload_n G dL_law_337 rfl rfl ?_
  refine hr_iload G dL_law_338 rfl ?_
  refine hr_iconst (v := 3) G dL_law_340 (by decide) ?_
  refine hr_iadd G dL_law_341 ?_
  refine hr_sld (n := (5 * t + 3)) G hE.2.1 hE.2.2.1 hB (nI_add (5 * t) 3) (by omega) hE.2.2.2.1 dL_law_342 ?_
  refine hr_if_eq (tgt := 350) G dL_law_343 (by decide) (fun h343 => ?_) (fun h343 => ?_)
  · skip
    refine hr_iconst (v := 0) G dL_law_350 (by decide) ?_
    refine hr_aload_n G dL_law_351 rfl rfl ?_
    obtain ⟨k, nb1, S1, hM, hR⟩ := st_login X.2.1 hE.1 B nb S z J (s0 (5 * t + 1)) (s0 (5 * t + 2)) 0 (Or.inl rfl) hz9
    refine hr_callW G kL_80.1.1 kL_80.1.2 kL_80.2.1 kL_80.2.2 sL_login hM rfl rfl (Nat.le_of_ble_eq_true rfl) ⟨Nat.le_trans (Nat.le_of_ble_eq_true rfl) hE.2.2.2.2.1, Nat.le_trans (Nat.le_of_ble_eq_true rfl) hE.2.2.2.2.2⟩ ⟨Nat.le_trans (show c + 1 ≤ c + 2 by omega) hc, Nat.le_trans (show sl + 6 ≤ sl + 15 by omega) hs⟩ dL_law_352 (fun r nb2 S2 z2 hp => ?_)
    refine hr_wide (c' := c + 2) (sl' := sl + 15) (show c + 1 ≤ c + 2 by omega) (show sl + 6 ≤ sl + 15 by omega) ?_
    obtain ⟨h1, h2, hq⟩ := hp
    subst h2
    obtain rfl := Sum.inl.inj h1
    obtain ⟨hA1, hR2⟩ := hR _ hq
    obtain ⟨P, hP, hPo⟩ := hR2 z2
    refine hr_istore (i := 5) G dL_law_355 (by decide) ?_
    refine hr_aload_n G dL_law_357 rfl rfl ?_
    refine hr_aload_n G dL_law_358 rfl rfl ?_
    refine hr_iload G dL_law_359 rfl ?_
    refine hr_iconst (v := 1) G dL_law_361 (by decide) ?_
    refine hr_iadd G dL_law_362 ?_
    refine hr_sld (n := (5 * t + 1)) G hE.2.1 hE.2.2.1 hB (nI_add (5 * t) 1) (by omega) hE.2.2.2.1 dL_law_363 ?_
    refine hr_aload_n G dL_law_364 rfl rfl ?_
    refine hr_iload G dL_law_365 rfl ?_
    refine hr_iconst (v := 2) G dL_law_367 (by decide) ?_
    refine hr_iadd G dL_law_368 ?_
    refine hr_sld (n := (5 * t + 2)) G hE.2.1 hE.2.2.1 hB (nI_add (5 * t) 2) (by omega) hE.2.2.2.1 dL_law_369 ?_
    refine hr_aload_n G dL_law_370 rfl rfl ?_
    refine hr_iload G dL_law_371 rfl ?_
    refine hr_iconst (v := 3) G dL_law_373 (by decide) ?_
    refine hr_iadd G dL_law_374 ?_
    refine hr_sld (n := (5 * t + 3)) G hE.2.1 hE.2.2.1 hB (nI_add (5 * t) 3) (by omega) hE.2.2.2.1 dL_law_375 ?_
    refine hr_if_eq (tgt := 383) G dL_law_376 (by decide) (fun _ => ?_) (fun h => absurd h343 h)
    refine hr_iconst (v := 0) G dL_law_383 (by decide) ?_
    refine hr_callV (k := 20) (i := 0) G rfl rfl (hA1.lt (show 0 < hw_n0 20 by decide)) kL_83 iM_login vM_login hP rfl rfl (Nat.le_of_ble_eq_true rfl) ⟨Nat.le_trans (Nat.le_of_ble_eq_true rfl) hE.2.2.2.2.1, Nat.le_trans (Nat.le_of_ble_eq_true rfl) hE.2.2.2.2.2⟩ ⟨hc, hs⟩ dL_law_384 (fun r nb3 S3 z3 hp => ?_)
    refine hr_wide (c' := c + 2) (sl' := sl + 15) (show c + 2 + 0 ≤ c + 2 from Nat.le_refl _) (show sl + 15 + 0 ≤ sl + 15 from Nat.le_refl _) ?_
    obtain ⟨e1, J3, ans, e2, hag⟩ := hPo _ _ _ _ hp
    subst e1
    obtain rfl := Sum.inl.inj e2
    refine hr_istore (i := 6) G dL_law_387 (by decide) ?_
    refine hr_goto (tgt := 793) G dL_law_389 (by decide) ?_
    refine hr_L (L' := lw_L B b t) (hw_s1 rfl (hw_s1 rfl (hw_s1 rfl (hw_s1 rfl (hw_s1 rfl hw_s0))))) ?_
    exact K _ _ _ J3
  · skip
    refine hr_iconst (v := 1) G dL_law_346 (by decide) ?_
    refine hr_goto (tgt := 351) G dL_law_347 (by decide) ?_
    refine hr_aload_n G dL_law_351 rfl rfl ?_
    obtain ⟨k, nb1, S1, hM, hR⟩ := st_login X.2.1 hE.1 B nb S z J (s0 (5 * t + 1)) (s0 (5 * t + 2)) 1 (Or.inr rfl) hz9
    refine hr_callW G kL_80.1.1 kL_80.1.2 kL_80.2.1 kL_80.2.2 sL_login hM rfl rfl (Nat.le_of_ble_eq_true rfl) ⟨Nat.le_trans (Nat.le_of_ble_eq_true rfl) hE.2.2.2.2.1, Nat.le_trans (Nat.le_of_ble_eq_true rfl) hE.2.2.2.2.2⟩ ⟨Nat.le_trans (show c + 1 ≤ c + 2 by omega) hc, Nat.le_trans (show sl + 6 ≤ sl + 15 by omega) hs⟩ dL_law_352 (fun r nb2 S2 z2 hp => ?_)
    refine hr_wide (c' := c + 2) (sl' := sl + 15) (show c + 1 ≤ c + 2 by omega) (show sl + 6 ≤ sl + 15 by omega) ?_
    obtain ⟨h1, h2, hq⟩ := hp
    subst h2
    obtain rfl := Sum.inl.inj h1
    obtain ⟨hA1, hR2⟩ := hR _ hq
    obtain ⟨P, hP, hPo⟩ := hR2 z2
    refine hr_istore (i := 5) G dL_law_355 (by decide) ?_
    refine hr_aload_n G dL_law_357 rfl rfl ?_
    refine hr_aload_n G dL_law_358 rfl rfl ?_
    refine hr_iload G dL_law_359 rfl ?_
    refine hr_iconst (v := 1) G dL_law_361 (by decide) ?_
    refine hr_iadd G dL_law_362 ?_
    refine hr_sld (n := (5 * t + 1)) G hE.2.1 hE.2.2.1 hB (nI_add (5 * t) 1) (by omega) hE.2.2.2.1 dL_law_363 ?_
    refine hr_aload_n G dL_law_364 rfl rfl ?_
    refine hr_iload G dL_law_365 rfl ?_
    refine hr_iconst (v := 2) G dL_law_367 (by decide) ?_
    refine hr_iadd G dL_law_368 ?_
    refine hr_sld (n := (5 * t + 2)) G hE.2.1 hE.2.2.1 hB (nI_add (5 * t) 2) (by omega) hE.2.2.2.1 dL_law_369 ?_
    refine hr_aload_n G dL_law_370 rfl rfl ?_
    refine hr_iload G dL_law_371 rfl ?_
    refine hr_iconst (v := 3) G dL_law_373 (by decide) ?_
    refine hr_iadd G dL_law_374 ?_
    refine hr_sld (n := (5 * t + 3)) G hE.2.1 hE.2.2.1 hB (nI_add (5 * t) 3) (by omega) hE.2.2.2.1 dL_law_375 ?_
    refine hr_if_eq (tgt := 383) G dL_law_376 (by decide) (fun h => absurd h h343) (fun _ => ?_)
    refine hr_iconst (v := 1) G dL_law_379 (by decide) ?_
    refine hr_goto (tgt := 384) G dL_law_380 (by decide) ?_
    refine hr_callV (k := 20) (i := 0) G rfl rfl (hA1.lt (show 0 < hw_n0 20 by decide)) kL_83 iM_login vM_login hP rfl rfl (Nat.le_of_ble_eq_true rfl) ⟨Nat.le_trans (Nat.le_of_ble_eq_true rfl) hE.2.2.2.2.1, Nat.le_trans (Nat.le_of_ble_eq_true rfl) hE.2.2.2.2.2⟩ ⟨hc, hs⟩ dL_law_384 (fun r nb3 S3 z3 hp => ?_)
    refine hr_wide (c' := c + 2) (sl' := sl + 15) (show c + 2 + 0 ≤ c + 2 from Nat.le_refl _) (show sl + 15 + 0 ≤ sl + 15 from Nat.le_refl _) ?_
    obtain ⟨e1, J3, ans, e2, hag⟩ := hPo _ _ _ _ hp
    subst e1
    obtain rfl := Sum.inl.inj e2
    refine hr_istore (i := 6) G dL_law_387 (by decide) ?_
    refine hr_goto (tgt := 793) G dL_law_389 (by decide) ?_
    refine hr_L (L' := lw_L B b t) (hw_s1 rfl (hw_s1 rfl (hw_s1 rfl (hw_s1 rfl (hw_s1 rfl hw_s0))))) ?_
    exact K _ _ _ J3
set_option maxRecDepth 100000 in
set_option maxHeartbeats 1000000 in
theorem bo_enter {X : hw_X} {B : hw_B} {fr : Nat → Prop} {nb : Nat → Nat} {S : hw_St} {z c sl : Nat} {Q : State → Prop} (G : hw_G X B fr cL_law 7 "TicketHouseLaw") {b L0 t : Nat} {s0 : Nat → Int32} (hE : lw_E X b L0 s0) (hB : B.1 = (xs X).heap.size) (ht : 5 * t + 5 ≤ L0) (hc : c + 2 ≤ (xR X).cells) (hs : sl + 15 ≤ (xR X).slots) (J : jw t nb S) (hz9 : hw_a B 9 (nb 9) = z) (hz11 : hw_a B 11 (nb 11) = z + 1) (K : ∀ nb' S' z', jw (t + 1) nb' S' → hw_V X B fr nb' S' z' (c + 2) (sl + 15) Q 7 793 (lw_L B b t) []) : hw_V X B fr nb S z c sl Q 7 392 (lw_L B b t) [] := by
  refine hr_aload_n G dL_law_392 rfl rfl ?_
  refine hr_aload_n G dL_law_393 rfl rfl ?_
  refine hr_iload G dL_law_394 rfl ?_
  refine hr_iconst (v := 1) G dL_law_396 (by decide) ?_
  refine hr_iadd G dL_law_397 ?_
  refine hr_sld (n := (5 * t + 1)) G hE.2.1 hE.2.2.1 hB (nI_add (5 * t) 1) (by omega) hE.2.2.2.1 dL_law_398 ?_
  refine hr_aload_n G dL_law_399 rfl rfl ?_
  refine hr_iload G dL_law_400 rfl ?_
  refine hr_iconst (v := 2) G dL_law_402 (by decide) ?_
  refine hr_iadd G dL_law_403 ?_
  refine hr_sld (n := (5 * t + 2)) G hE.2.1 hE.2.2.1 hB (nI_add (5 * t) 2) (by omega) hE.2.2.2.1 dL_law_404 ?_
  refine hr_aload_n G dL_law_405 rfl rfl ?_
  refine hr_iload G dL_law_406 rfl ?_
  refine hr_iconst (v := 3) G dL_law_408 (by decide) ?_
  refine hr_iadd G dL_law_409 ?_
  refine hr_sld (n := (5 * t + 3)) G hE.2.1 hE.2.2.1 hB (nI_add (5 * t) 3) (by omega) hE.2.2.2.1 dL_law_410 ?_
  refine hr_aload_n G dL_law_411 rfl rfl ?_
  obtain ⟨k, nb1, S1, hM, hR⟩ := st_enter X.2.1 hE.1 B nb S z J (s0 (5 * t + 1)) (s0 (5 * t + 2)) (s0 (5 * t + 3)) hz9 hz11
  refine hr_callW G kL_84.1.1 kL_84.1.2 kL_84.2.1 kL_84.2.2 sL_enter hM rfl rfl (Nat.le_of_ble_eq_true rfl) ⟨Nat.le_trans (Nat.le_of_ble_eq_true rfl) hE.2.2.2.2.1, Nat.le_trans (Nat.le_of_ble_eq_true rfl) hE.2.2.2.2.2⟩ ⟨Nat.le_trans (show c + 2 ≤ c + 2 by omega) hc, Nat.le_trans (show sl + 15 ≤ sl + 15 by omega) hs⟩ dL_law_412 (fun r nb2 S2 z2 hp => ?_)
  refine hr_wide (c' := c + 2) (sl' := sl + 15) (show c + 2 ≤ c + 2 by omega) (show sl + 15 ≤ sl + 15 by omega) ?_
  obtain ⟨h1, h2, hq⟩ := hp
  subst h2
  obtain rfl := Sum.inl.inj h1
  obtain ⟨hA1, hR2⟩ := hR _ hq
  obtain ⟨P, hP, hPo⟩ := hR2 z2
  refine hr_istore (i := 5) G dL_law_415 (by decide) ?_
  refine hr_aload_n G dL_law_417 rfl rfl ?_
  refine hr_aload_n G dL_law_418 rfl rfl ?_
  refine hr_iload G dL_law_419 rfl ?_
  refine hr_iconst (v := 1) G dL_law_421 (by decide) ?_
  refine hr_iadd G dL_law_422 ?_
  refine hr_sld (n := (5 * t + 1)) G hE.2.1 hE.2.2.1 hB (nI_add (5 * t) 1) (by omega) hE.2.2.2.1 dL_law_423 ?_
  refine hr_aload_n G dL_law_424 rfl rfl ?_
  refine hr_iload G dL_law_425 rfl ?_
  refine hr_iconst (v := 2) G dL_law_427 (by decide) ?_
  refine hr_iadd G dL_law_428 ?_
  refine hr_sld (n := (5 * t + 2)) G hE.2.1 hE.2.2.1 hB (nI_add (5 * t) 2) (by omega) hE.2.2.2.1 dL_law_429 ?_
  refine hr_aload_n G dL_law_430 rfl rfl ?_
  refine hr_iload G dL_law_431 rfl ?_
  refine hr_iconst (v := 3) G dL_law_433 (by decide) ?_
  refine hr_iadd G dL_law_434 ?_
  refine hr_sld (n := (5 * t + 3)) G hE.2.1 hE.2.2.1 hB (nI_add (5 * t) 3) (by omega) hE.2.2.2.1 dL_law_435 ?_
  refine hr_callV (k := 20) (i := 0) G rfl rfl (hA1.lt (show 0 < hw_n0 20 by decide)) kL_87 iM_enter vM_enter hP rfl rfl (Nat.le_of_ble_eq_true rfl) ⟨Nat.le_trans (Nat.le_of_ble_eq_true rfl) hE.2.2.2.2.1, Nat.le_trans (Nat.le_of_ble_eq_true rfl) hE.2.2.2.2.2⟩ ⟨hc, hs⟩ dL_law_436 (fun r nb3 S3 z3 hp => ?_)
  refine hr_wide (c' := c + 2) (sl' := sl + 15) (show c + 2 + 0 ≤ c + 2 from Nat.le_refl _) (show sl + 15 + 0 ≤ sl + 15 from Nat.le_refl _) ?_
  obtain ⟨e1, J3, ans, e2, hag⟩ := hPo _ _ _ _ hp
  subst e1
  obtain rfl := Sum.inl.inj e2
  refine hr_istore (i := 6) G dL_law_439 (by decide) ?_
  refine hr_goto (tgt := 793) G dL_law_441 (by decide) ?_
  refine hr_L (L' := lw_L B b t) (hw_s1 rfl (hw_s1 rfl (hw_s1 rfl (hw_s1 rfl (hw_s1 rfl hw_s0))))) ?_
  exact K _ _ _ J3
set_option maxRecDepth 100000 in
set_option maxHeartbeats 1000000 in
theorem bo_ticket {X : hw_X} {B : hw_B} {fr : Nat → Prop} {nb : Nat → Nat} {S : hw_St} {z c sl : Nat} {Q : State → Prop} (G : hw_G X B fr cL_law 7 "TicketHouseLaw") {b L0 t : Nat} {s0 : Nat → Int32} (hE : lw_E X b L0 s0) (hB : B.1 = (xs X).heap.size) (ht : 5 * t + 5 ≤ L0) (hc : c + 2 ≤ (xR X).cells) (hs : sl + 15 ≤ (xR X).slots) (J : jw t nb S) (hz11 : hw_a B 11 (nb 11) = z) (K : ∀ nb' S' z', jw (t + 1) nb' S' → hw_V X B fr nb' S' z' (c + 2) (sl + 15) Q 7 793 (lw_L B b t) []) : hw_V X B fr nb S z c sl Q 7 444 (lw_L B b t) [] := by
  refine hr_aload_n G dL_law_444 rfl rfl ?_
  refine hr_aload_n G dL_law_445 rfl rfl ?_
  refine hr_iload G dL_law_446 rfl ?_
  refine hr_iconst (v := 1) G dL_law_448 (by decide) ?_
  refine hr_iadd G dL_law_449 ?_
  refine hr_sld (n := (5 * t + 1)) G hE.2.1 hE.2.2.1 hB (nI_add (5 * t) 1) (by omega) hE.2.2.2.1 dL_law_450 ?_
  refine hr_aload_n G dL_law_451 rfl rfl ?_
  refine hr_iload G dL_law_452 rfl ?_
  refine hr_iconst (v := 2) G dL_law_454 (by decide) ?_
  refine hr_iadd G dL_law_455 ?_
  refine hr_sld (n := (5 * t + 2)) G hE.2.1 hE.2.2.1 hB (nI_add (5 * t) 2) (by omega) hE.2.2.2.1 dL_law_456 ?_
  refine hr_aload_n G dL_law_457 rfl rfl ?_
  obtain ⟨k, nb1, S1, hM, hR⟩ := st_ticket X.2.1 hE.1 B nb S z J (s0 (5 * t + 1)) (s0 (5 * t + 2)) hz11
  refine hr_callW G kL_88.1.1 kL_88.1.2 kL_88.2.1 kL_88.2.2 sL_ticket hM rfl rfl (Nat.le_of_ble_eq_true rfl) ⟨Nat.le_trans (Nat.le_of_ble_eq_true rfl) hE.2.2.2.2.1, Nat.le_trans (Nat.le_of_ble_eq_true rfl) hE.2.2.2.2.2⟩ ⟨Nat.le_trans (show c + 1 ≤ c + 2 by omega) hc, Nat.le_trans (show sl + 9 ≤ sl + 15 by omega) hs⟩ dL_law_458 (fun r nb2 S2 z2 hp => ?_)
  refine hr_wide (c' := c + 2) (sl' := sl + 15) (show c + 1 ≤ c + 2 by omega) (show sl + 9 ≤ sl + 15 by omega) ?_
  obtain ⟨h1, h2, hq⟩ := hp
  subst h2
  obtain rfl := Sum.inl.inj h1
  obtain ⟨hA1, hR2⟩ := hR _ hq
  obtain ⟨P, hP, hPo⟩ := hR2 z2
  refine hr_istore (i := 5) G dL_law_461 (by decide) ?_
  refine hr_aload_n G dL_law_463 rfl rfl ?_
  refine hr_aload_n G dL_law_464 rfl rfl ?_
  refine hr_iload G dL_law_465 rfl ?_
  refine hr_iconst (v := 1) G dL_law_467 (by decide) ?_
  refine hr_iadd G dL_law_468 ?_
  refine hr_sld (n := (5 * t + 1)) G hE.2.1 hE.2.2.1 hB (nI_add (5 * t) 1) (by omega) hE.2.2.2.1 dL_law_469 ?_
  refine hr_aload_n G dL_law_470 rfl rfl ?_
  refine hr_iload G dL_law_471 rfl ?_
  refine hr_iconst (v := 2) G dL_law_473 (by decide) ?_
  refine hr_iadd G dL_law_474 ?_
  refine hr_sld (n := (5 * t + 2)) G hE.2.1 hE.2.2.1 hB (nI_add (5 * t) 2) (by omega) hE.2.2.2.1 dL_law_475 ?_
  refine hr_callV (k := 20) (i := 0) G rfl rfl (hA1.lt (show 0 < hw_n0 20 by decide)) kL_90 iM_ticket vM_ticket hP rfl rfl (Nat.le_of_ble_eq_true rfl) ⟨Nat.le_trans (Nat.le_of_ble_eq_true rfl) hE.2.2.2.2.1, Nat.le_trans (Nat.le_of_ble_eq_true rfl) hE.2.2.2.2.2⟩ ⟨hc, hs⟩ dL_law_476 (fun r nb3 S3 z3 hp => ?_)
  refine hr_wide (c' := c + 2) (sl' := sl + 15) (show c + 2 + 0 ≤ c + 2 from Nat.le_refl _) (show sl + 15 + 0 ≤ sl + 15 from Nat.le_refl _) ?_
  obtain ⟨e1, J3, ans, e2, hag⟩ := hPo _ _ _ _ hp
  subst e1
  obtain rfl := Sum.inl.inj e2
  refine hr_istore (i := 6) G dL_law_479 (by decide) ?_
  refine hr_goto (tgt := 793) G dL_law_481 (by decide) ?_
  refine hr_L (L' := lw_L B b t) (hw_s1 rfl (hw_s1 rfl (hw_s1 rfl (hw_s1 rfl (hw_s1 rfl hw_s0))))) ?_
  exact K _ _ _ J3
set_option maxRecDepth 100000 in
set_option maxHeartbeats 1000000 in
theorem bo_proxy {X : hw_X} {B : hw_B} {fr : Nat → Prop} {nb : Nat → Nat} {S : hw_St} {z c sl : Nat} {Q : State → Prop} (G : hw_G X B fr cL_law 7 "TicketHouseLaw") {b L0 t : Nat} {s0 : Nat → Int32} (hE : lw_E X b L0 s0) (hB : B.1 = (xs X).heap.size) (ht : 5 * t + 5 ≤ L0) (hc : c + 2 ≤ (xR X).cells) (hs : sl + 15 ≤ (xR X).slots) (J : jw t nb S) (hz11 : hw_a B 11 (nb 11) = z) (K : ∀ nb' S' z', jw (t + 1) nb' S' → hw_V X B fr nb' S' z' (c + 2) (sl + 15) Q 7 793 (lw_L B b t) []) : hw_V X B fr nb S z c sl Q 7 484 (lw_L B b t) [] := by
  refine hr_aload_n G dL_law_484 rfl rfl ?_
  refine hr_aload_n G dL_law_485 rfl rfl ?_
  refine hr_iload G dL_law_486 rfl ?_
  refine hr_iconst (v := 1) G dL_law_488 (by decide) ?_
  refine hr_iadd G dL_law_489 ?_
  refine hr_sld (n := (5 * t + 1)) G hE.2.1 hE.2.2.1 hB (nI_add (5 * t) 1) (by omega) hE.2.2.2.1 dL_law_490 ?_
  refine hr_aload_n G dL_law_491 rfl rfl ?_
  refine hr_iload G dL_law_492 rfl ?_
  refine hr_iconst (v := 2) G dL_law_494 (by decide) ?_
  refine hr_iadd G dL_law_495 ?_
  refine hr_sld (n := (5 * t + 2)) G hE.2.1 hE.2.2.1 hB (nI_add (5 * t) 2) (by omega) hE.2.2.2.1 dL_law_496 ?_
  refine hr_aload_n G dL_law_497 rfl rfl ?_
  obtain ⟨k, nb1, S1, hM, hR⟩ := st_proxy X.2.1 hE.1 B nb S z J (s0 (5 * t + 1)) (s0 (5 * t + 2)) hz11
  refine hr_callW G kL_91.1.1 kL_91.1.2 kL_91.2.1 kL_91.2.2 sL_proxy hM rfl rfl (Nat.le_of_ble_eq_true rfl) ⟨Nat.le_trans (Nat.le_of_ble_eq_true rfl) hE.2.2.2.2.1, Nat.le_trans (Nat.le_of_ble_eq_true rfl) hE.2.2.2.2.2⟩ ⟨Nat.le_trans (show c + 1 ≤ c + 2 by omega) hc, Nat.le_trans (show sl + 9 ≤ sl + 15 by omega) hs⟩ dL_law_498 (fun r nb2 S2 z2 hp => ?_)
  refine hr_wide (c' := c + 2) (sl' := sl + 15) (show c + 1 ≤ c + 2 by omega) (show sl + 9 ≤ sl + 15 by omega) ?_
  obtain ⟨h1, h2, hq⟩ := hp
  subst h2
  obtain rfl := Sum.inl.inj h1
  obtain ⟨hA1, hR2⟩ := hR _ hq
  obtain ⟨P, hP, hPo⟩ := hR2 z2
  refine hr_istore (i := 5) G dL_law_501 (by decide) ?_
  refine hr_aload_n G dL_law_503 rfl rfl ?_
  refine hr_aload_n G dL_law_504 rfl rfl ?_
  refine hr_iload G dL_law_505 rfl ?_
  refine hr_iconst (v := 1) G dL_law_507 (by decide) ?_
  refine hr_iadd G dL_law_508 ?_
  refine hr_sld (n := (5 * t + 1)) G hE.2.1 hE.2.2.1 hB (nI_add (5 * t) 1) (by omega) hE.2.2.2.1 dL_law_509 ?_
  refine hr_aload_n G dL_law_510 rfl rfl ?_
  refine hr_iload G dL_law_511 rfl ?_
  refine hr_iconst (v := 2) G dL_law_513 (by decide) ?_
  refine hr_iadd G dL_law_514 ?_
  refine hr_sld (n := (5 * t + 2)) G hE.2.1 hE.2.2.1 hB (nI_add (5 * t) 2) (by omega) hE.2.2.2.1 dL_law_515 ?_
  refine hr_callV (k := 20) (i := 0) G rfl rfl (hA1.lt (show 0 < hw_n0 20 by decide)) kL_93 iM_proxy vM_proxy hP rfl rfl (Nat.le_of_ble_eq_true rfl) ⟨Nat.le_trans (Nat.le_of_ble_eq_true rfl) hE.2.2.2.2.1, Nat.le_trans (Nat.le_of_ble_eq_true rfl) hE.2.2.2.2.2⟩ ⟨hc, hs⟩ dL_law_516 (fun r nb3 S3 z3 hp => ?_)
  refine hr_wide (c' := c + 2) (sl' := sl + 15) (show c + 2 + 0 ≤ c + 2 from Nat.le_refl _) (show sl + 15 + 0 ≤ sl + 15 from Nat.le_refl _) ?_
  obtain ⟨e1, J3, ans, e2, hag⟩ := hPo _ _ _ _ hp
  subst e1
  obtain rfl := Sum.inl.inj e2
  refine hr_istore (i := 6) G dL_law_519 (by decide) ?_
  refine hr_goto (tgt := 793) G dL_law_521 (by decide) ?_
  refine hr_L (L' := lw_L B b t) (hw_s1 rfl (hw_s1 rfl (hw_s1 rfl (hw_s1 rfl (hw_s1 rfl hw_s0))))) ?_
  exact K _ _ _ J3
set_option maxRecDepth 100000 in
set_option maxHeartbeats 1000000 in
theorem bo_validate {X : hw_X} {B : hw_B} {fr : Nat → Prop} {nb : Nat → Nat} {S : hw_St} {z c sl : Nat} {Q : State → Prop} (G : hw_G X B fr cL_law 7 "TicketHouseLaw") {b L0 t : Nat} {s0 : Nat → Int32} (hE : lw_E X b L0 s0) (hB : B.1 = (xs X).heap.size) (ht : 5 * t + 5 ≤ L0) (hc : c + 2 ≤ (xR X).cells) (hs : sl + 15 ≤ (xR X).slots) (J : jw t nb S) (hz11 : hw_a B 11 (nb 11) = z) (K : ∀ nb' S' z', jw (t + 1) nb' S' → hw_V X B fr nb' S' z' (c + 2) (sl + 15) Q 7 793 (lw_L B b t) []) : hw_V X B fr nb S z c sl Q 7 524 (lw_L B b t) [] := by
  refine hr_aload_n G dL_law_524 rfl rfl ?_
  refine hr_aload_n G dL_law_525 rfl rfl ?_
  refine hr_iload G dL_law_526 rfl ?_
  refine hr_iconst (v := 1) G dL_law_528 (by decide) ?_
  refine hr_iadd G dL_law_529 ?_
  refine hr_sld (n := (5 * t + 1)) G hE.2.1 hE.2.2.1 hB (nI_add (5 * t) 1) (by omega) hE.2.2.2.1 dL_law_530 ?_
  refine hr_aload_n G dL_law_531 rfl rfl ?_
  refine hr_iload G dL_law_532 rfl ?_
  refine hr_iconst (v := 2) G dL_law_534 (by decide) ?_
  refine hr_iadd G dL_law_535 ?_
  refine hr_sld (n := (5 * t + 2)) G hE.2.1 hE.2.2.1 hB (nI_add (5 * t) 2) (by omega) hE.2.2.2.1 dL_law_536 ?_
  refine hr_aload_n G dL_law_537 rfl rfl ?_
  refine hr_iload G dL_law_538 rfl ?_
  refine hr_iconst (v := 3) G dL_law_540 (by decide) ?_
  refine hr_iadd G dL_law_541 ?_
  refine hr_sld (n := (5 * t + 3)) G hE.2.1 hE.2.2.1 hB (nI_add (5 * t) 3) (by omega) hE.2.2.2.1 dL_law_542 ?_
  refine hr_aload_n G dL_law_543 rfl rfl ?_
  refine hr_iload G dL_law_544 rfl ?_
  refine hr_iconst (v := 4) G dL_law_546 (by decide) ?_
  refine hr_iadd G dL_law_547 ?_
  refine hr_sld (n := (5 * t + 4)) G hE.2.1 hE.2.2.1 hB (nI_add (5 * t) 4) (by omega) hE.2.2.2.1 dL_law_548 ?_
  refine hr_aload_n G dL_law_549 rfl rfl ?_
  obtain ⟨k, nb1, S1, hM, hR⟩ := st_validate X.2.1 hE.1 B nb S z J (s0 (5 * t + 1)) (s0 (5 * t + 2)) (s0 (5 * t + 3)) (s0 (5 * t + 4)) hz11
  refine hr_callW G kL_94.1.1 kL_94.1.2 kL_94.2.1 kL_94.2.2 sL_validate hM rfl rfl (Nat.le_of_ble_eq_true rfl) ⟨Nat.le_trans (Nat.le_of_ble_eq_true rfl) hE.2.2.2.2.1, Nat.le_trans (Nat.le_of_ble_eq_true rfl) hE.2.2.2.2.2⟩ ⟨Nat.le_trans (show c + 1 ≤ c + 2 by omega) hc, Nat.le_trans (show sl + 9 ≤ sl + 15 by omega) hs⟩ dL_law_550 (fun r nb2 S2 z2 hp => ?_)
  refine hr_wide (c' := c + 2) (sl' := sl + 15) (show c + 1 ≤ c + 2 by omega) (show sl + 9 ≤ sl + 15 by omega) ?_
  obtain ⟨h1, h2, hq⟩ := hp
  subst h2
  obtain rfl := Sum.inl.inj h1
  obtain ⟨hA1, hR2⟩ := hR _ hq
  obtain ⟨P, hP, hPo⟩ := hR2 z2
  refine hr_istore (i := 5) G dL_law_553 (by decide) ?_
  refine hr_aload_n G dL_law_555 rfl rfl ?_
  refine hr_aload_n G dL_law_556 rfl rfl ?_
  refine hr_iload G dL_law_557 rfl ?_
  refine hr_iconst (v := 1) G dL_law_559 (by decide) ?_
  refine hr_iadd G dL_law_560 ?_
  refine hr_sld (n := (5 * t + 1)) G hE.2.1 hE.2.2.1 hB (nI_add (5 * t) 1) (by omega) hE.2.2.2.1 dL_law_561 ?_
  refine hr_aload_n G dL_law_562 rfl rfl ?_
  refine hr_iload G dL_law_563 rfl ?_
  refine hr_iconst (v := 2) G dL_law_565 (by decide) ?_
  refine hr_iadd G dL_law_566 ?_
  refine hr_sld (n := (5 * t + 2)) G hE.2.1 hE.2.2.1 hB (nI_add (5 * t) 2) (by omega) hE.2.2.2.1 dL_law_567 ?_
  refine hr_aload_n G dL_law_568 rfl rfl ?_
  refine hr_iload G dL_law_569 rfl ?_
  refine hr_iconst (v := 3) G dL_law_571 (by decide) ?_
  refine hr_iadd G dL_law_572 ?_
  refine hr_sld (n := (5 * t + 3)) G hE.2.1 hE.2.2.1 hB (nI_add (5 * t) 3) (by omega) hE.2.2.2.1 dL_law_573 ?_
  refine hr_aload_n G dL_law_574 rfl rfl ?_
  refine hr_iload G dL_law_575 rfl ?_
  refine hr_iconst (v := 4) G dL_law_577 (by decide) ?_
  refine hr_iadd G dL_law_578 ?_
  refine hr_sld (n := (5 * t + 4)) G hE.2.1 hE.2.2.1 hB (nI_add (5 * t) 4) (by omega) hE.2.2.2.1 dL_law_579 ?_
  refine hr_callV (k := 20) (i := 0) G rfl rfl (hA1.lt (show 0 < hw_n0 20 by decide)) kL_97 iM_validate vM_validate hP rfl rfl (Nat.le_of_ble_eq_true rfl) ⟨Nat.le_trans (Nat.le_of_ble_eq_true rfl) hE.2.2.2.2.1, Nat.le_trans (Nat.le_of_ble_eq_true rfl) hE.2.2.2.2.2⟩ ⟨hc, hs⟩ dL_law_580 (fun r nb3 S3 z3 hp => ?_)
  refine hr_wide (c' := c + 2) (sl' := sl + 15) (show c + 2 + 0 ≤ c + 2 from Nat.le_refl _) (show sl + 15 + 0 ≤ sl + 15 from Nat.le_refl _) ?_
  obtain ⟨e1, J3, ans, e2, hag⟩ := hPo _ _ _ _ hp
  subst e1
  obtain rfl := Sum.inl.inj e2
  refine hr_istore (i := 6) G dL_law_583 (by decide) ?_
  refine hr_goto (tgt := 793) G dL_law_585 (by decide) ?_
  refine hr_L (L' := lw_L B b t) (hw_s1 rfl (hw_s1 rfl (hw_s1 rfl (hw_s1 rfl (hw_s1 rfl hw_s0))))) ?_
  exact K _ _ _ J3
set_option maxRecDepth 100000 in
set_option maxHeartbeats 1000000 in
theorem bo_logout {X : hw_X} {B : hw_B} {fr : Nat → Prop} {nb : Nat → Nat} {S : hw_St} {z c sl : Nat} {Q : State → Prop} (G : hw_G X B fr cL_law 7 "TicketHouseLaw") {b L0 t : Nat} {s0 : Nat → Int32} (hE : lw_E X b L0 s0) (hB : B.1 = (xs X).heap.size) (ht : 5 * t + 5 ≤ L0) (hc : c + 2 ≤ (xR X).cells) (hs : sl + 15 ≤ (xR X).slots) (J : jw t nb S) (K : ∀ nb' S' z', jw (t + 1) nb' S' → hw_V X B fr nb' S' z' (c + 2) (sl + 15) Q 7 793 (lw_L B b t) []) : hw_V X B fr nb S z c sl Q 7 588 (lw_L B b t) [] := by
  refine hr_aload_n G dL_law_588 rfl rfl ?_
  refine hr_aload_n G dL_law_589 rfl rfl ?_
  refine hr_iload G dL_law_590 rfl ?_
  refine hr_iconst (v := 1) G dL_law_592 (by decide) ?_
  refine hr_iadd G dL_law_593 ?_
  refine hr_sld (n := (5 * t + 1)) G hE.2.1 hE.2.2.1 hB (nI_add (5 * t) 1) (by omega) hE.2.2.2.1 dL_law_594 ?_
  refine hr_aload_n G dL_law_595 rfl rfl ?_
  obtain ⟨k, nb1, S1, hM, hR⟩ := st_logout X.2.1 hE.1 B nb S z J (s0 (5 * t + 1))
  refine hr_callW G kL_98.1.1 kL_98.1.2 kL_98.2.1 kL_98.2.2 sL_logout hM rfl rfl (Nat.le_of_ble_eq_true rfl) ⟨Nat.le_trans (Nat.le_of_ble_eq_true rfl) hE.2.2.2.2.1, Nat.le_trans (Nat.le_of_ble_eq_true rfl) hE.2.2.2.2.2⟩ ⟨Nat.le_trans (show c + 1 ≤ c + 2 by omega) hc, Nat.le_trans (show sl + 6 ≤ sl + 15 by omega) hs⟩ dL_law_596 (fun r nb2 S2 z2 hp => ?_)
  refine hr_wide (c' := c + 2) (sl' := sl + 15) (show c + 1 ≤ c + 2 by omega) (show sl + 6 ≤ sl + 15 by omega) ?_
  obtain ⟨h1, h2, hq⟩ := hp
  subst h2
  obtain rfl := Sum.inl.inj h1
  obtain ⟨hA1, hR2⟩ := hR _ hq
  obtain ⟨P, hP, hPo⟩ := hR2 z2
  refine hr_istore (i := 5) G dL_law_599 (by decide) ?_
  refine hr_aload_n G dL_law_601 rfl rfl ?_
  refine hr_aload_n G dL_law_602 rfl rfl ?_
  refine hr_iload G dL_law_603 rfl ?_
  refine hr_iconst (v := 1) G dL_law_605 (by decide) ?_
  refine hr_iadd G dL_law_606 ?_
  refine hr_sld (n := (5 * t + 1)) G hE.2.1 hE.2.2.1 hB (nI_add (5 * t) 1) (by omega) hE.2.2.2.1 dL_law_607 ?_
  refine hr_callV (k := 20) (i := 0) G rfl rfl (hA1.lt (show 0 < hw_n0 20 by decide)) kL_100 iM_logout vM_logout hP rfl rfl (Nat.le_of_ble_eq_true rfl) ⟨Nat.le_trans (Nat.le_of_ble_eq_true rfl) hE.2.2.2.2.1, Nat.le_trans (Nat.le_of_ble_eq_true rfl) hE.2.2.2.2.2⟩ ⟨hc, hs⟩ dL_law_608 (fun r nb3 S3 z3 hp => ?_)
  refine hr_wide (c' := c + 2) (sl' := sl + 15) (show c + 2 + 0 ≤ c + 2 from Nat.le_refl _) (show sl + 15 + 0 ≤ sl + 15 from Nat.le_refl _) ?_
  obtain ⟨e1, J3, ans, e2, hag⟩ := hPo _ _ _ _ hp
  subst e1
  obtain rfl := Sum.inl.inj e2
  refine hr_istore (i := 6) G dL_law_611 (by decide) ?_
  refine hr_goto (tgt := 793) G dL_law_613 (by decide) ?_
  refine hr_L (L' := lw_L B b t) (hw_s1 rfl (hw_s1 rfl (hw_s1 rfl (hw_s1 rfl (hw_s1 rfl hw_s0))))) ?_
  exact K _ _ _ J3
set_option maxRecDepth 100000 in
set_option maxHeartbeats 1000000 in
theorem bo_tick {X : hw_X} {B : hw_B} {fr : Nat → Prop} {nb : Nat → Nat} {S : hw_St} {z c sl : Nat} {Q : State → Prop} (G : hw_G X B fr cL_law 7 "TicketHouseLaw") {b L0 t : Nat} {s0 : Nat → Int32} (hE : lw_E X b L0 s0) (hB : B.1 = (xs X).heap.size) (ht : 5 * t + 5 ≤ L0) (hc : c + 2 ≤ (xR X).cells) (hs : sl + 15 ≤ (xR X).slots) (J : jw t nb S) (htt : t ≤ 100000) (K : ∀ nb' S' z', jw (t + 1) nb' S' → hw_V X B fr nb' S' z' (c + 2) (sl + 15) Q 7 793 (lw_L B b t) []) : hw_V X B fr nb S z c sl Q 7 616 (lw_L B b t) [] := by
  refine hr_aload_n G dL_law_616 rfl rfl ?_
  refine hr_aload_n G dL_law_617 rfl rfl ?_
  refine hr_iload G dL_law_618 rfl ?_
  refine hr_iconst (v := 1) G dL_law_620 (by decide) ?_
  refine hr_iadd G dL_law_621 ?_
  refine hr_sld (n := (5 * t + 1)) G hE.2.1 hE.2.2.1 hB (nI_add (5 * t) 1) (by omega) hE.2.2.2.1 dL_law_622 ?_
  refine hr_aload_n G dL_law_623 rfl rfl ?_
  obtain ⟨k, nb1, S1, hM, hR⟩ := st_tick X.2.1 hE.1 B nb S z J (s0 (5 * t + 1)) htt
  refine hr_callW G kL_101.1.1 kL_101.1.2 kL_101.2.1 kL_101.2.2 sL_tick hM rfl rfl (Nat.le_of_ble_eq_true rfl) ⟨Nat.le_trans (Nat.le_of_ble_eq_true rfl) hE.2.2.2.2.1, Nat.le_trans (Nat.le_of_ble_eq_true rfl) hE.2.2.2.2.2⟩ ⟨Nat.le_trans (show c + 1 ≤ c + 2 by omega) hc, Nat.le_trans (show sl + 6 ≤ sl + 15 by omega) hs⟩ dL_law_624 (fun r nb2 S2 z2 hp => ?_)
  refine hr_wide (c' := c + 2) (sl' := sl + 15) (show c + 1 ≤ c + 2 by omega) (show sl + 6 ≤ sl + 15 by omega) ?_
  obtain ⟨h1, h2, hq⟩ := hp
  subst h2
  obtain rfl := Sum.inl.inj h1
  obtain ⟨hA1, hR2⟩ := hR _ hq
  obtain ⟨P, hP, hPo⟩ := hR2 z2
  refine hr_istore (i := 5) G dL_law_627 (by decide) ?_
  refine hr_aload_n G dL_law_629 rfl rfl ?_
  refine hr_aload_n G dL_law_630 rfl rfl ?_
  refine hr_iload G dL_law_631 rfl ?_
  refine hr_iconst (v := 1) G dL_law_633 (by decide) ?_
  refine hr_iadd G dL_law_634 ?_
  refine hr_sld (n := (5 * t + 1)) G hE.2.1 hE.2.2.1 hB (nI_add (5 * t) 1) (by omega) hE.2.2.2.1 dL_law_635 ?_
  refine hr_callV (k := 20) (i := 0) G rfl rfl (hA1.lt (show 0 < hw_n0 20 by decide)) kL_103 iM_tick vM_tick hP rfl rfl (Nat.le_of_ble_eq_true rfl) ⟨Nat.le_trans (Nat.le_of_ble_eq_true rfl) hE.2.2.2.2.1, Nat.le_trans (Nat.le_of_ble_eq_true rfl) hE.2.2.2.2.2⟩ ⟨hc, hs⟩ dL_law_636 (fun r nb3 S3 z3 hp => ?_)
  refine hr_wide (c' := c + 2) (sl' := sl + 15) (show c + 2 + 0 ≤ c + 2 from Nat.le_refl _) (show sl + 15 + 0 ≤ sl + 15 from Nat.le_refl _) ?_
  obtain ⟨e1, J3, ans, e2, hag⟩ := hPo _ _ _ _ hp
  subst e1
  obtain rfl := Sum.inl.inj e2
  refine hr_istore (i := 6) G dL_law_639 (by decide) ?_
  refine hr_goto (tgt := 793) G dL_law_641 (by decide) ?_
  refine hr_L (L' := lw_L B b t) (hw_s1 rfl (hw_s1 rfl (hw_s1 rfl (hw_s1 rfl (hw_s1 rfl hw_s0))))) ?_
  exact K _ _ _ J3
set_option maxRecDepth 100000 in
set_option maxHeartbeats 1000000 in
theorem bo_document {X : hw_X} {B : hw_B} {fr : Nat → Prop} {nb : Nat → Nat} {S : hw_St} {z c sl : Nat} {Q : State → Prop} (G : hw_G X B fr cL_law 7 "TicketHouseLaw") {b L0 t : Nat} {s0 : Nat → Int32} (hE : lw_E X b L0 s0) (hB : B.1 = (xs X).heap.size) (ht : 5 * t + 5 ≤ L0) (hc : c + 2 ≤ (xR X).cells) (hs : sl + 15 ≤ (xR X).slots) (J : jw t nb S) (K : ∀ nb' S' z', jw (t + 1) nb' S' → hw_V X B fr nb' S' z' (c + 2) (sl + 15) Q 7 793 (lw_L B b t) []) : hw_V X B fr nb S z c sl Q 7 644 (lw_L B b t) [] := by
  refine hr_aload_n G dL_law_644 rfl rfl ?_
  refine hr_aload_n G dL_law_645 rfl rfl ?_
  refine hr_iload G dL_law_646 rfl ?_
  refine hr_iconst (v := 1) G dL_law_648 (by decide) ?_
  refine hr_iadd G dL_law_649 ?_
  refine hr_sld (n := (5 * t + 1)) G hE.2.1 hE.2.2.1 hB (nI_add (5 * t) 1) (by omega) hE.2.2.2.1 dL_law_650 ?_
  obtain ⟨a0, P0, hP0, hq0, hR2⟩ := st_document X.2.1 B nb S z J (s0 (5 * t + 1))
  refine hr_callV (k := 0) (i := 0) G rfl rfl (J.1.1.lt (show 0 < hw_n0 0 by decide)) kL_104 iH_document vH_document hP0 rfl rfl (Nat.le_of_ble_eq_true rfl) ⟨Nat.le_trans (Nat.le_of_ble_eq_true rfl) hE.2.2.2.2.1, Nat.le_trans (Nat.le_of_ble_eq_true rfl) hE.2.2.2.2.2⟩ ⟨Nat.le_trans (show c + 0 ≤ c + 2 by omega) hc, Nat.le_trans (show sl + 0 ≤ sl + 15 by omega) hs⟩ dL_law_651 (fun r nb2 S2 z2 hp => ?_)
  refine hr_wide (c' := c + 2) (sl' := sl + 15) (show c + 0 ≤ c + 2 by omega) (show sl + 0 ≤ sl + 15 by omega) ?_
  obtain ⟨h1, h2, k, h3⟩ := hq0 _ _ _ _ hp
  subst h1 h2
  obtain rfl := Sum.inl.inj h3
  have hA1 := J.1.1
  obtain ⟨P, hP, hPo⟩ := hR2 z2
  refine hr_pop G dL_law_654 rfl ?_
  refine hr_aload_n G dL_law_655 rfl rfl ?_
  refine hr_aload_n G dL_law_656 rfl rfl ?_
  refine hr_iload G dL_law_657 rfl ?_
  refine hr_iconst (v := 1) G dL_law_659 (by decide) ?_
  refine hr_iadd G dL_law_660 ?_
  refine hr_sld (n := (5 * t + 1)) G hE.2.1 hE.2.2.1 hB (nI_add (5 * t) 1) (by omega) hE.2.2.2.1 dL_law_661 ?_
  refine hr_callV (k := 20) (i := 0) G rfl rfl (hA1.lt (show 0 < hw_n0 20 by decide)) kL_107 iM_document vM_document hP rfl rfl (Nat.le_of_ble_eq_true rfl) ⟨Nat.le_trans (Nat.le_of_ble_eq_true rfl) hE.2.2.2.2.1, Nat.le_trans (Nat.le_of_ble_eq_true rfl) hE.2.2.2.2.2⟩ ⟨hc, hs⟩ dL_law_662 (fun r nb3 S3 z3 hp => ?_)
  refine hr_wide (c' := c + 2) (sl' := sl + 15) (show c + 2 + 0 ≤ c + 2 from Nat.le_refl _) (show sl + 15 + 0 ≤ sl + 15 from Nat.le_refl _) ?_
  obtain ⟨e1, J3, ans, e2, hag⟩ := hPo _ _ _ _ hp
  subst e1
  obtain rfl := Sum.inl.inj e2
  refine hr_pop G dL_law_665 rfl ?_
  refine hr_goto (tgt := 793) G dL_law_666 (by decide) ?_
  refine hr_L (L' := lw_L B b t) (hw_s1 rfl (hw_s1 rfl (hw_s1 rfl (hw_s1 rfl (hw_s1 rfl hw_s0))))) ?_
  exact K _ _ _ J3
set_option maxRecDepth 100000 in
set_option maxHeartbeats 1000000 in
theorem bo_session {X : hw_X} {B : hw_B} {fr : Nat → Prop} {nb : Nat → Nat} {S : hw_St} {z c sl : Nat} {Q : State → Prop} (G : hw_G X B fr cL_law 7 "TicketHouseLaw") {b L0 t : Nat} {s0 : Nat → Int32} (hE : lw_E X b L0 s0) (hB : B.1 = (xs X).heap.size) (ht : 5 * t + 5 ≤ L0) (hc : c + 2 ≤ (xR X).cells) (hs : sl + 15 ≤ (xR X).slots) (J : jw t nb S) (K : ∀ nb' S' z', jw (t + 1) nb' S' → hw_V X B fr nb' S' z' (c + 2) (sl + 15) Q 7 793 (lw_L B b t) []) : hw_V X B fr nb S z c sl Q 7 669 (lw_L B b t) [] := by
  refine hr_aload_n G dL_law_669 rfl rfl ?_
  refine hr_aload_n G dL_law_670 rfl rfl ?_
  refine hr_iload G dL_law_671 rfl ?_
  refine hr_iconst (v := 1) G dL_law_673 (by decide) ?_
  refine hr_iadd G dL_law_674 ?_
  refine hr_sld (n := (5 * t + 1)) G hE.2.1 hE.2.2.1 hB (nI_add (5 * t) 1) (by omega) hE.2.2.2.1 dL_law_675 ?_
  refine hr_aload_n G dL_law_676 rfl rfl ?_
  refine hr_iload G dL_law_677 rfl ?_
  refine hr_iconst (v := 2) G dL_law_679 (by decide) ?_
  refine hr_iadd G dL_law_680 ?_
  refine hr_sld (n := (5 * t + 2)) G hE.2.1 hE.2.2.1 hB (nI_add (5 * t) 2) (by omega) hE.2.2.2.1 dL_law_681 ?_
  obtain ⟨a0, P0, hP0, hq0, hR2⟩ := st_session X.2.1 B nb S z J (s0 (5 * t + 1)) (s0 (5 * t + 2))
  refine hr_callV (k := 0) (i := 0) G rfl rfl (J.1.1.lt (show 0 < hw_n0 0 by decide)) kL_108 iH_session vH_session hP0 rfl rfl (Nat.le_of_ble_eq_true rfl) ⟨Nat.le_trans (Nat.le_of_ble_eq_true rfl) hE.2.2.2.2.1, Nat.le_trans (Nat.le_of_ble_eq_true rfl) hE.2.2.2.2.2⟩ ⟨Nat.le_trans (show c + 0 ≤ c + 2 by omega) hc, Nat.le_trans (show sl + 0 ≤ sl + 15 by omega) hs⟩ dL_law_682 (fun r nb2 S2 z2 hp => ?_)
  refine hr_wide (c' := c + 2) (sl' := sl + 15) (show c + 0 ≤ c + 2 by omega) (show sl + 0 ≤ sl + 15 by omega) ?_
  obtain ⟨h1, h2, h3⟩ := hq0 _ _ _ _ hp
  subst h1 h2
  obtain rfl := Sum.inl.inj h3
  have hA1 := J.1.1
  obtain ⟨P, hP, hPo⟩ := hR2 z2
  refine hr_pop G dL_law_685 rfl ?_
  refine hr_aload_n G dL_law_686 rfl rfl ?_
  refine hr_aload_n G dL_law_687 rfl rfl ?_
  refine hr_iload G dL_law_688 rfl ?_
  refine hr_iconst (v := 1) G dL_law_690 (by decide) ?_
  refine hr_iadd G dL_law_691 ?_
  refine hr_sld (n := (5 * t + 1)) G hE.2.1 hE.2.2.1 hB (nI_add (5 * t) 1) (by omega) hE.2.2.2.1 dL_law_692 ?_
  refine hr_aload_n G dL_law_693 rfl rfl ?_
  refine hr_iload G dL_law_694 rfl ?_
  refine hr_iconst (v := 2) G dL_law_696 (by decide) ?_
  refine hr_iadd G dL_law_697 ?_
  refine hr_sld (n := (5 * t + 2)) G hE.2.1 hE.2.2.1 hB (nI_add (5 * t) 2) (by omega) hE.2.2.2.1 dL_law_698 ?_
  refine hr_callV (k := 20) (i := 0) G rfl rfl (hA1.lt (show 0 < hw_n0 20 by decide)) kL_111 iM_session vM_session hP rfl rfl (Nat.le_of_ble_eq_true rfl) ⟨Nat.le_trans (Nat.le_of_ble_eq_true rfl) hE.2.2.2.2.1, Nat.le_trans (Nat.le_of_ble_eq_true rfl) hE.2.2.2.2.2⟩ ⟨hc, hs⟩ dL_law_699 (fun r nb3 S3 z3 hp => ?_)
  refine hr_wide (c' := c + 2) (sl' := sl + 15) (show c + 2 + 0 ≤ c + 2 from Nat.le_refl _) (show sl + 15 + 0 ≤ sl + 15 from Nat.le_refl _) ?_
  obtain ⟨e1, J3, ans, e2, hag⟩ := hPo _ _ _ _ hp
  subst e1
  obtain rfl := Sum.inl.inj e2
  refine hr_pop G dL_law_702 rfl ?_
  refine hr_goto (tgt := 793) G dL_law_703 (by decide) ?_
  refine hr_L (L' := lw_L B b t) (hw_s1 rfl (hw_s1 rfl (hw_s1 rfl (hw_s1 rfl (hw_s1 rfl hw_s0))))) ?_
  exact K _ _ _ J3
set_option maxRecDepth 100000 in
set_option maxHeartbeats 1000000 in
theorem bo_about {X : hw_X} {B : hw_B} {fr : Nat → Prop} {nb : Nat → Nat} {S : hw_St} {z c sl : Nat} {Q : State → Prop} (G : hw_G X B fr cL_law 7 "TicketHouseLaw") {b L0 t : Nat} {s0 : Nat → Int32} (hE : lw_E X b L0 s0) (hB : B.1 = (xs X).heap.size) (ht : 5 * t + 5 ≤ L0) (hc : c + 2 ≤ (xR X).cells) (hs : sl + 15 ≤ (xR X).slots) (J : jw t nb S) (K : ∀ nb' S' z', jw (t + 1) nb' S' → hw_V X B fr nb' S' z' (c + 2) (sl + 15) Q 7 793 (lw_L B b t) []) : hw_V X B fr nb S z c sl Q 7 706 (lw_L B b t) [] := by
  refine hr_aload_n G dL_law_706 rfl rfl ?_
  refine hr_aload_n G dL_law_707 rfl rfl ?_
  refine hr_iload G dL_law_708 rfl ?_
  refine hr_iconst (v := 1) G dL_law_710 (by decide) ?_
  refine hr_iadd G dL_law_711 ?_
  refine hr_sld (n := (5 * t + 1)) G hE.2.1 hE.2.2.1 hB (nI_add (5 * t) 1) (by omega) hE.2.2.2.1 dL_law_712 ?_
  refine hr_aload_n G dL_law_713 rfl rfl ?_
  refine hr_iload G dL_law_714 rfl ?_
  refine hr_iconst (v := 2) G dL_law_716 (by decide) ?_
  refine hr_iadd G dL_law_717 ?_
  refine hr_sld (n := (5 * t + 2)) G hE.2.1 hE.2.2.1 hB (nI_add (5 * t) 2) (by omega) hE.2.2.2.1 dL_law_718 ?_
  obtain ⟨a0, P0, hP0, hq0, hR2⟩ := st_about X.2.1 B nb S z J (s0 (5 * t + 1)) (s0 (5 * t + 2))
  refine hr_callV (k := 0) (i := 0) G rfl rfl (J.1.1.lt (show 0 < hw_n0 0 by decide)) kL_112 iH_about vH_about hP0 rfl rfl (Nat.le_of_ble_eq_true rfl) ⟨Nat.le_trans (Nat.le_of_ble_eq_true rfl) hE.2.2.2.2.1, Nat.le_trans (Nat.le_of_ble_eq_true rfl) hE.2.2.2.2.2⟩ ⟨Nat.le_trans (show c + 0 ≤ c + 2 by omega) hc, Nat.le_trans (show sl + 0 ≤ sl + 15 by omega) hs⟩ dL_law_719 (fun r nb2 S2 z2 hp => ?_)
  refine hr_wide (c' := c + 2) (sl' := sl + 15) (show c + 0 ≤ c + 2 by omega) (show sl + 0 ≤ sl + 15 by omega) ?_
  obtain ⟨h1, h2, h3⟩ := hq0 _ _ _ _ hp
  subst h1 h2
  obtain rfl := Sum.inl.inj h3
  have hA1 := J.1.1
  obtain ⟨P, hP, hPo⟩ := hR2 z2
  refine hr_pop G dL_law_722 rfl ?_
  refine hr_aload_n G dL_law_723 rfl rfl ?_
  refine hr_aload_n G dL_law_724 rfl rfl ?_
  refine hr_iload G dL_law_725 rfl ?_
  refine hr_iconst (v := 1) G dL_law_727 (by decide) ?_
  refine hr_iadd G dL_law_728 ?_
  refine hr_sld (n := (5 * t + 1)) G hE.2.1 hE.2.2.1 hB (nI_add (5 * t) 1) (by omega) hE.2.2.2.1 dL_law_729 ?_
  refine hr_aload_n G dL_law_730 rfl rfl ?_
  refine hr_iload G dL_law_731 rfl ?_
  refine hr_iconst (v := 2) G dL_law_733 (by decide) ?_
  refine hr_iadd G dL_law_734 ?_
  refine hr_sld (n := (5 * t + 2)) G hE.2.1 hE.2.2.1 hB (nI_add (5 * t) 2) (by omega) hE.2.2.2.1 dL_law_735 ?_
  refine hr_callV (k := 20) (i := 0) G rfl rfl (hA1.lt (show 0 < hw_n0 20 by decide)) kL_115 iM_about vM_about hP rfl rfl (Nat.le_of_ble_eq_true rfl) ⟨Nat.le_trans (Nat.le_of_ble_eq_true rfl) hE.2.2.2.2.1, Nat.le_trans (Nat.le_of_ble_eq_true rfl) hE.2.2.2.2.2⟩ ⟨hc, hs⟩ dL_law_736 (fun r nb3 S3 z3 hp => ?_)
  refine hr_wide (c' := c + 2) (sl' := sl + 15) (show c + 2 + 0 ≤ c + 2 from Nat.le_refl _) (show sl + 15 + 0 ≤ sl + 15 from Nat.le_refl _) ?_
  obtain ⟨e1, J3, ans, e2, hag⟩ := hPo _ _ _ _ hp
  subst e1
  obtain rfl := Sum.inl.inj e2
  refine hr_pop G dL_law_739 rfl ?_
  refine hr_goto (tgt := 793) G dL_law_740 (by decide) ?_
  refine hr_L (L' := lw_L B b t) (hw_s1 rfl (hw_s1 rfl (hw_s1 rfl (hw_s1 rfl (hw_s1 rfl hw_s0))))) ?_
  exact K _ _ _ J3
set_option maxRecDepth 100000 in
set_option maxHeartbeats 1000000 in
theorem bo_message {X : hw_X} {B : hw_B} {fr : Nat → Prop} {nb : Nat → Nat} {S : hw_St} {z c sl : Nat} {Q : State → Prop} (G : hw_G X B fr cL_law 7 "TicketHouseLaw") {b L0 t : Nat} {s0 : Nat → Int32} (hE : lw_E X b L0 s0) (hB : B.1 = (xs X).heap.size) (ht : 5 * t + 5 ≤ L0) (hc : c + 2 ≤ (xR X).cells) (hs : sl + 15 ≤ (xR X).slots) (J : jw t nb S) (K : ∀ nb' S' z', jw (t + 1) nb' S' → hw_V X B fr nb' S' z' (c + 2) (sl + 15) Q 7 793 (lw_L B b t) []) : hw_V X B fr nb S z c sl Q 7 743 (lw_L B b t) [] := by
  refine hr_aload_n G dL_law_743 rfl rfl ?_
  refine hr_aload_n G dL_law_744 rfl rfl ?_
  refine hr_iload G dL_law_745 rfl ?_
  refine hr_iconst (v := 1) G dL_law_747 (by decide) ?_
  refine hr_iadd G dL_law_748 ?_
  refine hr_sld (n := (5 * t + 1)) G hE.2.1 hE.2.2.1 hB (nI_add (5 * t) 1) (by omega) hE.2.2.2.1 dL_law_749 ?_
  obtain ⟨a0, P0, hP0, hq0, hR2⟩ := st_message X.2.1 B nb S z J (s0 (5 * t + 1))
  refine hr_callV (k := 0) (i := 0) G rfl rfl (J.1.1.lt (show 0 < hw_n0 0 by decide)) kL_116 iH_message vH_message hP0 rfl rfl (Nat.le_of_ble_eq_true rfl) ⟨Nat.le_trans (Nat.le_of_ble_eq_true rfl) hE.2.2.2.2.1, Nat.le_trans (Nat.le_of_ble_eq_true rfl) hE.2.2.2.2.2⟩ ⟨Nat.le_trans (show c + 0 ≤ c + 2 by omega) hc, Nat.le_trans (show sl + 0 ≤ sl + 15 by omega) hs⟩ dL_law_750 (fun r nb2 S2 z2 hp => ?_)
  refine hr_wide (c' := c + 2) (sl' := sl + 15) (show c + 0 ≤ c + 2 by omega) (show sl + 0 ≤ sl + 15 by omega) ?_
  obtain ⟨h1, h2, h3⟩ := hq0 _ _ _ _ hp
  subst h1 h2
  obtain rfl := Sum.inl.inj h3
  have hA1 := J.1.1
  obtain ⟨P, hP, hPo⟩ := hR2 z2
  refine hr_pop G dL_law_753 rfl ?_
  refine hr_aload_n G dL_law_754 rfl rfl ?_
  refine hr_aload_n G dL_law_755 rfl rfl ?_
  refine hr_iload G dL_law_756 rfl ?_
  refine hr_iconst (v := 1) G dL_law_758 (by decide) ?_
  refine hr_iadd G dL_law_759 ?_
  refine hr_sld (n := (5 * t + 1)) G hE.2.1 hE.2.2.1 hB (nI_add (5 * t) 1) (by omega) hE.2.2.2.1 dL_law_760 ?_
  refine hr_callV (k := 20) (i := 0) G rfl rfl (hA1.lt (show 0 < hw_n0 20 by decide)) kL_119 iM_message vM_message hP rfl rfl (Nat.le_of_ble_eq_true rfl) ⟨Nat.le_trans (Nat.le_of_ble_eq_true rfl) hE.2.2.2.2.1, Nat.le_trans (Nat.le_of_ble_eq_true rfl) hE.2.2.2.2.2⟩ ⟨hc, hs⟩ dL_law_761 (fun r nb3 S3 z3 hp => ?_)
  refine hr_wide (c' := c + 2) (sl' := sl + 15) (show c + 2 + 0 ≤ c + 2 from Nat.le_refl _) (show sl + 15 + 0 ≤ sl + 15 from Nat.le_refl _) ?_
  obtain ⟨e1, J3, ans, e2, hag⟩ := hPo _ _ _ _ hp
  subst e1
  obtain rfl := Sum.inl.inj e2
  refine hr_pop G dL_law_764 rfl ?_
  refine hr_goto (tgt := 793) G dL_law_765 (by decide) ?_
  refine hr_L (L' := lw_L B b t) (hw_s1 rfl (hw_s1 rfl (hw_s1 rfl (hw_s1 rfl (hw_s1 rfl hw_s0))))) ?_
  exact K _ _ _ J3
set_option maxRecDepth 100000 in
set_option maxHeartbeats 1000000 in
theorem bo_house {X : hw_X} {B : hw_B} {fr : Nat → Prop} {nb : Nat → Nat} {S : hw_St} {z c sl : Nat} {Q : State → Prop} (G : hw_G X B fr cL_law 7 "TicketHouseLaw") {b L0 t : Nat} {s0 : Nat → Int32} (hE : lw_E X b L0 s0) (hB : B.1 = (xs X).heap.size) (ht : 5 * t + 5 ≤ L0) (hc : c + 2 ≤ (xR X).cells) (hs : sl + 15 ≤ (xR X).slots) (J : jw t nb S) (K : ∀ nb' S' z', jw (t + 1) nb' S' → hw_V X B fr nb' S' z' (c + 2) (sl + 15) Q 7 793 (lw_L B b t) []) : hw_V X B fr nb S z c sl Q 7 768 (lw_L B b t) [] := by
  refine hr_aload_n G dL_law_768 rfl rfl ?_
  refine hr_aload_n G dL_law_769 rfl rfl ?_
  refine hr_iload G dL_law_770 rfl ?_
  refine hr_iconst (v := 1) G dL_law_772 (by decide) ?_
  refine hr_iadd G dL_law_773 ?_
  refine hr_sld (n := (5 * t + 1)) G hE.2.1 hE.2.2.1 hB (nI_add (5 * t) 1) (by omega) hE.2.2.2.1 dL_law_774 ?_
  obtain ⟨a0, P0, hP0, hq0, hR2⟩ := st_house X.2.1 B nb S z J (s0 (5 * t + 1))
  refine hr_callV (k := 0) (i := 0) G rfl rfl (J.1.1.lt (show 0 < hw_n0 0 by decide)) kL_120 iH_house vH_house hP0 rfl rfl (Nat.le_of_ble_eq_true rfl) ⟨Nat.le_trans (Nat.le_of_ble_eq_true rfl) hE.2.2.2.2.1, Nat.le_trans (Nat.le_of_ble_eq_true rfl) hE.2.2.2.2.2⟩ ⟨Nat.le_trans (show c + 0 ≤ c + 2 by omega) hc, Nat.le_trans (show sl + 0 ≤ sl + 15 by omega) hs⟩ dL_law_775 (fun r nb2 S2 z2 hp => ?_)
  refine hr_wide (c' := c + 2) (sl' := sl + 15) (show c + 0 ≤ c + 2 by omega) (show sl + 0 ≤ sl + 15 by omega) ?_
  obtain ⟨h1, h2, h3⟩ := hq0 _ _ _ _ hp
  subst h1 h2
  obtain rfl := Sum.inl.inj h3
  have hA1 := J.1.1
  obtain ⟨P, hP, hPo⟩ := hR2 z2
  refine hr_aload_n G dL_law_778 rfl rfl ?_
  refine hr_aload_n G dL_law_779 rfl rfl ?_
  refine hr_iload G dL_law_780 rfl ?_
  refine hr_iconst (v := 1) G dL_law_782 (by decide) ?_
  refine hr_iadd G dL_law_783 ?_
  refine hr_sld (n := (5 * t + 1)) G hE.2.1 hE.2.2.1 hB (nI_add (5 * t) 1) (by omega) hE.2.2.2.1 dL_law_784 ?_
  refine hr_callV (k := 20) (i := 0) G rfl rfl (hA1.lt (show 0 < hw_n0 20 by decide)) kL_123 iM_house vM_house hP rfl rfl (Nat.le_of_ble_eq_true rfl) ⟨Nat.le_trans (Nat.le_of_ble_eq_true rfl) hE.2.2.2.2.1, Nat.le_trans (Nat.le_of_ble_eq_true rfl) hE.2.2.2.2.2⟩ ⟨hc, hs⟩ dL_law_785 (fun r nb3 S3 z3 hp => ?_)
  refine hr_wide (c' := c + 2) (sl' := sl + 15) (show c + 2 + 0 ≤ c + 2 from Nat.le_refl _) (show sl + 15 + 0 ≤ sl + 15 from Nat.le_refl _) ?_
  obtain ⟨e1, J3, ans, e2, hag⟩ := hPo _ _ _ _ hp
  subst e1
  obtain rfl := Sum.inl.inj e2
  refine hr_icmp_eq (tgt := 793) G dL_law_788 (by decide) (fun _ => ?_) (fun h => absurd hag.symm h)
  refine hr_L (L' := lw_L B b t) (hw_s1 rfl (hw_s1 rfl (hw_s1 rfl (hw_s1 rfl (hw_s1 rfl hw_s0))))) ?_
  exact K _ _ _ J3
