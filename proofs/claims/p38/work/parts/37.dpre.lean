/-! A DEED IN THE MAKING: a cell at x that the state doesn't own yet; what the face answers -/
theorem g_ldcSW {p : Program} {l : Launch} {e : Env} {R : Room} {s : State} {m : MethodId} {args : Array Value} {below : List Frame} {meth : Method} {c : Code} {H : Heap} {locs : List Loc} {cells slots : Nat} {Q : State → Prop} {E : gV} {own tx : String} {cc : ByteArray} {nL : Nat} {rest : List Value} {pc : Nat} {ls : Array Slot} {index q : Nat} (hC : gC l E p s m meth c own cc nL) (hZ : vk_R own index tx q E.2.1) (hdg : decode cc pc = .ok (.ldc_w index, 3))
    (k : W p l e R s m args below meth c H locs cells slots Q (F0 m (pc + 3) ls (.ref q :: rest))) : W p l e R s m args below meth c H locs cells slots Q (F0 m pc ls rest) := by
  have hZ2 := vk_R.warm hC.2.1 hZ
  intro T hT X
  obtain ⟨t, a1, b1⟩ := k T hT X
  exact ⟨t, X.ldcStringW hC.2.2.1 hC.2.2.2.2.2.1 (text := tx) (a := q) hZ2.1 hZ2.2 (g := F0 m pc ls rest) rfl (by rw [hC.2.2.2.1]; exact hdg) t a1, b1⟩
theorem fl_in {v : F2} {td s r : Int32} {p : Nat} (h : r = fl v td s p) (c : ¬ r = 45) : r = 107 ∨ r = 100 ∨ r = 118 ∨ r = 108 ∨ r = 104 := by
  subst h
  rcases fl_is v td s p with h | h | h | h
  · exact Or.inr (Or.inl h)
  · exact Or.inr (Or.inr (Or.inl h))
  · exact Or.inr (Or.inr (Or.inr (Or.inl h)))
  · exact absurd h c
theorem fl_fit (v : F2) (td s : Int32) (p : Nat) : fits .char (.int (fl v td s p)) = true := by
  rcases fl_is v td s p with h | h | h | h <;> rw [h] <;> rfl
theorem x_putD {p : Program} {l : Launch} {e : Env} {R : Room} {s : State} {m₀ : MethodId} {args : Array Value} {below : List Frame} {meth : Method} {c : Code} {H H0 : Heap} {locs : List Loc} {cells slots : Nat} {Q : State → Prop} {E : gV} {own : String} {cc : ByteArray} {nL : Nat} {rest : List Value} {pc : Nat} {ls : Array Slot} {B : Nat → Prop} {α : Nat → Nat → Nat} {ξ : F2} {M : Nat → F2} {N : Nat → Nat} {y : Int32} {index x d : Nat} {δ : Nat → Int32} (k : Nat) (hk : k < 16) (hC : gC l E p s m₀ meth c own cc nL) (hRB : RB E B α ξ M N H) (hD : gD E x d δ H) (hxE : E.2.1.heap.size ≤ x) (hxn : ∀ k i, xV N k i → α k i ≠ x) (hxB : ¬ B x) (hS : va_S (gAB E B) H0 H locs)
    (hl : Cond.fieldLink own index (TX0 k).1 (TX0 k).2.1 (TX0 k).2.2.1 ∈ lw_tbl) (hfin : (TX0 k).2.2.2 = false) (hn : narrow (tyX0 k) (.int y) = .int y) (hfit : fits (tyX0 k) (.int y) = true)
    (he : ([.int (nI d), .int (δ 1), .int (δ 2), .int (δ 3), .int (δ 4), .int (δ 5), .int (δ 6), .int (δ 7), .int (δ 8), .int (δ 9), .int (δ 10), .int (δ 11), .int (δ 12), .int (δ 13), .int (δ 14), .int (δ 15)] : List Value).set k (.int y) = [.int (nI d), .int (upd δ k y 1), .int (upd δ k y 2), .int (upd δ k y 3), .int (upd δ k y 4), .int (upd δ k y 5), .int (upd δ k y 6), .int (upd δ k y 7), .int (upd δ k y 8), .int (upd δ k y 9), .int (upd δ k y 10), .int (upd δ k y 11), .int (upd δ k y 12), .int (upd δ k y 13), .int (upd δ k y 14), .int (upd δ k y 15)])
    (hdg : decode cc pc = .ok (.putfield index, 3))
    (kk : ∀ (H1 : Heap) (locs1 : List Loc), RB E B α ξ M N H1 → gD E x d (upd δ k y) H1 → va_S (gAB E B) H0 H1 locs1 → W p l e R s m₀ args below meth c H1 locs1 cells slots Q (F0 m₀ (pc + 3) ls rest)) : W p l e R s m₀ args below meth c H locs cells slots Q (F0 m₀ pc ls (.int y :: .ref x :: rest)) := by
  refine g_put hC hD hS ⟨hxE, hxB⟩ (C := RX0) (T := TX0) (N := 16) rfl u0_in tyX0 tyX0_ok nmX0 k hk hl (Or.inl hfin) (tyX0_ok k hk) hn hfit (by exact hk) hdg (fun H1 locs1 h1 hz h2 h3 => ?_)
  rw [he] at h1
  exact kk H1 locs1 (hRB.keepN hxn hxE (by omega) (fun q _ hq => h2 q hq)) h1 h3
theorem dL_u {δ : Nat → Int32} {L : Int32 × Int32 × Int32} {a b c : Int32} : upd (upd (upd (dL δ L) 10 a) 11 b) 12 c = dL δ (a, b, c) := by
  funext k
  unfold upd dL
  by_cases h1 : k = 10
  · subst h1; rfl
  · by_cases h2 : k = 11
    · subst h2; rfl
    · by_cases h3 : k = 12
      · subst h3; rfl
      · simp only [if_neg h1, if_neg h2, if_neg h3]
theorem dL_0 {δ : Nat → Int32} (h11 : δ 11 = -1) (h12 : δ 12 = 0) : upd δ 10 107 = dL δ (107, -1, 0) := by
  funext k
  unfold upd dL
  by_cases h1 : k = 10
  · subst h1; rfl
  · by_cases h2 : k = 11
    · subst h2
      simp only [if_neg h1]
      exact h11
    · by_cases h3 : k = 12
      · subst h3
        simp only [if_neg h1, if_neg h2]
        exact h12
      · simp only [if_neg h1, if_neg h2, if_neg h3]
noncomputable def nL1 (v : F2) (td s : Int32) (i : Nat) (L : Int32 × Int32 × Int32) : Int32 × Int32 × Int32 := cif (fOrd L.1 < fOrd (if fl v td s i = 45 then 104 else fl v td s i)) ((if fl v td s i = 45 then 104 else fl v td s i), nI i, if fl v td s i = 45 then 0 else nI (dpt v td s i)) L
theorem fLk_in (v : F2) (td i j k s : Int32) (n : Nat) : (fLk v td i j k s n).1 = 107 ∨ (fLk v td i j k s n).1 = 100 ∨ (fLk v td i j k s n).1 = 118 ∨ (fLk v td i j k s n).1 = 108 ∨ (fLk v td i j k s n).1 = 104 := by
  induction n with
  | zero => exact Or.inl rfl
  | succ n ih =>
    by_cases c : v 6 n = k ∧ (fAct v i (v 5 n) ∨ (0 ≤ j ∧ fAct v j (v 5 n))) ∧ fOrd (fLk v td i j k s n).1 < fOrd (if fl v td s n = 45 then 104 else fl v td s n)
    · have e : fLk v td i j k s (n + 1) = _ := cif_pos c
      rw [e]
      simp only
      by_cases h : fl v td s n = 45
      · rw [if_pos h]
        exact Or.inr (Or.inr (Or.inr (Or.inr rfl)))
      · rw [if_neg h]
        exact fl_in rfl h
    · have e : fLk v td i j k s (n + 1) = _ := cif_neg c
      rw [e]
      exact ih
theorem fLk_y {v : F2} {td i j k s : Int32} {n : Nat} (h6 : v 6 n = k) (ha : fAct v i (v 5 n) ∨ (¬ j = -1 ∧ fAct v j (v 5 n))) (hj : j = -1 ∨ ¬ j < 0) : nL1 v td s n (fLk v td i j k s n) = fLk v td i j k s (n + 1) := by
  have hj2 : fAct v i (v 5 n) ∨ (0 ≤ j ∧ fAct v j (v 5 n)) := ha.imp id (fun z => ⟨Int32.not_lt.mp (hj.resolve_left z.1), z.2⟩)
  show cif _ _ _ = cif _ _ _
  exact cif_iff ⟨fun z => ⟨h6, hj2, z⟩, fun z => z.2.2⟩
theorem fLk_n {v : F2} {td i j k s : Int32} {n : Nat} (h : ¬ (v 6 n = k ∧ (fAct v i (v 5 n) ∨ (¬ j = -1 ∧ fAct v j (v 5 n))))) : fLk v td i j k s (n + 1) = fLk v td i j k s n :=
  cif_neg (fun z => h ⟨z.1, z.2.1.imp id (fun z => ⟨fun e => by rw [e] at z; exact absurd z.1 (by decide), z.2⟩)⟩)
/-- the deed that is kept -/
noncomputable def kSum (ξ : F2) (M : Nat → F2) (N : Nat → Nat) (δ : Nat → Int32) : Int32 := fAdd (xw ξ) (fun t => ¬ M 0 3 t = 0) (M 0 5 0) (M 0 4 0) (δ 3) (δ 5) (N 1) (δ 4)
def kRow (M : Nat → F2) (N : Nat → Nat) (δ : Nat → Int32) (S : Int32) : Nat → Int32 := upd (upd (upd δ 6 (M 0 5 0)) 7 (nI (N 2))) 8 S
noncomputable def kDeed (ξ : F2) (M : Nat → F2) (N : Nat → Nat) (δ : Nat → Int32) : Nat → Int32 := cif (mOk (xv ξ (M 0)) (N 0) (M 0 5 0) (δ 1) (δ 2) (δ 3) (kSum ξ M N δ)) (upd (kRow M N δ (kSum ξ M N δ)) 9 115) (dL (upd (kRow M N δ (kSum ξ M N δ)) 9 119) (fLk (xv ξ (M 0)) (M 0 5 0) (δ 1) (δ 2) (δ 3) (kSum ξ M N δ) (N 0)))
/-- the face's answer -/
def xPost (E : gV) (B : Nat → Prop) (a0 code : Nat) (ξ' m' : F2) (N' : Nat → Nat) (Pv : Prop) (H : Heap) : Prop := code = 0 ∧ Pv ∧ ∃ (α' : Nat → Nat → Nat) (M' : Nat → F2), RB E B α' ξ' M' N' H ∧ M' 0 = m' ∧ α' 3 0 = a0
theorem xPost_0 {E : gV} {B : Nat → Prop} {a0 code : Nat} {ξ' m' ξ2 : F2} {N' N2 : Nat → Nat} {Pv : Prop} {H : Heap} {α' : Nat → Nat → Nat} {M' : Nat → F2} (hk : code = 0) (h : RB E B α' ξ2 M' N2 H) (hm : M' 0 = m') (ha : α' 3 0 = a0) (hξ : ξ2 = ξ') (hN : N2 = N') (hv : Pv) : xPost E B a0 code ξ' m' N' Pv H := ⟨hk, hv, α', M', by rw [← hξ, ← hN]; exact h, hm, ha⟩
def pwV (h k ha fi la src : Int32) : Nat → Int32 := fun r => if r = 1 then h else if r = 2 then k else if r = 3 then ha else if r = 4 then fi else if r = 5 then la else src
def ddV (p o k a pa : Int32) : Nat → Int32 := fun r => if r = 1 then p else if r = 2 then o else if r = 3 then k else if r = 4 then a else if r = 5 then pa else if r = 10 then 45 else if r = 11 then -1 else if r = 13 then -1 else 0
theorem x_putS {p : Program} {l : Launch} {e : Env} {R : Room} {s : State} {m₀ : MethodId} {args : Array Value} {below : List Frame} {meth : Method} {c : Code} {H H0 : Heap} {locs : List Loc} {cells slots : Nat} {Q : State → Prop} {E : gV} {own : String} {cc : ByteArray} {nL : Nat} {rest : List Value} {pc : Nat} {ls : Array Slot} {B : Nat → Prop} {α : Nat → Nat → Nat} {ξ : F2} {M : Nat → F2} {N : Nat → Nat} {index n : Nat} (hn : n ≤ 8) (hge : N 3 ≤ n) (hC : gC l E p s m₀ meth c own cc nL) (hRB : RB E B α ξ M N H) (hS : va_S (gAB E B) H0 H locs) (hl : Cond.fieldLink own index (TX4 5).1 (TX4 5).2.1 (TX4 5).2.2.1 ∈ lw_tbl) (hdg : decode cc pc = .ok (.putfield index, 3))
    (kk : ∀ (H1 : Heap) (locs1 : List Loc), RB E B α ξ M (updN N 3 n) H1 → va_S (gAB E B) H0 H1 locs1 → W p l e R s m₀ args below meth c H1 locs1 cells slots Q (F0 m₀ (pc + 3) ls rest)) : W p l e R s m₀ args below meth c H locs cells slots Q (F0 m₀ pc ls (.int (nI n) :: .ref (α 3 0) :: rest)) := by
  refine g_put hC hRB.1.sig hS (hRB.own (xV_3 (by omega))) (C := RX4) (T := TX4) (N := 6) rfl u4_in tyX4 tyX4_ok nmX4 5 (by omega) hl (Or.inl rfl) (tyX4_ok 5 (by omega)) rfl rfl (show 5 < 6 by omega) hdg (fun H1 locs1 h1 hz h2 h3 => ?_)
  have hV : ∀ k i, xV (updN N 3 n) k i → xV N k i := fun k i v => by
    have e : ∀ k, k < 3 → updN N 3 n k = N k := fun k hk => if_neg (by omega)
    rcases v with ⟨hk, hi⟩ | ⟨rfl, hi | ⟨j, hj, rfl, h0⟩⟩
    · rw [e k hk] at hi; exact Or.inl ⟨hk, hi⟩
    · exact xV_3 hi
    · rw [e j hj] at h0; exact Or.inr ⟨rfl, Or.inr ⟨j, hj, rfl, h0⟩⟩
  exact kk H1 locs1 ⟨hRB.1.setSig n hn hge h1 h2, fun k i v => hRB.2.1 k i (hV k i v), fun q hb => by have := hRB.2.2 q hb; omega⟩ h3
/-- a kept deed's field -/
theorem x_putK {p : Program} {l : Launch} {e : Env} {R : Room} {s : State} {m₀ : MethodId} {args : Array Value} {below : List Frame} {meth : Method} {c : Code} {H H0 : Heap} {locs : List Loc} {cells slots : Nat} {Q : State → Prop} {E : gV} {own : String} {cc : ByteArray} {nL : Nat} {rest : List Value} {pc : Nat} {ls : Array Slot} {B : Nat → Prop} {α : Nat → Nat → Nat} {ξ : F2} {M : Nat → F2} {N : Nat → Nat} {y : Int32} {index i : Nat} (k : Nat) (hk : k < 16) (hk6 : 6 ≤ k) (hi : i < N 1) (hC : gC l E p s m₀ meth c own cc nL) (hRB : RB E B α ξ M N H) (hS : va_S (gAB E B) H0 H locs)
    (hl : Cond.fieldLink own index (TX0 k).1 (TX0 k).2.1 (TX0 k).2.2.1 ∈ lw_tbl) (hfin : (TX0 k).2.2.2 = false) (hn : narrow (tyX0 k) (.int y) = .int y) (hfit : fits (tyX0 k) (.int y) = true)
    (he : ([.int (nI i), .int (ξ 11 i), .int (ξ 12 i), .int (ξ 13 i), .int (ξ 14 i), .int (ξ 15 i), .int (ξ 16 i), .int (ξ 17 i), .int (ξ 18 i), .int (ξ 19 i), .int (ξ 20 i), .int (ξ 21 i), .int (ξ 22 i), .int (ξ 23 i), .int (ξ 24 i), .int (ξ 25 i)] : List Value).set k (.int y) = [.int (nI i), .int (ξ 11 i), .int (ξ 12 i), .int (ξ 13 i), .int (ξ 14 i), .int (ξ 15 i), .int (if k = 6 then y else ξ 16 i), .int (if k = 7 then y else ξ 17 i), .int (if k = 8 then y else ξ 18 i), .int (if k = 9 then y else ξ 19 i), .int (if k = 10 then y else ξ 20 i), .int (if k = 11 then y else ξ 21 i), .int (if k = 12 then y else ξ 22 i), .int (if k = 13 then y else ξ 23 i), .int (if k = 14 then y else ξ 24 i), .int (if k = 15 then y else ξ 25 i)])
    (hdg : decode cc pc = .ok (.putfield index, 3))
    (kk : ∀ (H1 : Heap) (locs1 : List Loc), RB E B α (up2 ξ (10 + k) i y) M N H1 → va_S (gAB E B) H0 H1 locs1 → W p l e R s m₀ args below meth c H1 locs1 cells slots Q (F0 m₀ (pc + 3) ls rest)) : W p l e R s m₀ args below meth c H locs cells slots Q (F0 m₀ pc ls (.int y :: .ref (α 1 i) :: rest)) := by
  refine g_put hC (hRB.1.deed hi) hS (hRB.own (Or.inl ⟨by omega, hi⟩)) (C := RX0) (T := TX0) (N := 16) rfl u0_in tyX0 tyX0_ok nmX0 k hk hl (Or.inl hfin) (tyX0_ok k hk) hn hfit (by exact hk) hdg (fun H1 locs1 h1 hz h2 h3 => ?_)
  rw [he] at h1
  have e : ∀ r, up2 ξ (10 + k) i y r i = if r = 10 + k then y else ξ r i := fun r => by
    by_cases c : r = 10 + k
    · subst c
      rw [up2_k, if_pos rfl, if_pos rfl]
    · rw [up2_o c, if_neg c]
  have e2 : ∀ r : Nat, (if 10 + r = 10 + k then y else ξ (10 + r) i) = if k = r then y else ξ (10 + r) i := fun r => by
    by_cases c : k = r
    · rw [if_pos c, if_pos (by omega)]
    · rw [if_neg c, if_neg (by omega)]
  refine kk H1 locs1 ⟨hRB.1.setDeed (ξ' := up2 ξ (10 + k) i y) hi ?_ (fun q _ hq => h2 q hq) (fun r j hr => ?_), hRB.2.1, fun q hb => by have := hRB.2.2 q hb; omega⟩ h3
  · rw [e 11, e 12, e 13, e 14, e 15, e 16, e 17, e 18, e 19, e 20, e 21, e 22, e 23, e 24, e 25]
    rw [if_neg (show ¬ 11 = 10 + k by omega), if_neg (show ¬ 12 = 10 + k by omega), if_neg (show ¬ 13 = 10 + k by omega), if_neg (show ¬ 14 = 10 + k by omega), if_neg (show ¬ 15 = 10 + k by omega)]
    rw [show (if 16 = 10 + k then y else ξ 16 i) = _ from e2 6, show (if 17 = 10 + k then y else ξ 17 i) = _ from e2 7, show (if 18 = 10 + k then y else ξ 18 i) = _ from e2 8, show (if 19 = 10 + k then y else ξ 19 i) = _ from e2 9, show (if 20 = 10 + k then y else ξ 20 i) = _ from e2 10, show (if 21 = 10 + k then y else ξ 21 i) = _ from e2 11, show (if 22 = 10 + k then y else ξ 22 i) = _ from e2 12, show (if 23 = 10 + k then y else ξ 23 i) = _ from e2 13, show (if 24 = 10 + k then y else ξ 24 i) = _ from e2 14, show (if 25 = 10 + k then y else ξ 25 i) = _ from e2 15]
    exact h1
  · by_cases c : r = 10 + k
    · subst c
      rw [up2_k, if_neg (by omega)]
    · rw [up2_o c]
theorem fBit_hd (h : Int32) : fBit h = 0 ↔ ¬ isHd h := by
  unfold fBit
  by_cases c1 : h = 115
  · subst c1; decide
  · by_cases c2 : h = 97
    · subst c2; decide
    · by_cases c3 : h = 98
      · subst c3; decide
      · simp [c1, c2, c3]
theorem fStep_m1 {v : F2} {td s : Int32} {p : Nat} (h : dpt v td s p ≤ p) (hp : p < 2 ^ 31) : fStep v td s p = -1 ↔ fl v td s p = 45 := by
  unfold fStep
  by_cases c : fl v td s p = 45
  · simp [c]
  · rw [if_neg c]
    exact ⟨fun z => absurd (show nI (dpt v td s p) < 0 by rw [z]; decide) (nI_pos (by omega)), fun z => absurd z c⟩
theorem bts_b1 (P Q R : Prop) : bts P Q R &&& 1 = 0 ↔ ¬ P := by
  by_cases p : P <;> by_cases q : Q <;> by_cases r : R <;> simp only [bts, cif_pos, cif_neg, p, q, r, not_false_eq_true, not_true_eq_false, iff_true, iff_false] <;> decide
theorem bts_b2 (P Q R : Prop) : bts P Q R &&& 2 = 0 ↔ ¬ Q := by
  by_cases p : P <;> by_cases q : Q <;> by_cases r : R <;> simp only [bts, cif_pos, cif_neg, p, q, r, not_false_eq_true, not_true_eq_false, iff_true, iff_false] <;> decide
theorem bts_b4 (P Q R : Prop) : bts P Q R &&& 4 = 0 ↔ ¬ R := by
  by_cases p : P <;> by_cases q : Q <;> by_cases r : R <;> simp only [bts, cif_pos, cif_neg, p, q, r, not_false_eq_true, not_true_eq_false, iff_true, iff_false] <;> decide
theorem bts_b6 (P Q R : Prop) : bts P Q R = 6 ↔ ¬ P ∧ Q ∧ R := by
  by_cases p : P <;> by_cases q : Q <;> by_cases r : R <;> simp only [bts, cif_pos, cif_neg, p, q, r, not_false_eq_true, not_true_eq_false, and_true, and_false, true_and, false_and, iff_true, iff_false] <;> decide
def fPX (n o a b c : Nat) : Int32 := nI (n * (n - 1) / 2) - nI (o * (o - 1) / 2) + (nI a * nI b - nI c - nI (c * (c - 1) / 2))
noncomputable def fTr (C : Nat → Nat → Prop) (n : Nat) : Nat → Nat
  | 0 => 0
  | q + 1 => fTr C n q + fCnt (fun o => q < o ∧ C q o) n
theorem fCnt_z {P : Nat → Prop} : ∀ {n : Nat}, (∀ i, i < n → ¬ P i) → fCnt P n = 0 := by
  intro n
  induction n with
  | zero => intro _; rfl
  | succ n ih => intro h; rw [fCnt_f (h n (by omega))]; exact ih (fun i hi => h i (by omega))
theorem fTr_0 {C : Nat → Prop} {a p : Nat} : nI (a + fCnt (fun o => p < o ∧ C o) (p + 1)) = nI a := by
  rw [fCnt_z (fun i hi z => by omega)]; rfl
noncomputable def kLackX (lk : Nat → Int32) (nd : Nat) (d : Int32) : Nat := cif (¬ isP nd d) 1 (cif (lk (ix d) = 45) 2 0)
noncomputable def kLackY (lk : Nat → Int32) (nd : Nat) (d : Int32) : Nat := cif (¬ isP nd d) 1 (cif (lk (ix d) = 45 ∨ lk (ix d) = 107) 2 0)
/-- a deed judged anew -/
noncomputable def pSum (ξ : F2) (pk d : Nat) : Int32 := fAdd (xw ξ) (fun t => ¬ rp ξ (ξ 16 d) pk 3 t = 0) (rp ξ (ξ 16 d) pk 5 0) (rp ξ (ξ 16 d) pk 4 0) (ξ 13 d) (ξ 15 d) d (ξ 14 d)
def pStd (ξ : F2) (n0 n2 pk d : Nat) : Prop := mOk (xv ξ (rp ξ (ξ 16 d) pk)) n0 (rp ξ (ξ 16 d) pk 5 0) (ξ 11 d) (ξ 12 d) (ξ 13 d) (pSum ξ pk d) ∨ (¬ ξ 23 d = -1 ∧ ∃ pr, pr ≤ n2 ∧ ξ 25 d = nI pr ∧ fHas (xv ξ (rp ξ (ξ 24 d) pr)) n0 (rp ξ (ξ 24 d) pr 5 0) (ξ 23 d) (ξ 13 d) 115 (pSum ξ pk d))
