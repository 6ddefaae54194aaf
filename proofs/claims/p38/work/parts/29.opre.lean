/-! A MOMENT by itself: its object and its four arrays -/
def gMo (E : gV) (q : Nat → Nat) (m : F2) (H : Heap) : Prop :=
  gA E (q 0) (.inr (2, [.ref (q 1), .ref (q 2), .ref (q 3), .ref (q 4), .int (m 4 0), .int (m 5 0)])) H ∧ (∀ k, k < 4 → gA E (q (k + 1)) (.inl (E.2.2.2 (xT k), xN k, .inl (m k))) H) ∧ ∀ i j, i < 5 → j < 5 → q i = q j → i = j
abbrev oA (q : Nat → Nat) : Nat → Prop := fun z => ∃ k, k < 5 ∧ z = q k
theorem gMo.arr {E : gV} {q : Nat → Nat} {m : F2} {H : Heap} (h : gMo E q m H) (k : Nat) (hk : k < 4) {t n : Nat} (ht : xT k = t) (hn : xN k = n) : gA E (q (k + 1)) (.inl (E.2.2.2 t, n, .inl (m k))) H := by
  subst ht hn
  exact h.2.1 k hk
theorem gMo.setArr {E : gV} {q : Nat → Nat} {m : F2} {H H1 : Heap} (h : gMo E q m H) (k : Nat) (hk : k < 4) {t n : Nat} (ht : xT k = t) (hn : xN k = n) {g : Nat → Int32} (h1 : gA E (q (k + 1)) (.inl (E.2.2.2 t, n, .inl g)) H1) (h2 : ∀ z : Nat, z ≠ q (k + 1) → H1[z]? = H[z]?) : gMo E q (upA m k g) H1 := by
  subst ht hn
  refine ⟨?_, fun j hj => ?_, h.2.2⟩
  · rw [upA_n m g (by omega), upA_n m g (by omega)]
    exact h.1.kept (h2 _ (fun z => absurd (h.2.2 0 (k + 1) (by omega) (by omega) z) (by omega)))
  · by_cases hjk : j = k
    · subst hjk
      rw [upA_s]
      exact h1
    · rw [upA_n m g hjk]
      exact (h.2.1 j hj).kept (h2 _ (fun z => hjk (by have := h.2.2 (j + 1) (k + 1) (by omega) (by omega) z; omega)))
theorem gMo.setObj {E : gV} {q : Nat → Nat} {m m' : F2} {H H1 : Heap} (h : gMo E q m H) (hm : ∀ k, k < 4 → m' k = m k) (h1 : gA E (q 0) (.inr (2, [.ref (q 1), .ref (q 2), .ref (q 3), .ref (q 4), .int (m' 4 0), .int (m' 5 0)])) H1) (h2 : ∀ z : Nat, z ≠ q 0 → H1[z]? = H[z]?) : gMo E q m' H1 :=
  ⟨h1, fun k hk => by rw [hm k hk]; exact (h.2.1 k hk).kept (h2 _ (fun z => absurd (h.2.2 (k + 1) 0 (by omega) (by omega) z) (by omega))), h.2.2⟩
theorem gMo.kept {E : gV} {q : Nat → Nat} {m : F2} {H H1 : Heap} (h : gMo E q m H) (h2 : ∀ k, k < 5 → H1[q k]? = H[q k]?) : gMo E q m H1 :=
  ⟨h.1.kept (h2 0 (by omega)), fun k hk => (h.2.1 k hk).kept (h2 (k + 1) (by omega)), h.2.2⟩
theorem gMo.norm {E : gV} {q : Nat → Nat} {m m' : F2} {H : Heap} (h : gMo E q m H) (h1 : ∀ k, k < 4 → ∀ i, i < xN k → m k i = m' k i) (h4 : m 4 0 = m' 4 0) (h5 : m 5 0 = m' 5 0) : gMo E q m' H :=
  ⟨by rw [← h4, ← h5]; exact h.1, fun k hk => (h.2.1 k hk).row (h1 k hk), h.2.2⟩
/-- a moment with no paper taken -/
def mZ : F2 := fun k => match k with
  | 2 => fun _ => -2
  | 4 => fun _ => 30
  | _ => fun _ => 0
/-- a paper is taken -/
noncomputable def tk (m : F2) (a b v : Int32) : F2 := cif (a = 0 ∧ isP 20 b) (up2 m 0 (ix b) v) (cif (a = 1 ∧ isP 20 b) (up2 m 1 (ix b) 1) (cif (a = 2 ∧ isP 8 b) (up2 m 2 (ix b) v) (cif (a = 3) (up2 m 4 0 v) (cif (a = 4 ∧ isP 24 b) (up2 m 3 (ix b) 1) m))))
abbrev gMz (E : gV) (q : Nat → Nat) (m : F2) (sz : Nat) (H : Heap) : Prop := gMo E q m H ∧ H.size = sz
section ORULES
variable {p : Program} {l : Launch} {e : Env} {R : Room} {s : State} {m₀ : MethodId} {args : Array Value} {below : List Frame} {meth : Method} {c : Code} {H H0 : Heap} {locs : List Loc} {cells slots : Nat} {Q : State → Prop} {E : gV} {own : String} {cc : ByteArray} {nL : Nat} {rest : List Value} {pc : Nat} {ls : Array Slot} {q : Nat → Nat} {m m' : F2} {sz : Nat}
theorem o_put {x : Int32} {index : Nat} (k : Nat) (hk : k = 4 ∨ k = 5) (hC : gC l E p s m₀ meth c own cc nL) (hR : gMz E q m sz H) (hS : va_S (oA q) H0 H locs) (hl : Cond.fieldLink own index (TX1 k).1 (TX1 k).2.1 (TX1 k).2.2.1 ∈ lw_tbl) (hdg : decode cc pc = .ok (.putfield index, 3))
    (kk : ∀ (H1 : Heap) (locs1 : List Loc), gMz E q (up2 m k 0 x) sz H1 → va_S (oA q) H0 H1 locs1 → W p l e R s m₀ args below meth c H1 locs1 cells slots Q (F0 m₀ (pc + 3) ls rest)) : W p l e R s m₀ args below meth c H locs cells slots Q (F0 m₀ pc ls (.int x :: .ref (q 0) :: rest)) := by
  rcases hk with rfl | rfl
  · refine g_put hC hR.1.1 hS ⟨0, by omega, rfl⟩ (C := RX1) (T := TX1) (N := 6) rfl u1_in tyX1 tyX1_ok nmX1 4 (by omega) hl (Or.inl rfl) (tyX1_ok 4 (by omega)) rfl rfl (show 4 < 6 by omega) hdg (fun H1 locs1 h1 hz h2 h3 => kk H1 locs1 ⟨hR.1.setObj (fun j hj => upA_n _ _ (by omega)) ?_ h2, hz.trans hR.2⟩ h3)
    exact h1
  · refine g_put hC hR.1.1 hS ⟨0, by omega, rfl⟩ (C := RX1) (T := TX1) (N := 6) rfl u1_in tyX1 tyX1_ok nmX1 5 (by omega) hl (Or.inl rfl) (tyX1_ok 5 (by omega)) rfl rfl (show 5 < 6 by omega) hdg (fun H1 locs1 h1 hz h2 h3 => kk H1 locs1 ⟨hR.1.setObj (fun j hj => upA_n _ _ (by omega)) ?_ h2, hz.trans hR.2⟩ h3)
    exact h1
theorem o_iast {x : Int32} {n j : Nat} (k : Nat) (hk : k < 4) (ht : xT k = 0) (hn : xN k = n) (hC : gC l E p s m₀ meth c own cc nL) (hR : gMz E q m sz H) (hS : va_S (oA q) H0 H locs) (hj : j < n) (hdg : decode cc pc = .ok (.iastore, 1))
    (kk : ∀ (H1 : Heap) (locs1 : List Loc), gMz E q (up2 m k j x) sz H1 → va_S (oA q) H0 H1 locs1 → W p l e R s m₀ args below meth c H1 locs1 cells slots Q (F0 m₀ (pc + 1) ls rest)) : W p l e R s m₀ args below meth c H locs cells slots Q (F0 m₀ pc ls (.int x :: .int (nI j) :: .ref (q (k + 1)) :: rest)) := by
  have hb : n < 2 ^ 31 := by rw [← hn]; unfold xN; (repeat' split) <;> omega
  exact g_iast hC (hR.1.arr k hk ht hn) hS ⟨k + 1, by omega, rfl⟩ hj hb hdg (fun H1 locs1 h1 hz h2 h3 => kk H1 locs1 ⟨hR.1.setArr k hk ht hn h1 h2, hz.trans hR.2⟩ h3)
theorem o_zast {x : Int32} {n j : Nat} (k : Nat) (hk : k < 4) (ht : xT k = 1) (hn : xN k = n) (hC : gC l E p s m₀ meth c own cc nL) (hR : gMz E q m sz H) (hS : va_S (oA q) H0 H locs) (hj : j < n) (hx : narrow .boolean (.int x) = .int x) (hdg : decode cc pc = .ok (.bastore, 1))
    (kk : ∀ (H1 : Heap) (locs1 : List Loc), gMz E q (up2 m k j x) sz H1 → va_S (oA q) H0 H1 locs1 → W p l e R s m₀ args below meth c H1 locs1 cells slots Q (F0 m₀ (pc + 1) ls rest)) : W p l e R s m₀ args below meth c H locs cells slots Q (F0 m₀ pc ls (.int x :: .int (nI j) :: .ref (q (k + 1)) :: rest)) := by
  have hb : n < 2 ^ 31 := by rw [← hn]; unfold xN; (repeat' split) <;> omega
  exact g_zast hC (hR.1.arr k hk ht hn) hS ⟨k + 1, by omega, rfl⟩ hj hb hx hdg (fun H1 locs1 h1 hz h2 h3 => kk H1 locs1 ⟨hR.1.setArr k hk ht hn h1 h2, hz.trans hR.2⟩ h3)
end ORULES
theorem up2_k {m : F2} {k j i : Nat} {x : Int32} : up2 m k j x k i = if i = j then x else m k i := by
  unfold up2
  rw [upA_s]
  rfl
theorem up2_o {m : F2} {k k' j i : Nat} {x : Int32} (h : k' ≠ k) : up2 m k j x k' i = m k' i := by
  unfold up2
  rw [upA_n _ _ h]
theorem mZ_of {E : gV} {q : Nat → Nat} {m : F2} {H : Heap} (h : gMo E q (up2 (up2 m 4 0 30) 5 0 0) H) (h0 : ∀ i, i < 20 → m 0 i = 0) (h1 : ∀ i, i < 20 → m 1 i = 0) (h2 : ∀ i, i < 8 → m 2 i = -2) (h3 : ∀ i, i < 24 → m 3 i = 0) : gMo E q mZ H := by
  refine h.norm (fun k hk i hi => ?_) rfl rfl
  rw [up2_o (by omega), up2_o (by omega)]
  rcases (by omega : k = 0 ∨ k = 1 ∨ k = 2 ∨ k = 3) with rfl | rfl | rfl | rfl
  · exact h0 i hi
  · exact h1 i hi
  · exact h2 i hi
  · exact h3 i hi
section NRULES
variable {p : Program} {l : Launch} {e : Env} {R : Room} {s : State} {m : MethodId} {args : Array Value} {below : List Frame} {meth : Method} {c : Code} {H H0 : Heap} {locs : List Loc} {cells slots : Nat} {Q : State → Prop} {E : gV} {own : String} {cc : ByteArray} {nL : Nat} {rest : List Value} {pc : Nat} {ls : Array Slot} {A : Nat → Prop}
theorem g_nwa (t : Nat) {atype : ArrayType} {ty : FieldType} {q n : Nat} (hq : H.size = q) (hC : gC l E p s m meth c own cc nL) (harr : Cond.arrayClass (newarray.typeOf atype) ∈ lw_tbl) (hty : newarray.typeOf atype = ty) (ht : (gT E.2.2.2)[t]? = some (E.2.2.2 t, ty)) (hob : ∀ C, ty ≠ .object C) (hd : defaultValue ty = .int 0) (hcb : componentBytes ty ≤ 8) (hn : n ≤ 1000)
    (hS : va_S A H0 H locs) (hA : ∀ q, H0.size ≤ q → A q) (hcells : cells + 1 ≤ R.cells) (hslots : slots + n ≤ R.slots) (hdg : decode cc pc = .ok (.newarray atype, 2))
    (kk : ∀ (H1 : Heap), gA E q (.inl (E.2.2.2 t, n, .inl (fun _ => 0))) H1 → H1.size = q + 1 → (∀ z : Nat, z < q → H1[z]? = H[z]?) → va_S A H0 H1 locs → W p l e R s m args below meth c H1 locs (cells + 1) (slots + n) Q (F0 m (pc + 2) ls (.ref q :: rest))) : W p l e R s m args below meth c H locs cells slots Q (F0 m pc ls (.int (nI n) :: rest)) := by
  subst hq
  exact g_newa t (a0 := (n, .inl (fun _ => 0))) hC harr hty ht hob (fun cA => by rw [vp_cell_i, hd]) (by omega) (Nat.le_trans (Nat.mul_le_mul hn hcb) (by decide)) hS hA hcells hslots hdg kk
theorem g_nwo {C : String} {T : u_T} {N ci index q : Nat} (hq : H.size = q) (hC : gC l E p s m meth c own cc nL) (hc : vwCl[ci]? = some (C, T, N)) (hu : ∀ w ∈ u_ws C T N, w ∈ lw_tbl) (ty : Nat → FieldType) (hty : ∀ k, k < N → parseFieldDescriptor (T k).2.2.1 = some (ty k)) (hcl : Cond.classLink own index C ∈ lw_tbl) (hinst : Cond.instantiable C N ∈ lw_tbl) (hini : Cond.initialized C ∈ lw_tbl)
    {fs : List Value} (hfs : ∀ j, j < N → defaultValue (ty j) = vp_V fs j) (hS : va_S A H0 H locs) (hA : ∀ q, H0.size ≤ q → A q) (hcells : cells + 1 ≤ R.cells) (hslots : slots + N ≤ R.slots) (hdg : decode cc pc = .ok (.new index, 3))
    (kk : ∀ (H1 : Heap), gA E q (.inr (ci, fs)) H1 → H1.size = q + 1 → (∀ z : Nat, z < q → H1[z]? = H[z]?) → va_S A H0 H1 locs → W p l e R s m args below meth c H1 locs (cells + 1) (slots + N) Q (F0 m (pc + 3) ls (.ref q :: rest))) : W p l e R s m args below meth c H locs cells slots Q (F0 m pc ls rest) := by
  subst hq
  exact g_new hC hc hu ty hty hcl hinst hini hS hA hfs hcells hslots hdg kk
end NRULES
abbrev bl0 : List Value := [.int 0, .int 0, .int 0, .int 0, .int 0, .int 0, .int 0, .int 0, .int 0, .int 0, .int 0, .int 0, .int 0, .int 0, .int 0, .int 0]
theorem bl0_ok : ∀ j, j < 16 → defaultValue (tyX0 j) = vp_V bl0 j := by decide
abbrev bl1 : List Value := [.null, .null, .null, .null, .int 0, .int 0]
theorem bl1_ok : ∀ j, j < 6 → defaultValue (tyX1 j) = vp_V bl1 j := by decide
abbrev bl2 : List Value := [.int 0, .int 0, .int 0]
theorem bl2_ok : ∀ j, j < 3 → defaultValue (tyX2 j) = vp_V bl2 j := by decide
abbrev bl3 : List Value := [.int 0, .int 0, .int 0, .int 0, .int 0, .int 0, .null]
theorem bl3_ok : ∀ j, j < 7 → defaultValue (tyX3 j) = vp_V bl3 j := by decide
abbrev bl4 : List Value := [.null, .null, .null, .null, .null, .int 0]
theorem bl4_ok : ∀ j, j < 6 → defaultValue (tyX4 j) = vp_V bl4 j := by decide
abbrev blJ : List Value := [.int 0, .null, .int 0]
theorem blJ_ok : ∀ j, j < 3 → defaultValue (tyJx4a65c j) = vp_V blJ j := by decide
theorem mo_of {E : gV} {a sz : Nat} {H : Heap} (h0 : gA E a (.inr (2, [.ref (sz + 0), .ref (sz + 1), .ref (sz + 2), .ref (sz + 3), .int 0, .int 0])) H) (h1 : gA E (sz + 0) (.inl (E.2.2.2 0, 20, .inl (fun _ => 0))) H) (h2 : gA E (sz + 1) (.inl (E.2.2.2 1, 20, .inl (fun _ => 0))) H) (h3 : gA E (sz + 2) (.inl (E.2.2.2 0, 8, .inl (fun _ => 0))) H) (h4 : gA E (sz + 3) (.inl (E.2.2.2 1, 24, .inl (fun _ => 0))) H) (ha : a < sz) : gMo E (fun k => if k = 0 then a else sz + (k - 1)) (fun _ _ => 0) H := by
  refine ⟨h0, fun k hk => ?_, fun i j hi hj h => ?_⟩
  · rcases (by omega : k = 0 ∨ k = 1 ∨ k = 2 ∨ k = 3) with rfl | rfl | rfl | rfl
    · exact h1
    · exact h2
    · exact h3
    · exact h4
  · simp only at h
    split at h <;> split at h <;> omega
theorem mo_A {a sz z : Nat} (h : oA (fun k => if k = 0 then a else sz + (k - 1)) z) : z = a ∨ sz ≤ z := by
  obtain ⟨k, hk, rfl⟩ := h
  simp only
  split <;> omega
theorem tag_of {α : Nat → Nat → Nat} {V : Nat → Nat → Prop} (h : ∀ k i k' i', V k i → V k' i' → α k i = α k' i' → k = k' ∧ i = i') : ∃ tg : Nat → Nat × Nat, ∀ k i, V k i → tg (α k i) = (k, i) := by
  have h0 : ∀ q : Nat, ∃ p : Nat × Nat, (∃ k i, V k i ∧ α k i = q) → V p.1 p.2 ∧ α p.1 p.2 = q := fun q => by
    by_cases hq : ∃ k i, V k i ∧ α k i = q
    · obtain ⟨k, i, h1, h2⟩ := hq
      exact ⟨(k, i), fun _ => ⟨h1, h2⟩⟩
    · exact ⟨(0, 0), fun z => absurd z hq⟩
  obtain ⟨tg, htg⟩ := Classical.axiomOfChoice h0
  refine ⟨tg, fun k i hv => ?_⟩
  obtain ⟨h1, h2⟩ := htg (α k i) ⟨k, i, hv, rfl⟩
  obtain ⟨e1, e2⟩ := h _ _ _ _ h1 hv h2
  exact Prod.ext e1 e2
theorem gL.kept0 {E : gV} {a t : Nat} {row row' : Nat → Nat} {H H1 : Heap} (h : gL E a t 0 row H) (hq : H1[a]? = H[a]?) : gL E a t 0 row' H1 := by
  obtain ⟨mc, h1, h2, h3⟩ := h
  exact ⟨mc, h1.kept hq, h2, fun z => by omega⟩
def aNew (a sz t : Nat) : Nat → Nat → Nat := fun k i => if k = 3 then (if i = 0 then a else if i < 5 then sz + (i - 1) else if i = 5 then sz + 8 else if i < 10 then sz + (i - 2) else if i < 14 then sz + (i - 1) else t) else 0
def nZ : Nat → Nat := fun _ => 0
def fZ : F2 := fun _ _ => 0
theorem rx_new {E : gV} {a sz t : Nat} {H : Heap} (hF : gFz E H) (haE : E.2.1.heap.size ≤ a) (hal : a < sz) (hO : gA E a (.inr (5, [.ref (sz + 0), .ref (sz + 1), .ref (sz + 2), .ref (sz + 3), .ref (sz + 8), .int 0])) H)
    (h1 : gL E (sz + 0) t 0 nZ H) (h2 : gL E (sz + 1) t 0 nZ H) (h3 : gL E (sz + 2) t 0 nZ H) (h4 : gMo E (fun k => if k = 0 then sz + 3 else sz + 4 + (k - 1)) mZ H) (h5 : gMo E (fun k => if k = 0 then sz + 8 else sz + 9 + (k - 1)) mZ H) : RX E (aNew a sz t) fZ (fun _ => mZ) nZ H := by
  have hV : ∀ k i, xV nZ k i → k = 3 ∧ i < 14 := fun k i h => by
    rcases h with ⟨-, h⟩ | ⟨h, h' | ⟨j, -, -, h'⟩⟩
    · exact absurd h (Nat.not_lt_zero i)
    · exact ⟨h, h'⟩
    · exact absurd h' (Nat.not_lt_zero 0)
  refine ⟨hO, fun w hw => ?_, fun w hw k hk => ?_, fun k hk => ?_, fun i hi => absurd hi (Nat.not_lt_zero i), fun i hi => absurd hi (Nat.not_lt_zero i), fun i hi => absurd hi (Nat.not_lt_zero i), tag_of (fun k i k' i' v v' h => ?_), fun k i v => ?_, hF, ?_⟩
  · rcases (by omega : w = 0 ∨ w = 1) with rfl | rfl
    · exact h4.1
    · exact h5.1
  · rcases (by omega : w = 0 ∨ w = 1) with rfl | rfl
    · have h := h4.2.1 k hk
      rcases (by omega : k = 0 ∨ k = 1 ∨ k = 2 ∨ k = 3) with rfl | rfl | rfl | rfl <;> exact h
    · have h := h5.2.1 k hk
      rcases (by omega : k = 0 ∨ k = 1 ∨ k = 2 ∨ k = 3) with rfl | rfl | rfl | rfl <;> exact h
  · rcases (by omega : k = 0 ∨ k = 1 ∨ k = 2) with rfl | rfl | rfl
    · exact h1.kept0 rfl
    · exact h2.kept0 rfl
    · exact h3.kept0 rfl
  · obtain ⟨rfl, hi⟩ := hV k i v
    obtain ⟨rfl, hi'⟩ := hV k' i' v'
    refine ⟨rfl, ?_⟩
    unfold aNew at h
    simp only [if_true] at h
    (repeat' split at h) <;> omega
  · obtain ⟨rfl, hi⟩ := hV k i v
    unfold aNew
    simp only [if_true]
    (repeat' split) <;> omega
  · exact ⟨by decide, by decide, by decide, by decide, fun i hi => absurd hi (Nat.not_lt_zero i), fun i hi => absurd hi (Nat.not_lt_zero i), fun i hi => absurd hi (Nat.not_lt_zero i)⟩
def mu0 : F2 := fun k _ => if k = 23 then 30 else 0
