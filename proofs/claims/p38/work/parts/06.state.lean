/-! THE STATES. Model: the rows μ (0 isAbsent, 1 isRevoked, 2 substitute, 3 holder, 4 kind, 5 limit, 6 first, 7 last, 8 source, 9 hand, 10 deedKind, 11 amount, 12 party, 13 day, 14 sum, 15 lackPower, 16 lackDepth, 17 status, 18 lack; 22 today, 23 window), the counts K (0 persons, 1 powers, 2 deeds), depth, thrown.
Signatory: ξ (1 holder, 2 kind, 3 the hand's char, 4 first, 5 last, 6 source; 11 .. 25 a deed's fields; 30 .. 32 a paper's), the moments M 0 (now), M 1 (past): rows 0 limits, 1 revoked, 2 substitutes, 3 annulled, 4 window, 5 day; the counts N (0 powers, 1 deeds, 2 papers, 3 persons); the addresses α. -/
abbrev F2 : Type := Nat → Nat → Int32
def upA (f : F2) (k : Nat) (g : Nat → Int32) : F2 := fun c => if c = k then g else f c
def up2 (f : F2) (k i : Nat) (v : Int32) : F2 := upA f k (upd (f k) i v)
theorem upA_s (f : F2) (k : Nat) (g : Nat → Int32) : upA f k g k = g := if_pos rfl
theorem upA_n (f : F2) {k c : Nat} (g : Nat → Int32) (h : c ≠ k) : upA f k g c = f c := if_neg h
theorem upd_s (f : Nat → Int32) (k : Nat) (x : Int32) : upd f k x k = x := if_pos rfl
theorem upd_n (f : Nat → Int32) {k j : Nat} (x : Int32) (h : j ≠ k) : upd f k x j = f j := if_neg h
def bz (P : Prop) (r : Int32) : Prop := (r = 1 ∧ P) ∨ (r = 0 ∧ ¬ P)
theorem bz.f {P : Prop} {r : Int32} (h : bz P r) (c : r = 0) : ¬ P := by
  rcases h with ⟨h, -⟩ | ⟨-, h⟩
  · rw [h] at c; exact absurd c (by decide)
  · exact h
theorem bz.t {P : Prop} {r : Int32} (h : bz P r) (c : ¬ r = 0) : P := by
  rcases h with ⟨-, h⟩ | ⟨h, -⟩
  · exact h
  · exact absurd h c
theorem bz.nar {P : Prop} {r : Int32} (h : bz P r) : narrow .boolean (.int r) = .int r := by
  rcases h with ⟨rfl, -⟩ | ⟨rfl, -⟩ <;> rfl
theorem bz_1 {P : Prop} (h : P) : bz P 1 := Or.inl ⟨rfl, h⟩
theorem bz_0 {P : Prop} (h : ¬ P) : bz P 0 := Or.inr ⟨rfl, h⟩
theorem bz.iff {P P' : Prop} {r : Int32} (h : bz P r) (e : P ↔ P') : bz P' r := by
  rcases h with ⟨h1, h2⟩ | ⟨h1, h2⟩
  · exact Or.inl ⟨h1, e.mp h2⟩
  · exact Or.inr ⟨h1, fun q => h2 (e.mpr q)⟩
abbrev isP (n : Nat) (p : Int32) : Prop := 0 ≤ p ∧ p < nI n
theorem isP_of {n : Nat} {p : Int32} (h : isP n p) (hn : n < 2 ^ 31) : ∃ j : Nat, j < n ∧ p = nI j := by
  obtain ⟨j, hj, rfl⟩ := nI_of (x := p) (fun q => absurd h.1 (Int32.not_le.mpr q))
  exact ⟨j, (nI_ltI hj hn).mp h.2, rfl⟩
theorem isP_nI {n j : Nat} (h : j < n) (hn : n < 2 ^ 31) : isP n (nI j) := ⟨nI_pos' (by omega), nI_lt h hn⟩
theorem g_inc (i : Nat) : nI i + Int32.ofInt 1 = nI (i + 1) := nI_1 i
theorem mem_nm {P : Prop} {l : List String} {x : String} (h : l = []) (hx : x ∈ l) : P := by rw [h] at hx; exact nomatch hx
/-- the k-th exception of a method's list -/
def gCode (names : List String) (k : Nat) (X : String) : Prop := ∃ i : Nat, names[i]? = some X ∧ k = i + 1
-- ===== the model
def mT (k : Nat) : Nat := if k = 0 ∨ k = 1 then 1 else if k = 9 ∨ k = 17 ∨ k = 18 then 2 else 0
def mN (k : Nat) : Nat := if k = 0 ∨ k = 2 then 8 else if k < 10 then 20 else 24
def RM (E : gV) (β : Nat → Nat) (μ : F2) (K : Nat → Nat) (dp th : Int32) (H : Heap) : Prop :=
  gA E (β 19) (.inr (6, [.ref (β 0), .ref (β 1), .ref (β 2), .ref (β 3), .ref (β 4), .ref (β 5), .ref (β 6), .ref (β 7), .ref (β 8), .ref (β 9), .ref (β 10), .ref (β 11), .ref (β 12), .ref (β 13), .ref (β 14), .ref (β 15), .ref (β 16), .ref (β 17), .ref (β 18), .int (nI (K 0)), .int (nI (K 1)), .int (nI (K 2)), .int (μ 22 0), .int (μ 23 0), .int dp, .int th])) H ∧
  (∀ k, k < 19 → gA E (β k) (.inl (E.2.2.2 (mT k), mN k, .inl (μ k))) H) ∧ ∀ i j, i < 20 → j < 20 → β i = β j → i = j
/-- the model's cells -/
def mA (β : Nat → Nat) : Nat → Prop := fun q => ∃ k, k < 20 ∧ q = β k
theorem RM.obj {E : gV} {β : Nat → Nat} {μ : F2} {K : Nat → Nat} {dp th : Int32} {H : Heap} (h : RM E β μ K dp th H) : gA E (β 19) (.inr (6, [.ref (β 0), .ref (β 1), .ref (β 2), .ref (β 3), .ref (β 4), .ref (β 5), .ref (β 6), .ref (β 7), .ref (β 8), .ref (β 9), .ref (β 10), .ref (β 11), .ref (β 12), .ref (β 13), .ref (β 14), .ref (β 15), .ref (β 16), .ref (β 17), .ref (β 18), .int (nI (K 0)), .int (nI (K 1)), .int (nI (K 2)), .int (μ 22 0), .int (μ 23 0), .int dp, .int th])) H := h.1
theorem RM.arr {E : gV} {β : Nat → Nat} {μ : F2} {K : Nat → Nat} {dp th : Int32} {H : Heap} (h : RM E β μ K dp th H) (k : Nat) (hk : k < 19) {t n : Nat} (ht : mT k = t) (hn : mN k = n) : gA E (β k) (.inl (E.2.2.2 t, n, .inl (μ k))) H := by
  subst ht hn
  exact h.2.1 k hk
/-- the object's numbers have changed -/
theorem RM.setObj {E : gV} {β : Nat → Nat} {μ μ' : F2} {K K' : Nat → Nat} {dp th dp' th' : Int32} {H H1 : Heap} (h : RM E β μ K dp th H) (hμ : ∀ k, k < 19 → μ' k = μ k) (h1 : gA E (β 19) (.inr (6, [.ref (β 0), .ref (β 1), .ref (β 2), .ref (β 3), .ref (β 4), .ref (β 5), .ref (β 6), .ref (β 7), .ref (β 8), .ref (β 9), .ref (β 10), .ref (β 11), .ref (β 12), .ref (β 13), .ref (β 14), .ref (β 15), .ref (β 16), .ref (β 17), .ref (β 18), .int (nI (K' 0)), .int (nI (K' 1)), .int (nI (K' 2)), .int (μ' 22 0), .int (μ' 23 0), .int dp', .int th'])) H1)
    (h2 : ∀ q : Nat, q ≠ β 19 → H1[q]? = H[q]?) : RM E β μ' K' dp' th' H1 :=
  ⟨h1, fun k hk => by rw [hμ k hk]; exact (h.2.1 k hk).kept (h2 _ (fun q => absurd (h.2.2 k 19 (by omega) (by omega) q) (by omega))), h.2.2⟩
/-- a row has changed -/
theorem RM.setArr {E : gV} {β : Nat → Nat} {μ : F2} {K : Nat → Nat} {dp th : Int32} {H H1 : Heap} (h : RM E β μ K dp th H) (k : Nat) (hk : k < 19) {t n : Nat} (ht : mT k = t) (hn : mN k = n) {g : Nat → Int32} (h1 : gA E (β k) (.inl (E.2.2.2 t, n, .inl g)) H1)
    (h2 : ∀ q : Nat, q ≠ β k → H1[q]? = H[q]?) : RM E β (upA μ k g) K dp th H1 := by
  subst ht hn
  refine ⟨?_, fun j hj => ?_, h.2.2⟩
  · rw [upA_n μ g (by omega), upA_n μ g (by omega)]
    exact h.1.kept (h2 _ (fun q => absurd (h.2.2 19 k (by omega) (by omega) q) (by omega)))
  · by_cases hjk : j = k
    · subst hjk
      rw [upA_s]
      exact h1
    · rw [upA_n μ g hjk]
      exact (h.2.1 j hj).kept (h2 _ (fun q => hjk (h.2.2 j k (by omega) (by omega) q)))
theorem RM.kept {E : gV} {β : Nat → Nat} {μ : F2} {K : Nat → Nat} {dp th : Int32} {H H1 : Heap} (h : RM E β μ K dp th H) (h2 : ∀ k, k < 20 → H1[β k]? = H[β k]?) : RM E β μ K dp th H1 :=
  ⟨h.1.kept (h2 19 (by omega)), fun k hk => (h.2.1 k hk).kept (h2 k (by omega)), h.2.2⟩
-- ===== Signatory
def srcV (α : Nat → Nat → Nat) (x : Int32) : Value := if x < 0 then .null else .ref (α 0 x.toNatClampNeg)
/-- the hand's bit -/
def fBit (h : Int32) : Int32 := if h = 115 then 1 else if h = 97 then 2 else if h = 98 then 4 else 0
def xT (k : Nat) : Nat := if k = 0 ∨ k = 2 then 0 else 1
def xN (k : Nat) : Nat := if k = 2 then 8 else if k = 3 then 24 else 20
/-- the address is in use -/
def xV (N : Nat → Nat) (k i : Nat) : Prop := (k < 3 ∧ i < N k) ∨ (k = 3 ∧ (i < 14 ∨ ∃ j, j < 3 ∧ i = 14 + j ∧ 0 < N j))
/-- the class's own empty array -/
def gEmp (E : gV) (t : Nat) : Prop := va_Z "java/util/ArrayList" "DEFAULTCAPACITY_EMPTY_ELEMENTDATA" "[Ljava/lang/Object;" (.ref t) (fun q => E.2.1.heap.size ≤ q) E.2.1 E.2.1.heap
/-- a list at a, its places at t, with the elements row 0 .. row (n - 1) -/
def gL (E : gV) (a t n : Nat) (row : Nat → Nat) (H : Heap) : Prop :=
  ∃ mc : Int32, gA E a (.inr (0, [.int mc, .ref t, .int (nI n)])) H ∧ (n = 0 → gEmp E t) ∧ (0 < n → ∃ (cap : Nat) (r : Nat → Option Nat), n ≤ cap ∧ cap ≤ 1000 ∧ gA E t (.inl (E.2.2.2 3, cap, .inr (.inr (.inr (.inr r))))) H ∧ ∀ i, i < n → r i = some (row i))
def XI (ξ : F2) (N : Nat → Nat) : Prop := N 0 ≤ 20 ∧ N 1 ≤ 24 ∧ N 2 ≤ 512 ∧ N 3 ≤ 8 ∧ (∀ i, i < N 0 → ξ 6 i < 0 ∨ ∃ j, j < i ∧ ξ 6 i = nI j) ∧ (∀ i, i < N 0 → ∃ j, j < N 3 ∧ ξ 1 i = nI j) ∧ (∀ i, i < N 1 → (∃ j, j < N 3 ∧ ξ 11 i = nI j) ∧ (ξ 12 i = -1 ∨ ∃ j, j < N 3 ∧ ξ 12 i = nI j))
def RX (E : gV) (α : Nat → Nat → Nat) (ξ : F2) (M : Nat → F2) (N : Nat → Nat) (H : Heap) : Prop :=
  gA E (α 3 0) (.inr (5, [.ref (α 3 1), .ref (α 3 2), .ref (α 3 3), .ref (α 3 4), .ref (α 3 5), .int (nI (N 3))])) H ∧
  (∀ w, w < 2 → gA E (α 3 (4 + w)) (.inr (2, [.ref (α 3 (6 + 4 * w)), .ref (α 3 (7 + 4 * w)), .ref (α 3 (8 + 4 * w)), .ref (α 3 (9 + 4 * w)), .int (M w 4 0), .int (M w 5 0)])) H) ∧
  (∀ w, w < 2 → ∀ k, k < 4 → gA E (α 3 (6 + 4 * w + k)) (.inl (E.2.2.2 (xT k), xN k, .inl (M w k))) H) ∧
  (∀ k, k < 3 → gL E (α 3 (1 + k)) (α 3 (14 + k)) (N k) (α k) H) ∧
  (∀ i, i < N 0 → gA E (α 0 i) (.inr (4, [.int (nI i), .int (ξ 1 i), .int (ξ 2 i), .int (fBit (ξ 3 i)), .int (ξ 4 i), .int (ξ 5 i), srcV α (ξ 6 i)])) H) ∧
  (∀ i, i < N 1 → gA E (α 1 i) (.inr (1, [.int (nI i), .int (ξ 11 i), .int (ξ 12 i), .int (ξ 13 i), .int (ξ 14 i), .int (ξ 15 i), .int (ξ 16 i), .int (ξ 17 i), .int (ξ 18 i), .int (ξ 19 i), .int (ξ 20 i), .int (ξ 21 i), .int (ξ 22 i), .int (ξ 23 i), .int (ξ 24 i), .int (ξ 25 i)])) H) ∧
  (∀ i, i < N 2 → gA E (α 2 i) (.inr (3, [.int (ξ 30 i), .int (ξ 31 i), .int (ξ 32 i)])) H) ∧
  (∃ tg : Nat → Nat × Nat, ∀ k i, xV N k i → tg (α k i) = (k, i)) ∧ (∀ k i, xV N k i → E.2.1.heap.size ≤ α k i) ∧
  (∀ q : Nat, q < E.2.1.heap.size → H[q]? = E.2.1.heap[q]?) ∧ XI ξ N
section RXACC
variable {E : gV} {α : Nat → Nat → Nat} {ξ : F2} {M : Nat → F2} {N : Nat → Nat} {H : Heap}
theorem RX.sig (h : RX E α ξ M N H) : gA E (α 3 0) (.inr (5, [.ref (α 3 1), .ref (α 3 2), .ref (α 3 3), .ref (α 3 4), .ref (α 3 5), .int (nI (N 3))])) H := h.1
theorem RX.mom (h : RX E α ξ M N H) (w : Nat) (hw : w < 2) : gA E (α 3 (4 + w)) (.inr (2, [.ref (α 3 (6 + 4 * w)), .ref (α 3 (7 + 4 * w)), .ref (α 3 (8 + 4 * w)), .ref (α 3 (9 + 4 * w)), .int (M w 4 0), .int (M w 5 0)])) H := h.2.1 w hw
theorem RX.row (h : RX E α ξ M N H) (w : Nat) (hw : w < 2) (k : Nat) (hk : k < 4) {t n : Nat} (ht : xT k = t) (hn : xN k = n) : gA E (α 3 (6 + 4 * w + k)) (.inl (E.2.2.2 t, n, .inl (M w k))) H := by
  subst ht hn
  exact h.2.2.1 w hw k hk
theorem RX.lim (h : RX E α ξ M N H) (w : Nat) (hw : w < 2) : gA E (α 3 (6 + 4 * w)) (.inl (E.2.2.2 0, 20, .inl (M w 0))) H := h.row w hw 0 (by omega) rfl rfl
theorem RX.rev (h : RX E α ξ M N H) (w : Nat) (hw : w < 2) : gA E (α 3 (7 + 4 * w)) (.inl (E.2.2.2 1, 20, .inl (M w 1))) H := by
  have := h.row w hw 1 (by omega) rfl rfl
  rwa [show 6 + 4 * w + 1 = 7 + 4 * w by omega] at this
theorem RX.sub (h : RX E α ξ M N H) (w : Nat) (hw : w < 2) : gA E (α 3 (8 + 4 * w)) (.inl (E.2.2.2 0, 8, .inl (M w 2))) H := by
  have := h.row w hw 2 (by omega) rfl rfl
  rwa [show 6 + 4 * w + 2 = 8 + 4 * w by omega] at this
theorem RX.ann (h : RX E α ξ M N H) (w : Nat) (hw : w < 2) : gA E (α 3 (9 + 4 * w)) (.inl (E.2.2.2 1, 24, .inl (M w 3))) H := by
  have := h.row w hw 3 (by omega) rfl rfl
  rwa [show 6 + 4 * w + 3 = 9 + 4 * w by omega] at this
theorem RX.list (h : RX E α ξ M N H) (k : Nat) (hk : k < 3) : gL E (α 3 (1 + k)) (α 3 (14 + k)) (N k) (α k) H := h.2.2.2.1 k hk
theorem RX.pow (h : RX E α ξ M N H) {i : Nat} (hi : i < N 0) : gA E (α 0 i) (.inr (4, [.int (nI i), .int (ξ 1 i), .int (ξ 2 i), .int (fBit (ξ 3 i)), .int (ξ 4 i), .int (ξ 5 i), srcV α (ξ 6 i)])) H := h.2.2.2.2.1 i hi
theorem RX.deed (h : RX E α ξ M N H) {i : Nat} (hi : i < N 1) : gA E (α 1 i) (.inr (1, [.int (nI i), .int (ξ 11 i), .int (ξ 12 i), .int (ξ 13 i), .int (ξ 14 i), .int (ξ 15 i), .int (ξ 16 i), .int (ξ 17 i), .int (ξ 18 i), .int (ξ 19 i), .int (ξ 20 i), .int (ξ 21 i), .int (ξ 22 i), .int (ξ 23 i), .int (ξ 24 i), .int (ξ 25 i)])) H := h.2.2.2.2.2.1 i hi
theorem RX.pap (h : RX E α ξ M N H) {i : Nat} (hi : i < N 2) : gA E (α 2 i) (.inr (3, [.int (ξ 30 i), .int (ξ 31 i), .int (ξ 32 i)])) H := h.2.2.2.2.2.2.1 i hi
theorem RX.tag (h : RX E α ξ M N H) : ∃ tg : Nat → Nat × Nat, ∀ k i, xV N k i → tg (α k i) = (k, i) := h.2.2.2.2.2.2.2.1
theorem RX.ge (h : RX E α ξ M N H) : ∀ k i, xV N k i → E.2.1.heap.size ≤ α k i := h.2.2.2.2.2.2.2.2.1
theorem RX.frz (h : RX E α ξ M N H) : ∀ q : Nat, q < E.2.1.heap.size → H[q]? = E.2.1.heap[q]? := h.2.2.2.2.2.2.2.2.2.1
theorem RX.inv (h : RX E α ξ M N H) : XI ξ N := h.2.2.2.2.2.2.2.2.2.2
theorem RX.apart (h : RX E α ξ M N H) {k i k' i' : Nat} (h1 : xV N k i) (h2 : xV N k' i') (e : α k i = α k' i') : k = k' ∧ i = i' := by
  obtain ⟨tg, ht⟩ := h.tag
  have h3 := ht k i h1
  rw [e, ht k' i' h2] at h3
  exact ⟨(congrArg Prod.fst h3).symm, (congrArg Prod.snd h3).symm⟩
end RXACC
