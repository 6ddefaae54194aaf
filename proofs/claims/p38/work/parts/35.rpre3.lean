/-! THE STATE AND WHAT IS NOT ITS OWN (B) -/
abbrev gAB (E : gV) (B : Nat → Prop) : Nat → Prop := fun q => E.2.1.heap.size ≤ q ∧ ¬ B q
def RB (E : gV) (B : Nat → Prop) (α : Nat → Nat → Nat) (ξ : F2) (M : Nat → F2) (N : Nat → Nat) (H : Heap) : Prop := RX E α ξ M N H ∧ (∀ k i, xV N k i → ¬ B (α k i)) ∧ ∀ q, B q → q < H.size
def papX (ξ : F2) (n : Nat) (a b v : Int32) : F2 := up2 (up2 (up2 ξ 30 n a) 31 n b) 32 n v
section RBS
variable {E : gV} {B : Nat → Prop} {α : Nat → Nat → Nat} {ξ : F2} {M : Nat → F2} {N : Nat → Nat} {H H1 : Heap}
theorem RX.keep (h : RX E α ξ M N H) (hq : ∀ q : Nat, q < H.size → H1[q]? = H[q]?) : RX E α ξ M N H1 := by
  have hs : ∀ {k i : Nat}, xV N k i → H1[α k i]? = H[α k i]? := fun {k i} hv => hq _ (h.lt hv)
  exact ⟨h.sig.kept (hs (xV_3 (by omega))), fun w hw => (h.mom w hw).kept (hs (xV_3 (by omega))), fun w hw k hk => (h.row w hw k hk rfl rfl).kept (hs (xV_3 (by omega))), fun k hk => (h.list k hk).keptL (hs (xV_3 (by omega))) (fun h0 => hs (Or.inr ⟨rfl, Or.inr ⟨k, hk, rfl, h0⟩⟩)), fun i hi => (h.pow hi).kept (hs (Or.inl ⟨by omega, hi⟩)), fun i hi => (h.deed hi).kept (hs (Or.inl ⟨by omega, hi⟩)), fun i hi => (h.pap hi).kept (hs (Or.inl ⟨by omega, hi⟩)), h.tag, h.ge, fun q hz => (hq q (Nat.lt_of_lt_of_le hz (gFz.le h.frz))).trans (h.frz q hz), h.inv⟩
theorem RB.keep (h : RB E B α ξ M N H) (hz : H.size ≤ H1.size) (hq : ∀ q : Nat, q < H.size → H1[q]? = H[q]?) : RB E B α ξ M N H1 := ⟨h.1.keep hq, h.2.1, fun q hb => Nat.lt_of_lt_of_le (h.2.2 q hb) hz⟩
/-- the state but for a cell that is not its own -/
theorem RB.keepN (h : RB E B α ξ M N H) {x : Nat} (hx : ∀ k i, xV N k i → α k i ≠ x) (hxE : E.2.1.heap.size ≤ x) (hz : H.size ≤ H1.size) (hq : ∀ q : Nat, q < H.size → q ≠ x → H1[q]? = H[q]?) : RB E B α ξ M N H1 := by
  have hs : ∀ {k i : Nat}, xV N k i → H1[α k i]? = H[α k i]? := fun {k i} hv => hq _ (h.1.lt hv) (hx k i hv)
  have h' := h
  obtain ⟨h, hb1, hb2⟩ := h
  exact ⟨⟨h.sig.kept (hs (xV_3 (by omega))), fun w hw => (h.mom w hw).kept (hs (xV_3 (by omega))), fun w hw k hk => (h.row w hw k hk rfl rfl).kept (hs (xV_3 (by omega))), fun k hk => (h.list k hk).keptL (hs (xV_3 (by omega))) (fun h0 => hs (Or.inr ⟨rfl, Or.inr ⟨k, hk, rfl, h0⟩⟩)), fun i hi => (h.pow hi).kept (hs (Or.inl ⟨by omega, hi⟩)), fun i hi => (h.deed hi).kept (hs (Or.inl ⟨by omega, hi⟩)), fun i hi => (h.pap hi).kept (hs (Or.inl ⟨by omega, hi⟩)), h.tag, h.ge, fun q hz => (hq q (Nat.lt_of_lt_of_le hz (gFz.le h.frz)) (by omega)).trans (h.frz q hz), h.inv⟩, hb1, fun q hb => Nat.lt_of_lt_of_le (hb2 q hb) hz⟩
theorem RB.al (h : RB E B α ξ M N H) {q : Nat} (hq : H.size ≤ q) : gAB E B q := ⟨Nat.le_trans (gFz.le h.1.frz) hq, fun z => by have := h.2.2 q z; omega⟩
theorem RB.own (h : RB E B α ξ M N H) {k i : Nat} (hv : xV N k i) : gAB E B (α k i) := ⟨h.1.ge k i hv, h.2.1 k i hv⟩
theorem RB.lA (h : RB E B α ξ M N H) (k : Nat) (hk : k < 3) : ∀ q, (q = α 3 (1 + k) ∨ (0 < N k ∧ q = α 3 (14 + k)) ∨ H.size ≤ q) → gAB E B q := fun q z => by
  rcases z with rfl | ⟨h0, rfl⟩ | z
  · exact h.own (xV_3 (by omega))
  · exact h.own (Or.inr ⟨rfl, Or.inr ⟨k, hk, rfl, h0⟩⟩)
  · exact h.al z
theorem RB.mA (h : RB E B α ξ M N H) (w : Nat) (hw : w < 2) : ∀ q, oA (mq α w) q → gAB E B q := fun q ⟨k, hk, e⟩ => by
  rw [e]
  exact h.own (xV_3 (by split <;> omega))
theorem RB.setMom (h : RB E B α ξ M N H) (w : Nat) (hw : w < 2) {m : F2} {sz : Nat} (h1 : gMz E (mq α w) m sz H1) (hz : H.size ≤ H1.size) (hq : ∀ q : Nat, q < H.size → ¬ oA (mq α w) q → H1[q]? = H[q]?) : RB E B α ξ (updM M w m) N H1 :=
  ⟨h.1.setMom w hw h1.1 hq, h.2.1, fun q hb => Nat.lt_of_lt_of_le (h.2.2 q hb) hz⟩
theorem RX.notV (h : RX E α ξ M N H) {x : Nat} (hx : H.size ≤ x) : ∀ k i, xV N k i → α k i ≠ x := fun k i v e => by have := h.lt v; omega
theorem RX.gO2 (h : RX E α ξ M N H) (k : Nat) (hk : k < 3) : ∀ i, i < N k → gO E (α k i) H := fun i hi => by
  rcases (by omega : k = 0 ∨ k = 1 ∨ k = 2) with rfl | rfl | rfl
  · exact ⟨4, _, by omega, h.pow hi⟩
  · exact ⟨1, _, by omega, h.deed hi⟩
  · exact ⟨3, _, by omega, h.pap hi⟩
theorem RX.nle (h : RX E α ξ M N H) (k : Nat) (hk : k < 3) : N k ≤ 512 := by
  obtain ⟨i0, i1, i2, -⟩ := h.inv
  rcases (by omega : k = 0 ∨ k = 1 ∨ k = 2) with rfl | rfl | rfl <;> omega
/-- what ArrayList.add has left -/
theorem RB.gadd (h : RB E B α ξ M N H) (k : Nat) (hk : k < 3) {x : Nat} (hxE : E.2.1.heap.size ≤ x) (hxn : ∀ k i, xV N k i → α k i ≠ x) (hxl : x < H.size) {t2 : Nat} (ht : (0 < N k ∧ t2 = α 3 (14 + k)) ∨ H.size ≤ t2) (hL : gL E (α 3 (1 + k)) t2 (N k + 1) (fun i => if i = N k then x else α k i) H1)
    (hq : ∀ q : Nat, q < H.size → ¬ (q = α 3 (1 + k) ∨ (0 < N k ∧ q = α 3 (14 + k)) ∨ H.size ≤ q) → H1[q]? = H[q]?) : gAdd E α N H H1 k x t2 :=
  ⟨hxE, hxn, ht.imp id (fun z => ⟨h.1.notV z, by omega, Nat.le_trans (gFz.le h.1.frz) z⟩), hL, fun q h1 h2 h3 => hq q h1 (fun z => z.elim h2 (fun z => z.elim h3 (fun z => by omega)))⟩
theorem RB.addB (h : RB E B α ξ M N H) {k : Nat} (hk : k < 3) {x t2 : Nat} (hxB : ¬ B x) (ht : (0 < N k ∧ t2 = α 3 (14 + k)) ∨ H.size ≤ t2) : ∀ k' i, xV (updN N k (N k + 1)) k' i → ¬ B (aAdd α k (N k) x t2 k' i) := fun k' i hv => by
  by_cases c : k' = 3 ∧ i = 14 + k
  · obtain ⟨rfl, rfl⟩ := c
    rw [aAdd_t]
    rcases ht with ⟨h0, rfl⟩ | h0
    · exact h.2.1 _ _ (Or.inr ⟨rfl, Or.inr ⟨k, hk, rfl, h0⟩⟩)
    · exact fun z => by have := h.2.2 _ z; omega
  · by_cases d : k' = k ∧ i = N k
    · obtain ⟨rfl, rfl⟩ := d
      rw [aAdd_x hk]
      exact hxB
    · rw [aAdd_n (by omega) (by omega)]
      rcases xV_add hk hv with v | v | v
      · exact h.2.1 _ _ v
      · exact absurd v d
      · exact absurd v c
end RBS
