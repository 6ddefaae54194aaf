/-! A LIST GROWS -/
section RXA
variable {E : gV} {α : Nat → Nat → Nat} {ξ : F2} {M : Nat → F2} {N : Nat → Nat} {H H1 : Heap}
/-- what is common -/
def gAdd (E : gV) (α : Nat → Nat → Nat) (N : Nat → Nat) (H H1 : Heap) (k x t : Nat) : Prop :=
  E.2.1.heap.size ≤ x ∧ (∀ k' i, xV N k' i → α k' i ≠ x) ∧ ((0 < N k ∧ t = α 3 (14 + k)) ∨ ((∀ k' i, xV N k' i → α k' i ≠ t) ∧ t ≠ x ∧ E.2.1.heap.size ≤ t)) ∧ gL E (α 3 (1 + k)) t (N k + 1) (fun i => if i = N k then x else α k i) H1 ∧ ∀ q : Nat, q < H.size → q ≠ α 3 (1 + k) → ¬ (0 < N k ∧ q = α 3 (14 + k)) → H1[q]? = H[q]?
theorem RX.addS (h : RX E α ξ M N H) {k x t : Nat} (hk : k < 3) (hg : gAdd E α N H H1 k x t) {k' i : Nat} (hv : xV N k' i) (h1 : ¬ (k' = 3 ∧ i = 1 + k)) (h2 : ¬ (k' = 3 ∧ i = 14 + k)) : H1[α k' i]? = H[α k' i]? :=
  hg.2.2.2.2 _ (h.lt hv) (fun e => by obtain ⟨e1, e2⟩ := h.apart hv (xV_3 (by omega)) e; exact h1 ⟨e1, e2⟩) (fun z => by obtain ⟨e1, e2⟩ := h.apart hv (Or.inr ⟨rfl, Or.inr ⟨k, hk, rfl, z.1⟩⟩) z.2; exact h2 ⟨e1, e2⟩)
theorem aAdd_r {k x t : Nat} (hk : k < 3) : aAdd α k (N k) x t k = fun i => if i = N k then x else α k i := by
  funext i
  unfold aAdd up3
  rw [if_neg (by omega), if_pos rfl]
theorem aAdd_ro {k x t j : Nat} (hj : j < 3) (hjk : j ≠ k) : aAdd α k (N k) x t j = α j := by
  funext i
  exact aAdd_n (Or.inl hjk) (Or.inl (by omega))
theorem xV_add {k k' i : Nat} (hk : k < 3) (h : xV (updN N k (N k + 1)) k' i) : xV N k' i ∨ (k' = k ∧ i = N k) ∨ (k' = 3 ∧ i = 14 + k) := by
  have e1 : updN N k (N k + 1) k = N k + 1 := if_pos rfl
  have e2 : ∀ j, j ≠ k → updN N k (N k + 1) j = N j := fun j hj => if_neg hj
  rcases h with ⟨h1, h2⟩ | ⟨rfl, h2 | ⟨j, hj, rfl, h0⟩⟩
  · by_cases c : k' = k
    · subst c
      rw [e1] at h2
      by_cases d : i = N k'
      · exact Or.inr (Or.inl ⟨rfl, d⟩)
      · exact Or.inl (Or.inl ⟨h1, by omega⟩)
    · rw [e2 _ c] at h2
      exact Or.inl (Or.inl ⟨h1, h2⟩)
  · exact Or.inl (xV_3 h2)
  · by_cases c : j = k
    · subst c
      exact Or.inr (Or.inr ⟨rfl, rfl⟩)
    · rw [e2 _ c] at h0
      exact Or.inl (Or.inr ⟨rfl, Or.inr ⟨j, hj, rfl, h0⟩⟩)
theorem RX.addC (h : RX E α ξ M N H) {k x t : Nat} (hk : k < 3) (hg : gAdd E α N H H1 k x t) {ξ' : F2}
    (hp : ∀ i, i < updN N k (N k + 1) 0 → gA E (aAdd α k (N k) x t 0 i) (.inr (4, [.int (nI i), .int (ξ' 1 i), .int (ξ' 2 i), .int (fBit (ξ' 3 i)), .int (ξ' 4 i), .int (ξ' 5 i), srcV (aAdd α k (N k) x t) (ξ' 6 i)])) H1)
    (hd : ∀ i, i < updN N k (N k + 1) 1 → gA E (aAdd α k (N k) x t 1 i) (.inr (1, [.int (nI i), .int (ξ' 11 i), .int (ξ' 12 i), .int (ξ' 13 i), .int (ξ' 14 i), .int (ξ' 15 i), .int (ξ' 16 i), .int (ξ' 17 i), .int (ξ' 18 i), .int (ξ' 19 i), .int (ξ' 20 i), .int (ξ' 21 i), .int (ξ' 22 i), .int (ξ' 23 i), .int (ξ' 24 i), .int (ξ' 25 i)])) H1)
    (hr : ∀ i, i < updN N k (N k + 1) 2 → gA E (aAdd α k (N k) x t 2 i) (.inr (3, [.int (ξ' 30 i), .int (ξ' 31 i), .int (ξ' 32 i)])) H1) (hI : XI ξ' (updN N k (N k + 1))) : RX E (aAdd α k (N k) x t) ξ' M (updN N k (N k + 1)) H1 := by
  have e3 : ∀ j, j < 14 → aAdd α k (N k) x t 3 j = α 3 j := fun j hj => aAdd_n (Or.inl (by omega)) (Or.inr (by omega))
  have hs : ∀ {k' i : Nat}, xV N k' i → ¬ (k' = 3 ∧ i = 1 + k) → ¬ (k' = 3 ∧ i = 14 + k) → H1[α k' i]? = H[α k' i]? := fun {k' i} hv h1 h2 => h.addS hk hg hv h1 h2
  have hN3 : updN N k (N k + 1) 3 = N 3 := if_neg (by omega)
  obtain ⟨gx, gxn, gt, gl, gq⟩ := hg
  have hval : ∀ k' i, xV (updN N k (N k + 1)) k' i → (xV N k' i ∧ ¬ (k' = 3 ∧ i = 14 + k) ∧ aAdd α k (N k) x t k' i = α k' i) ∨ (k' = k ∧ i = N k ∧ aAdd α k (N k) x t k' i = x) ∨ (k' = 3 ∧ i = 14 + k ∧ aAdd α k (N k) x t k' i = t) := fun k' i hv => by
    by_cases c : k' = 3 ∧ i = 14 + k
    · obtain ⟨rfl, rfl⟩ := c
      exact Or.inr (Or.inr ⟨rfl, rfl, aAdd_t⟩)
    · by_cases d : k' = k ∧ i = N k
      · obtain ⟨rfl, rfl⟩ := d
        exact Or.inr (Or.inl ⟨rfl, rfl, aAdd_x hk⟩)
      · rcases xV_add hk hv with v | v | v
        · exact Or.inl ⟨v, c, aAdd_n (by omega) (by omega)⟩
        · exact absurd v d
        · exact absurd v c
  refine ⟨?_, fun w hw => ?_, fun w hw j hj => ?_, fun j hj => ?_, hp, hd, hr, tag_of (fun k1 i1 k2 i2 v1 v2 e => ?_), fun k' i v => ?_, fun q hz => ?_, hI⟩
  · rw [e3 0 (by omega), e3 1 (by omega), e3 2 (by omega), e3 3 (by omega), e3 4 (by omega), e3 5 (by omega), hN3]
    exact h.sig.kept (hs (xV_3 (by omega)) (by omega) (by omega))
  · rw [e3 (4 + w) (by omega), e3 (6 + 4 * w) (by omega), e3 (7 + 4 * w) (by omega), e3 (8 + 4 * w) (by omega), e3 (9 + 4 * w) (by omega)]
    exact (h.mom w hw).kept (hs (xV_3 (by omega)) (by omega) (by omega))
  · rw [e3 (6 + 4 * w + j) (by omega)]
    exact (h.row w hw j hj rfl rfl).kept (hs (xV_3 (by omega)) (by omega) (by omega))
  · rw [e3 (1 + j) (by omega)]
    by_cases c : j = k
    · subst c
      rw [aAdd_t, aAdd_r hk, show updN N j (N j + 1) j = N j + 1 from if_pos rfl]
      exact gl
    · rw [aAdd_ro hj c, aAdd_n (Or.inl (by omega)) (Or.inr (by omega)), show updN N k (N k + 1) j = N j from if_neg c]
      exact (h.list j hj).keptL (hs (xV_3 (by omega)) (by omega) (by omega)) (fun h0 => hs (Or.inr ⟨rfl, Or.inr ⟨j, hj, rfl, h0⟩⟩) (by omega) (by omega))
  · rcases hval k1 i1 v1 with ⟨w1, n1, f1⟩ | ⟨rfl, rfl, f1⟩ | ⟨rfl, rfl, f1⟩ <;> rcases hval k2 i2 v2 with ⟨w2, n2, f2⟩ | ⟨rfl, rfl, f2⟩ | ⟨rfl, rfl, f2⟩ <;> (rw [f1] at e; try rw [f2] at e)
    · exact h.apart w1 w2 e
    · exact absurd e (gxn _ _ w1)
    · rcases gt with ⟨g0, g1⟩ | ⟨g0, g1, g2⟩
      · rw [g1] at e
        exact absurd (h.apart w1 (Or.inr ⟨rfl, Or.inr ⟨k, hk, rfl, g0⟩⟩) e) n1
      · exact absurd e (g0 _ _ w1)
    · exact absurd e.symm (gxn _ _ w2)
    · exact ⟨rfl, rfl⟩
    · rcases gt with ⟨g0, g1⟩ | ⟨g0, g1, g2⟩
      · rw [g1] at e
        exact absurd e.symm (gxn _ _ (Or.inr ⟨rfl, Or.inr ⟨_, hk, rfl, g0⟩⟩))
      · exact absurd e.symm g1
    · rcases gt with ⟨g0, g1⟩ | ⟨g0, g1, g2⟩
      · rw [g1] at e
        exact absurd (h.apart w2 (Or.inr ⟨rfl, Or.inr ⟨k, hk, rfl, g0⟩⟩) e.symm) n2
      · exact absurd e.symm (g0 _ _ w2)
    · rcases gt with ⟨g0, g1⟩ | ⟨g0, g1, g2⟩
      · rw [g1] at e
        exact absurd e (gxn _ _ (Or.inr ⟨rfl, Or.inr ⟨_, hk, rfl, g0⟩⟩))
      · exact absurd e g1
    · exact ⟨rfl, rfl⟩
  · rcases hval k' i v with ⟨w1, n1, f1⟩ | ⟨rfl, rfl, f1⟩ | ⟨rfl, rfl, f1⟩ <;> rw [f1]
    · exact h.ge _ _ w1
    · exact gx
    · rcases gt with ⟨g0, g1⟩ | ⟨g0, g1, g2⟩
      · rw [g1]
        exact h.ge _ _ (Or.inr ⟨rfl, Or.inr ⟨k, hk, rfl, g0⟩⟩)
      · exact g2
  · refine (gq q (Nat.lt_of_lt_of_le hz (gFz.le h.frz)) (fun e => ?_) (fun z => ?_)).trans (h.frz q hz)
    · have := h.ge 3 (1 + k) (xV_3 (by omega))
      omega
    · have := h.ge 3 (14 + k) (Or.inr ⟨rfl, Or.inr ⟨k, hk, rfl, z.1⟩⟩)
      omega
theorem RX.addPap (h : RX E α ξ M N H) {x t : Nat} (hg : gAdd E α N H H1 2 x t) (hn : N 2 < 512) {a b c : Int32} (hx : gA E x (.inr (3, [.int a, .int b, .int c])) H1) : RX E (aAdd α 2 (N 2) x t) (up2 (up2 (up2 ξ 30 (N 2) a) 31 (N 2) b) 32 (N 2) c) M (updN N 2 (N 2 + 1)) H1 := by
  obtain ⟨i0, i1, i2, i3, i4, i5, i6⟩ := h.inv
  refine h.addC (by decide) hg (fun i hi => ?_) (fun i hi => ?_) (fun i hi => ?_) ⟨i0, i1, by show N 2 + 1 ≤ 512; omega, i3, i4, i5, i6⟩
  · have hi : i < N 0 := hi
    exact (h.pow hi).kept (h.addS (by decide) hg (Or.inl ⟨by omega, hi⟩) (by omega) (by omega))
  · have hi : i < N 1 := hi
    exact (h.deed hi).kept (h.addS (by decide) hg (Or.inl ⟨by omega, hi⟩) (by omega) (by omega))
  · have hi : i < N 2 + 1 := hi
    rw [aAdd_r (by decide)]
    by_cases c : i = N 2
    · subst c
      simp (decide := true) only [if_true, up2_k, up2_o, ne_eq, not_false_eq_true]
      exact hx
    · simp (decide := true) only [if_neg c, up2_k, up2_o, ne_eq, not_false_eq_true]
      exact (h.pap (by omega)).kept (h.addS (by decide) hg (Or.inl ⟨by omega, by omega⟩) (by omega) (by omega))
theorem RX.addDeed (h : RX E α ξ M N H) {x t : Nat} (hg : gAdd E α N H H1 1 x t) (hn : N 1 < 24) {δ : Nat → Int32} (hx : gD E x (N 1) δ H1) (h1 : ∃ j, j < N 3 ∧ δ 1 = nI j) (h2 : δ 2 = -1 ∨ ∃ j, j < N 3 ∧ δ 2 = nI j) {ξ' : F2} (hξ : ∀ r i, i ≠ N 1 ∨ r < 11 ∨ 26 ≤ r → ξ' r i = ξ r i) (hδ : ∀ r, 1 ≤ r → r < 16 → ξ' (10 + r) (N 1) = δ r) : RX E (aAdd α 1 (N 1) x t) ξ' M (updN N 1 (N 1 + 1)) H1 := by
  obtain ⟨i0, i1, i2, i3, i4, i5, i6⟩ := h.inv
  refine h.addC (by decide) hg (fun i hi => ?_) (fun i hi => ?_) (fun i hi => ?_) ⟨i0, by show N 1 + 1 ≤ 24; omega, i2, i3, fun i hi => ?_, fun i hi => ?_, fun i hi => ?_⟩
  · have hi : i < N 0 := hi
    rw [hξ 1 i (by omega), hξ 2 i (by omega), hξ 3 i (by omega), hξ 4 i (by omega), hξ 5 i (by omega), hξ 6 i (by omega)]
    exact (h.pow hi).kept (h.addS (by decide) hg (Or.inl ⟨by omega, hi⟩) (by omega) (by omega))
  · have hi : i < N 1 + 1 := hi
    rw [aAdd_r (by decide)]
    by_cases c : i = N 1
    · subst c
      simp only [if_true]
      have e := hδ
      rw [show ξ' 11 (N 1) = δ 1 from e 1 (by omega) (by omega), show ξ' 12 (N 1) = δ 2 from e 2 (by omega) (by omega), show ξ' 13 (N 1) = δ 3 from e 3 (by omega) (by omega), show ξ' 14 (N 1) = δ 4 from e 4 (by omega) (by omega), show ξ' 15 (N 1) = δ 5 from e 5 (by omega) (by omega), show ξ' 16 (N 1) = δ 6 from e 6 (by omega) (by omega), show ξ' 17 (N 1) = δ 7 from e 7 (by omega) (by omega), show ξ' 18 (N 1) = δ 8 from e 8 (by omega) (by omega), show ξ' 19 (N 1) = δ 9 from e 9 (by omega) (by omega), show ξ' 20 (N 1) = δ 10 from e 10 (by omega) (by omega), show ξ' 21 (N 1) = δ 11 from e 11 (by omega) (by omega), show ξ' 22 (N 1) = δ 12 from e 12 (by omega) (by omega), show ξ' 23 (N 1) = δ 13 from e 13 (by omega) (by omega), show ξ' 24 (N 1) = δ 14 from e 14 (by omega) (by omega), show ξ' 25 (N 1) = δ 15 from e 15 (by omega) (by omega)]
      exact hx
    · simp only [if_neg c]
      have e := fun r => hξ r i (Or.inl c)
      rw [e, e, e, e, e, e, e, e, e, e, e, e, e, e, e]
      exact (h.deed (by omega)).kept (h.addS (by decide) hg (Or.inl ⟨by omega, by omega⟩) (by omega) (by omega))
  · have hi : i < N 2 := hi
    rw [hξ 30 i (by omega), hξ 31 i (by omega), hξ 32 i (by omega)]
    exact (h.pap hi).kept (h.addS (by decide) hg (Or.inl ⟨by omega, hi⟩) (by omega) (by omega))
  · rw [hξ 6 i (by omega)]
    exact i4 i hi
  · rw [hξ 1 i (by omega)]
    exact i5 i hi
  · have hi : i < N 1 + 1 := hi
    by_cases c : i = N 1
    · subst c
      rw [show ξ' 11 (N 1) = δ 1 from hδ 1 (by omega) (by omega), show ξ' 12 (N 1) = δ 2 from hδ 2 (by omega) (by omega)]
      exact ⟨h1, h2⟩
    · rw [hξ 11 i (Or.inl c), hξ 12 i (Or.inl c)]
      exact i6 i (by omega)
theorem RX.addPow (h : RX E α ξ M N H) {x t : Nat} (hg : gAdd E α N H H1 0 x t) (hn : N 0 < 20) {v : Nat → Int32} (hx : gA E x (.inr (4, [.int (nI (N 0)), .int (v 1), .int (v 2), .int (fBit (v 3)), .int (v 4), .int (v 5), srcV α (v 6)])) H1) (h1 : ∃ j, j < N 3 ∧ v 1 = nI j) (h2 : v 6 < 0 ∨ ∃ j, j < N 0 ∧ v 6 = nI j) {ξ' : F2} (hξ : ∀ r i, i ≠ N 0 ∨ 7 ≤ r → ξ' r i = ξ r i) (hv : ∀ r, 1 ≤ r → r < 7 → ξ' r (N 0) = v r) : RX E (aAdd α 0 (N 0) x t) ξ' M (updN N 0 (N 0 + 1)) H1 := by
  obtain ⟨i0, i1, i2, i3, i4, i5, i6⟩ := h.inv
  have hsr : ∀ y : Int32, (y < 0 ∨ ∃ j, j < N 0 ∧ y = nI j) → srcV (aAdd α 0 (N 0) x t) y = srcV α y := fun y hy => by
    rcases hy with z | ⟨j, hj, rfl⟩
    · rw [srcV_n z, srcV_n z]
    · rw [srcV_s rfl (by omega), srcV_s rfl (by omega), aAdd_n (by omega) (by omega)]
  refine h.addC (by decide) hg (fun i hi => ?_) (fun i hi => ?_) (fun i hi => ?_) ⟨by show N 0 + 1 ≤ 20; omega, i1, i2, i3, fun i hi => ?_, fun i hi => ?_, fun i hi => ?_⟩
  · have hi : i < N 0 + 1 := hi
    by_cases c : i = N 0
    · subst c
      rw [hv 1 (by omega) (by omega), hv 2 (by omega) (by omega), hv 3 (by omega) (by omega), hv 4 (by omega) (by omega), hv 5 (by omega) (by omega), hv 6 (by omega) (by omega), hsr _ h2, aAdd_x (by decide)]
      exact hx
    · have e := fun r => hξ r i (Or.inl c)
      have hs : ξ 6 i < 0 ∨ ∃ j, j < N 0 ∧ ξ 6 i = nI j := (i4 i (by omega)).imp id (fun ⟨j, hj, e⟩ => ⟨j, by omega, e⟩)
      rw [e, e, e, e, e, e, hsr _ hs, aAdd_n (by omega) (by omega)]
      exact (h.pow (by omega)).kept (h.addS (by decide) hg (Or.inl ⟨by omega, by omega⟩) (by omega) (by omega))
  · have hi : i < N 1 := hi
    have e := fun r hr => hξ r i (Or.inr hr)
    rw [e 11 (by omega), e 12 (by omega), e 13 (by omega), e 14 (by omega), e 15 (by omega), e 16 (by omega), e 17 (by omega), e 18 (by omega), e 19 (by omega), e 20 (by omega), e 21 (by omega), e 22 (by omega), e 23 (by omega), e 24 (by omega), e 25 (by omega)]
    exact (h.deed hi).kept (h.addS (by decide) hg (Or.inl ⟨by omega, hi⟩) (by omega) (by omega))
  · have hi : i < N 2 := hi
    rw [hξ 30 i (by omega), hξ 31 i (by omega), hξ 32 i (by omega)]
    exact (h.pap hi).kept (h.addS (by decide) hg (Or.inl ⟨by omega, hi⟩) (by omega) (by omega))
  · have hi : i < N 0 + 1 := hi
    by_cases c : i = N 0
    · subst c
      rw [hv 6 (by omega) (by omega)]
      exact h2
    · rw [hξ 6 i (Or.inl c)]
      exact i4 i (by omega)
  · have hi : i < N 0 + 1 := hi
    by_cases c : i = N 0
    · subst c
      rw [hv 1 (by omega) (by omega)]
      exact h1
    · rw [hξ 1 i (Or.inl c)]
      exact i5 i (by omega)
  · rw [hξ 11 i (by omega), hξ 12 i (by omega)]
    exact i6 i hi
end RXA
