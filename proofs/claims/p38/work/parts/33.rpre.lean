/-! Signatory's state after a write -/
def updM (M : Nat → F2) (w : Nat) (m : F2) : Nat → F2 := fun v => if v = w then m else M v
def up3 (α : Nat → Nat → Nat) (k i x : Nat) : Nat → Nat → Nat := fun k' i' => if k' = k then (if i' = i then x else α k i') else α k' i'
/-- a list has one more: x, and its places lie at t -/
def aAdd (α : Nat → Nat → Nat) (k n x t : Nat) : Nat → Nat → Nat := up3 (up3 α k n x) 3 (14 + k) t
theorem aAdd_n {α : Nat → Nat → Nat} {k n x t k' i : Nat} (h1 : k' ≠ k ∨ i ≠ n) (h2 : k' ≠ 3 ∨ i ≠ 14 + k) : aAdd α k n x t k' i = α k' i := by
  unfold aAdd up3
  by_cases c : k' = 3
  · subst c
    rw [if_pos rfl, if_neg (by omega)]
    by_cases d : 3 = k
    · subst d
      rw [if_pos rfl, if_neg (by omega)]
    · rw [if_neg d]
  · rw [if_neg c]
    by_cases d : k' = k
    · subst d
      rw [if_pos rfl, if_neg (by omega)]
    · rw [if_neg d]
theorem aAdd_x {α : Nat → Nat → Nat} {k n x t : Nat} (hk : k < 3) : aAdd α k n x t k n = x := by
  unfold aAdd up3
  rw [if_neg (by omega), if_pos rfl, if_pos rfl]
theorem aAdd_t {α : Nat → Nat → Nat} {k n x t : Nat} : aAdd α k n x t 3 (14 + k) = t := by
  unfold aAdd up3
  rw [if_pos rfl, if_pos rfl]
theorem gL.keptL {E : gV} {a t n : Nat} {row : Nat → Nat} {H H1 : Heap} (h : gL E a t n row H) (h1 : H1[a]? = H[a]?) (h2 : 0 < n → H1[t]? = H[t]?) : gL E a t n row H1 := by
  obtain ⟨mc, g1, g2, g3⟩ := h
  refine ⟨mc, g1.kept h1, g2, fun h0 => ?_⟩
  obtain ⟨cap, r, h4, h5, h6, h7⟩ := g3 h0
  exact ⟨cap, r, h4, h5, h6.kept (h2 h0), h7⟩
section RXW
variable {E : gV} {α : Nat → Nat → Nat} {ξ : F2} {M : Nat → F2} {N : Nat → Nat} {H H1 : Heap}
theorem xV_3 {i : Nat} (h : i < 14) : xV N 3 i := Or.inr ⟨rfl, Or.inl h⟩
theorem RX.lt (h : RX E α ξ M N H) {k i : Nat} (hv : xV N k i) : α k i < H.size := by
  rcases hv with ⟨hk, hi⟩ | ⟨rfl, hi | ⟨j, hj, rfl, h0⟩⟩
  · rcases (by omega : k = 0 ∨ k = 1 ∨ k = 2) with rfl | rfl | rfl
    · exact (h.pow hi).lt
    · exact (h.deed hi).lt
    · exact (h.pap hi).lt
  · have hc : i = 0 ∨ (∃ k, k < 3 ∧ i = 1 + k) ∨ (∃ w, w < 2 ∧ i = 4 + w) ∨ ∃ w k, w < 2 ∧ k < 4 ∧ i = 6 + 4 * w + k := by
      by_cases c0 : i = 0
      · exact Or.inl c0
      · by_cases c1 : i < 4
        · exact Or.inr (Or.inl ⟨i - 1, by omega, by omega⟩)
        · by_cases c2 : i < 6
          · exact Or.inr (Or.inr (Or.inl ⟨i - 4, by omega, by omega⟩))
          · by_cases c3 : i < 10
            · exact Or.inr (Or.inr (Or.inr ⟨0, i - 6, by omega, by omega, by omega⟩))
            · exact Or.inr (Or.inr (Or.inr ⟨1, i - 10, by omega, by omega, by omega⟩))
    rcases hc with rfl | ⟨k, hk, rfl⟩ | ⟨w, hw, rfl⟩ | ⟨w, k, hw, hk, rfl⟩
    · exact h.sig.lt
    · obtain ⟨mc, h1, -⟩ := h.list k hk
      exact h1.lt
    · exact (h.mom w hw).lt
    · exact (h.row w hw k hk rfl rfl).lt
  · obtain ⟨mc, -, -, h3⟩ := h.list j hj
    obtain ⟨cap, r, -, -, h4, -⟩ := h3 h0
    exact h4.lt
/-- what lies elsewhere is kept -/
theorem RX.same (h : RX E α ξ M N H) {D : Nat → Nat → Prop} (hq : ∀ q : Nat, q < H.size → (∀ k i, xV N k i → D k i → q ≠ α k i) → H1[q]? = H[q]?) {k i : Nat} (hv : xV N k i) (hd : ¬ D k i) : H1[α k i]? = H[α k i]? :=
  hq _ (h.lt hv) (fun k' i' hv' hd' e => by obtain ⟨e1, e2⟩ := h.apart hv hv' e; subst e1 e2; exact hd hd')
theorem RX.frz2 (h : RX E α ξ M N H) {D : Nat → Nat → Prop} (hq : ∀ q : Nat, q < H.size → (∀ k i, xV N k i → D k i → q ≠ α k i) → H1[q]? = H[q]?) : ∀ q : Nat, q < E.2.1.heap.size → H1[q]? = E.2.1.heap[q]? := fun q hz =>
  (hq q (Nat.lt_of_lt_of_le hz (gFz.le h.frz)) (fun k i hv _ e => by have := h.ge k i hv; omega)).trans (h.frz q hz)
theorem RX.setSig (h : RX E α ξ M N H) (n : Nat) (hn : n ≤ 8) (hge : N 3 ≤ n) (h1 : gA E (α 3 0) (.inr (5, [.ref (α 3 1), .ref (α 3 2), .ref (α 3 3), .ref (α 3 4), .ref (α 3 5), .int (nI n)])) H1) (hq : ∀ q : Nat, q ≠ α 3 0 → H1[q]? = H[q]?) : RX E α ξ M (updN N 3 n) H1 := by
  have hN : ∀ k, k < 3 → updN N 3 n k = N k := fun k hk => if_neg (by omega)
  have hV : ∀ k i, xV (updN N 3 n) k i → xV N k i := fun k i v => by
    rcases v with ⟨hk, hi⟩ | ⟨rfl, hi | ⟨j, hj, rfl, h0⟩⟩
    · rw [hN k hk] at hi; exact Or.inl ⟨hk, hi⟩
    · exact xV_3 hi
    · rw [hN j hj] at h0; exact Or.inr ⟨rfl, Or.inr ⟨j, hj, rfl, h0⟩⟩
  have hs : ∀ {k i : Nat}, xV N k i → ¬ (k = 3 ∧ i = 0) → H1[α k i]? = H[α k i]? := fun {k i} hv hd => h.same (D := fun k i => k = 3 ∧ i = 0) (fun q _ z => hq q (z 3 0 (xV_3 (by omega)) ⟨rfl, rfl⟩)) hv hd
  obtain ⟨i0, i1, i2, i3, i4, i5, i6⟩ := h.inv
  obtain ⟨tg, htg⟩ := h.tag
  refine ⟨?_, fun w hw => (h.mom w hw).kept (hs (xV_3 (by omega)) (by omega)), fun w hw k hk => (h.row w hw k hk rfl rfl).kept (hs (xV_3 (by omega)) (by omega)), fun k hk => ?_, fun i hi => ?_, fun i hi => ?_, fun i hi => ?_, ⟨tg, fun k i v => htg k i (hV k i v)⟩, fun k i v => h.ge k i (hV k i v), h.frz2 (D := fun k i => k = 3 ∧ i = 0) (fun q _ z => hq q (z 3 0 (xV_3 (by omega)) ⟨rfl, rfl⟩)), ?_⟩
  · rw [show updN N 3 n 3 = n from if_pos rfl]
    exact h1
  · rw [hN k hk]
    exact (h.list k hk).keptL (hs (xV_3 (by omega)) (by omega)) (fun h0 => hs (Or.inr ⟨rfl, Or.inr ⟨k, hk, rfl, h0⟩⟩) (by omega))
  · rw [hN 0 (by omega)] at hi
    exact (h.pow hi).kept (hs (Or.inl ⟨by omega, hi⟩) (by omega))
  · rw [hN 1 (by omega)] at hi
    exact (h.deed hi).kept (hs (Or.inl ⟨by omega, hi⟩) (by omega))
  · rw [hN 2 (by omega)] at hi
    exact (h.pap hi).kept (hs (Or.inl ⟨by omega, hi⟩) (by omega))
  · have e3 : updN N 3 n 3 = n := if_pos rfl
    refine ⟨by rw [hN 0 (by omega)]; exact i0, by rw [hN 1 (by omega)]; exact i1, by rw [hN 2 (by omega)]; exact i2, by rw [e3]; exact hn, by rw [hN 0 (by omega)]; exact i4, ?_, ?_⟩
    · rw [hN 0 (by omega), e3]
      intro i hi
      obtain ⟨j, hj, e⟩ := i5 i hi
      exact ⟨j, by omega, e⟩
    · rw [hN 1 (by omega), e3]
      intro i hi
      obtain ⟨⟨j, hj, e⟩, h2⟩ := i6 i hi
      refine ⟨⟨j, by omega, e⟩, h2.imp id (fun ⟨j, hj, e⟩ => ⟨j, by omega, e⟩)⟩
/-- a moment by itself -/
def mq (α : Nat → Nat → Nat) (w : Nat) : Nat → Nat := fun k => α 3 (if k = 0 then 4 + w else 5 + 4 * w + k)
theorem RX.mo (h : RX E α ξ M N H) (w : Nat) (hw : w < 2) : gMo E (mq α w) (M w) H := by
  have e : ∀ k, 5 + 4 * w + (k + 1) = 6 + 4 * w + k := fun k => by omega
  refine ⟨?_, fun k hk => ?_, fun i j hi hj z => ?_⟩
  · have := h.mom w hw
    unfold mq
    simp only [if_true, if_neg (show ¬ (1 : Nat) = 0 by decide), if_neg (show ¬ (2 : Nat) = 0 by decide), if_neg (show ¬ (3 : Nat) = 0 by decide), if_neg (show ¬ (4 : Nat) = 0 by decide)]
    rw [show 5 + 4 * w + 1 = 6 + 4 * w by omega, show 5 + 4 * w + 2 = 7 + 4 * w by omega, show 5 + 4 * w + 3 = 8 + 4 * w by omega, show 5 + 4 * w + 4 = 9 + 4 * w by omega]
    exact this
  · have := h.row w hw k hk rfl rfl
    unfold mq
    rw [if_neg (by omega), e k]
    exact this
  · have z2 := (h.apart (xV_3 (by split <;> omega)) (xV_3 (by split <;> omega)) z).2
    split at z2 <;> split at z2 <;> omega
theorem RX.setMom (h : RX E α ξ M N H) (w : Nat) (hw : w < 2) {m : F2} (h1 : gMo E (mq α w) m H1) (hq : ∀ q : Nat, q < H.size → ¬ oA (mq α w) q → H1[q]? = H[q]?) : RX E α ξ (updM M w m) N H1 := by
  let D : Nat → Nat → Prop := fun k i => k = 3 ∧ (i = 4 + w ∨ ∃ j, j < 4 ∧ i = 6 + 4 * w + j)
  have hq' : ∀ q : Nat, q < H.size → (∀ k i, xV N k i → D k i → q ≠ α k i) → H1[q]? = H[q]? := fun q hz hd => hq q hz (fun ⟨k, hk, e⟩ => by
    by_cases hk0 : k = 0
    · subst hk0
      exact hd 3 (4 + w) (xV_3 (by omega)) ⟨rfl, Or.inl rfl⟩ e
    · refine hd 3 (5 + 4 * w + k) (xV_3 (by omega)) ⟨rfl, Or.inr ⟨k - 1, by omega, by omega⟩⟩ ?_
      rw [e]
      unfold mq
      rw [if_neg hk0])
  have hs : ∀ {k i : Nat}, xV N k i → ¬ D k i → H1[α k i]? = H[α k i]? := fun {k i} hv hd => h.same hq' hv hd
  refine ⟨h.sig.kept (hs (xV_3 (by omega)) (fun z => by rcases z.2 with z | ⟨j, hj, z⟩ <;> omega)), fun v hv => ?_, fun v hv k hk => ?_, fun k hk => ?_, fun i hi => (h.pow hi).kept (hs (Or.inl ⟨by omega, hi⟩) (fun z => absurd z.1 (by decide))), fun i hi => (h.deed hi).kept (hs (Or.inl ⟨by omega, hi⟩) (fun z => absurd z.1 (by decide))), fun i hi => (h.pap hi).kept (hs (Or.inl ⟨by omega, hi⟩) (fun z => absurd z.1 (by decide))), h.tag, h.ge, h.frz2 hq', h.inv⟩
  · by_cases c : v = w
    · subst c
      have := h1.1
      unfold mq at this
      simp only [if_true, if_neg (show ¬ (1 : Nat) = 0 by decide), if_neg (show ¬ (2 : Nat) = 0 by decide), if_neg (show ¬ (3 : Nat) = 0 by decide), if_neg (show ¬ (4 : Nat) = 0 by decide)] at this
      rw [show 5 + 4 * v + 1 = 6 + 4 * v by omega, show 5 + 4 * v + 2 = 7 + 4 * v by omega, show 5 + 4 * v + 3 = 8 + 4 * v by omega, show 5 + 4 * v + 4 = 9 + 4 * v by omega] at this
      rw [show updM M v m v = m from if_pos rfl]
      exact this
    · rw [show updM M w m v = M v from if_neg c]
      exact (h.mom v hv).kept (hs (xV_3 (by omega)) (fun z => by rcases z.2 with z | ⟨j, hj, z⟩ <;> omega))
  · by_cases c : v = w
    · subst c
      have := h1.2.1 k hk
      unfold mq at this
      rw [if_neg (by omega), show 5 + 4 * v + (k + 1) = 6 + 4 * v + k by omega] at this
      rw [show updM M v m v = m from if_pos rfl]
      exact this
    · rw [show updM M w m v = M v from if_neg c]
      exact (h.row v hv k hk rfl rfl).kept (hs (xV_3 (by omega)) (fun z => by rcases z.2 with z | ⟨j, hj, z⟩ <;> omega))
  · exact (h.list k hk).keptL (hs (xV_3 (by omega)) (fun z => by rcases z.2 with z | ⟨j, hj, z⟩ <;> omega)) (fun h0 => hs (Or.inr ⟨rfl, Or.inr ⟨k, hk, rfl, h0⟩⟩) (fun z => by rcases z.2 with z | ⟨j, hj, z⟩ <;> omega))
/-- a deed's fields change, those that it is born with do not -/
theorem RX.setDeed (h : RX E α ξ M N H) {i : Nat} (hi : i < N 1) {ξ' : F2} (h1 : gA E (α 1 i) (.inr (1, [.int (nI i), .int (ξ' 11 i), .int (ξ' 12 i), .int (ξ' 13 i), .int (ξ' 14 i), .int (ξ' 15 i), .int (ξ' 16 i), .int (ξ' 17 i), .int (ξ' 18 i), .int (ξ' 19 i), .int (ξ' 20 i), .int (ξ' 21 i), .int (ξ' 22 i), .int (ξ' 23 i), .int (ξ' 24 i), .int (ξ' 25 i)])) H1) (hq : ∀ q : Nat, q < H.size → q ≠ α 1 i → H1[q]? = H[q]?)
    (he : ∀ r j, (j ≠ i ∨ r ≤ 15 ∨ 26 ≤ r) → ξ' r j = ξ r j) : RX E α ξ' M N H1 := by
  let D : Nat → Nat → Prop := fun k j => k = 1 ∧ j = i
  have hq' : ∀ q : Nat, q < H.size → (∀ k j, xV N k j → D k j → q ≠ α k j) → H1[q]? = H[q]? := fun q hz hd => hq q hz (hd 1 i (Or.inl ⟨by omega, hi⟩) ⟨rfl, rfl⟩)
  have hs : ∀ {k j : Nat}, xV N k j → ¬ D k j → H1[α k j]? = H[α k j]? := fun {k j} hv hd => h.same hq' hv hd
  obtain ⟨i0, i1, i2, i3, i4, i5, i6⟩ := h.inv
  refine ⟨h.sig.kept (hs (xV_3 (by omega)) (fun z => absurd z.1 (by decide))), fun w hw => (h.mom w hw).kept (hs (xV_3 (by omega)) (fun z => absurd z.1 (by decide))), fun w hw k hk => (h.row w hw k hk rfl rfl).kept (hs (xV_3 (by omega)) (fun z => absurd z.1 (by decide))), fun k hk => (h.list k hk).keptL (hs (xV_3 (by omega)) (fun z => absurd z.1 (by decide))) (fun h0 => hs (Or.inr ⟨rfl, Or.inr ⟨k, hk, rfl, h0⟩⟩) (fun z => absurd z.1 (by decide))), fun j hj => ?_, fun j hj => ?_, fun j hj => ?_, h.tag, h.ge, h.frz2 hq', i0, i1, i2, i3, ?_, ?_, ?_⟩
  · have := (h.pow hj).kept (hs (Or.inl ⟨by omega, hj⟩) (fun z => absurd z.1 (by decide)))
    rw [he 1 j (by omega), he 2 j (by omega), he 3 j (by omega), he 4 j (by omega), he 5 j (by omega), he 6 j (by omega)]
    exact this
  · by_cases c : j = i
    · subst c
      exact h1
    · have := (h.deed hj).kept (hs (Or.inl ⟨by omega, hj⟩) (fun z => c z.2))
      have e := fun r => he r j (Or.inl c)
      rw [e, e, e, e, e, e, e, e, e, e, e, e, e, e, e]
      exact this
  · have := (h.pap hj).kept (hs (Or.inl ⟨by omega, hj⟩) (fun z => absurd z.1 (by decide)))
    rw [he 30 j (by omega), he 31 j (by omega), he 32 j (by omega)]
    exact this
  · intro j hj
    rw [he 6 j (by omega)]
    exact i4 j hj
  · intro j hj
    rw [he 1 j (by omega)]
    exact i5 j hj
  · intro j hj
    rw [he 11 j (by omega), he 12 j (by omega)]
    exact i6 j hj
end RXW
