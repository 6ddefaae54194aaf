/-! THE BEGINNING -/
theorem NL.new : NL (upd (fun _ => (0 : Int32)) (4) 30) mu0 nZ 0 := by
  have u : ∀ x, x ≠ 4 → upd (fun _ => (0 : Int32)) (4) 30 x = 0 := fun x h => upd_n _ _ h
  refine ⟨⟨u 0 (by omega), u 1 (by omega), u 2 (by omega)⟩, ⟨(show 0 ≤ 6 by omega), (show 0 ≤ 20 by omega), (show 0 ≤ 24 by omega), by omega⟩, ⟨0, by omega, u 3 (by omega), rfl⟩, ⟨30, by omega, by omega, upd_s _ _ _, rfl⟩, fun j hj => ⟨?_, Or.inl rfl⟩, fun j hj => absurd hj (Nat.not_lt_zero j), fun i hi => ?_, fun i hi => absurd hi (Nat.not_lt_zero i), fun d hd => absurd hd (Nat.not_lt_zero d)⟩
  · rw [u _ (by omega)]; rfl
  · rw [u _ (by omega)]; rfl
def BJ (E : gV) (nb a0 T z : Nat) (H : Heap) : Prop := ∃ (f : Nat → Int32) (μ : F2) (K : Nat → Nat), SI E nb a0 μ K 0 H ∧ gNet E nb f H ∧ NL f μ K 0 ∧ K 0 + z = T ∧ K 1 = 0
theorem NJ.to {E : gV} {nb a0 D D' n n' c c' : Nat} {H : Heap} (h : NJ E nb a0 D n c H) (h1 : D ≤ D') (h2 : D' ≤ 400) (h3 : n ≤ n') (h4 : c' ≤ c) : NJ E nb a0 D' n' c' H := by
  obtain ⟨f, μ, K, ⟨g1, g2, g3⟩, g4, g5⟩ := h
  exact ⟨f, μ, K, ⟨g1.mono h3, g2, g3.mono h1 h2⟩, g4, by omega⟩
theorem si_new {E : gV} {nb a t : Nat} {H : Heap} (hR : RX E (aNew a (a + 1) t) fZ (fun _ => mZ) nZ H) (hn : nb < a) (hl : nb < H.size) : SI E nb a mu0 nZ 0 H := by
  have hV : ∀ k i, xV nZ k i → k = 3 ∧ i < 14 := fun k i h => by
    rcases h with ⟨-, h⟩ | ⟨h, h1 | ⟨j, -, -, h1⟩⟩
    · exact absurd h (Nat.not_lt_zero i)
    · exact ⟨h, h1⟩
    · exact absurd h1 (Nat.not_lt_zero 0)
  refine ⟨aNew a (a + 1) t, fZ, fun _ => mZ, nZ, ⟨hR, fun k i v z => ?_, fun q z => by rw [show q = nb from z]; exact hl⟩, rfl, lk_new, Nat.le_refl _⟩
  obtain ⟨rfl, hi⟩ := hV k i v
  have z : aNew a (a + 1) t 3 i = nb := z
  unfold aNew at z
  simp only [if_true] at z
  (repeat' split at z) <;> omega
