/-! HOW MANY POWERS COME FROM p: along the chain from k -/
def cnI (v : F2) (p k n c z : Nat) : Prop := k < n ∧ ((z = 0 ∧ c = fCnt (fun t => fCome v t p) (k + 1)) ∨ ∃ q, z = q + 1 ∧ q < n ∧ fCnt (fun t => fCome v t p) (k + 1) = c + cif (fCome v q p) 1 0)
theorem cn_in {v : F2} {p k n c : Nat} (hk : k < n) (h : c = fCnt (fun t => fCome v t p) k) : cnI v p k n c (k + 1) := by
  refine ⟨hk, Or.inr ⟨k, rfl, hk, ?_⟩⟩
  by_cases e : fCome v k p
  · rw [fCnt_t (P := fun t => fCome v t p) (n := k) e, cif_pos e, h]
  · rw [fCnt_f (P := fun t => fCome v t p) (n := k) e, cif_neg e, h]; rfl
theorem cn_out {v : F2} {p k n c : Nat} (h : cnI v p k n c 0) : c = fCnt (fun t => fCome v t p) (k + 1) := by
  rcases h.2 with ⟨-, h⟩ | ⟨q, h, -⟩
  · exact h
  · omega
theorem cn_q {v : F2} {p k n c q : Nat} (h : cnI v p k n c (q + 1)) : q < n := by
  rcases h.2 with ⟨h, -⟩ | ⟨q', h, h2, -⟩
  · omega
  · omega
theorem fCome_le {v : F2} {n p : Nat} (hs : fSrc v n) (hn : n < 2 ^ 31) : ∀ q, q < n → fCome v q p → p ≤ q := by
  intro q
  induction q using Nat.strongRecOn with
  | ind q ih =>
    intro hq h
    rcases hs q hq with c | ⟨j, hj, c⟩
    · have := (fCome_0 c).mp h
      omega
    · rcases (fCome_s hs hn hq hj c).mp h with h | h
      · omega
      · have := ih j hj (by omega) h
        omega
theorem cn_next {v : F2} {p k n c c' q z2 : Nat} (hs : fSrc v n) (hn : n < 2 ^ 31) (hq : q < n) (hz : z2 ≤ q) (e : v 4 q = nI z2 - 1) (hc : (q = p ∧ c' = c + 1) ∨ (¬ q = p ∧ c' = c)) (h : cnI v p k n c (q + 1)) : cnI v p k n c' z2 := by
  obtain ⟨hk, h⟩ := h
  obtain ⟨q', e1, -, h9⟩ := h.resolve_left (fun z => absurd z.1 (by omega))
  have e2 : q' = q := by omega
  subst e2
  refine ⟨hk, ?_⟩
  rcases z2 with _ | j
  · refine Or.inl ⟨rfl, ?_⟩
    have c0 : v 4 q' < 0 := by rw [e]; decide
    rw [h9]
    rcases hc with ⟨a, b⟩ | ⟨a, b⟩
    · rw [cif_pos ((fCome_0 c0).mpr a), b]
    · rw [cif_neg (fun z => a ((fCome_0 c0).mp z)), b]; rfl
  · rw [nI_pred] at e
    refine Or.inr ⟨j, rfl, by omega, ?_⟩
    have hs2 := fCome_s (o := p) hs hn hq (by omega) e
    rw [h9]
    rcases hc with ⟨a, b⟩ | ⟨a, b⟩
    · have hn2 : ¬ fCome v j p := fun z => by have := fCome_le hs hn j (by omega) z; omega
      rw [cif_pos (hs2.mpr (Or.inl a)), cif_neg hn2, b]
    · by_cases g : fCome v j p
      · rw [cif_pos (hs2.mpr (Or.inr g)), cif_pos g, b]
      · rw [cif_neg (fun z => (hs2.mp z).elim a g), cif_neg g, b]
