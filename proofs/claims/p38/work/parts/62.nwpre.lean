/-! THE LAW'S WRAPPERS, over the class as the law sees it -/
abbrev nB (nb : Nat) : Nat → Prop := fun q => q = nb
def wX : Nat → Int32
  | 0 => -900001
  | 1 => -900002
  | 2 => -900003
  | _ => -900004
/-- what a wrapper leaves: its value and the new words, or the exception's number and the old words -/
def wP (E : gV) (nb a0 : Nat) (μ : F2) (K : Nat → Nat) (n code : Nat) (μ' : F2) (K' : Nat → Nat) (n' : Nat) (Pv : Int32 → Prop) (r : Int32) (H : Heap) : Prop := (code = 0 ∧ Pv r ∧ SI E nb a0 μ' K' n' H) ∨ ∃ k, code = k + 1 ∧ r = wX k ∧ SI E nb a0 μ K n H
theorem wP.ok {E : gV} {nb a0 : Nat} {μ μ' : F2} {K K' : Nat → Nat} {n n' code : Nat} {Pv : Int32 → Prop} {r : Int32} {H : Heap} (h : wP E nb a0 μ K n code μ' K' n' Pv r H) (hk : code = 0) : Pv r ∧ SI E nb a0 μ' K' n' H := by
  rcases h with ⟨-, h1, h2⟩ | ⟨k, h1, -⟩
  · exact ⟨h1, h2⟩
  · omega
theorem wP.no {E : gV} {nb a0 : Nat} {μ μ' : F2} {K K' : Nat → Nat} {n n' code : Nat} {Pv : Int32 → Prop} {r : Int32} {H : Heap} (h : wP E nb a0 μ K n code μ' K' n' Pv r H) (k : Nat) (hk : code = k + 1) : r = wX k ∧ SI E nb a0 μ K n H := by
  rcases h with ⟨h1, -⟩ | ⟨k', h1, h2, h3⟩
  · omega
  · have e : k' = k := by omega
    subst e
    exact ⟨h2, h3⟩
def wPs (E : gV) (nb a0 : Nat) (μ : F2) (K : Nat → Nat) (n : Nat) (r : UInt32) (H : Heap) : Prop := (kShare (K 2) = 0 ∧ r = FP.fdiv (FP.i2f (nI (fCnt (fun t => μ 17 t = 115 ∨ μ 17 t = 114) (K 2)))) (FP.i2f (nI (K 2))) ∧ SI E nb a0 μ K n H) ∨ kShare (K 2) = 1 ∧ r = 3378231824 ∧ SI E nb a0 μ K n H
