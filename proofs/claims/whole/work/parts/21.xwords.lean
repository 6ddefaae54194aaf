/-! Signatory's words -/
theorem gL.rcv {E : gV} {a t n : Nat} {row : Nat → Nat} {H : Heap} (h : gL E a t n row H) : ∃ fs : List Value, va_at E.2.2.1 vwCl (a, .inr (0, fs)) H := by
  obtain ⟨mc, h1, -⟩ := h
  exact ⟨_, h1⟩
theorem srcV_n {α : Nat → Nat → Nat} {x : Int32} (h : x < 0) : srcV α x = .null := if_pos h
theorem srcV_s {α : Nat → Nat → Nat} {x : Int32} {q : Nat} (h : x = nI q) (hq : q < 2 ^ 31) : srcV α x = .ref (α 0 q) := by
  unfold srcV
  rw [h, if_neg (nI_pos hq), nI_clamp hq]
/-- a view of a moment -/
def xv (ξ m : F2) : F2 := fun k => match k with
  | 0 => m 0
  | 1 => m 1
  | 2 => ξ 4
  | 3 => ξ 5
  | 4 => ξ 6
  | 5 => ξ 1
  | 6 => ξ 2
  | 7 => m 2
  | 8 => ξ 3
  | _ => fun _ => 0
def xw (ξ : F2) : F2 := fun k => match k with
  | 0 => ξ 13
  | 1 => ξ 14
  | 2 => ξ 15
  | 3 => ξ 16
  | 4 => ξ 18
  | 5 => ξ 19
  | _ => fun _ => 0
theorem XI.src {ξ : F2} {N : Nat → Nat} (h : XI ξ N) (m : F2) : fSrc (xv ξ m) (N 0) := h.2.2.2.2.1
def fRes (a b : Int32) : Int32 := if a ≠ 45 then a else b
theorem fRes_45 (a : Int32) : fRes a 45 = a := by unfold fRes; split <;> simp_all
theorem fRes_as (a b c : Int32) : fRes (fRes a b) c = fRes a (fRes b c) := by unfold fRes; grind
theorem fRes_t {a b : Int32} (h : ¬ a = 45) : fRes a b = a := if_pos h
theorem fRes_f {a b : Int32} (h : a = 45) : fRes a b = b := if_neg (fun z => z h)
def xLe (v : F2) : Nat → Nat → Int32 → Int32
  | 0, _, a => a
  | n + 1, p, a => if v 4 p < 0 then a else xLe v n (v 4 p).toNatClampNeg (if v 0 (v 4 p).toNatClampNeg < a then v 0 (v 4 p).toNatClampNeg else a)
theorem xLe_fuel {v : F2} {np : Nat} (hs : fSrc v np) (hn : np < 2 ^ 31) : ∀ (q n m : Nat) (a : Int32), q < np → q ≤ n → q ≤ m → xLe v n q a = xLe v m q a := by
  intro q
  induction q using Nat.strongRecOn with
  | ind q ih =>
    intro n m a hq h1 h2
    rcases hs q hq with h | ⟨j, hj, h⟩
    · have e1 : ∀ n, xLe v n q a = a := fun n => by cases n with
        | zero => rfl
        | succ n => exact if_pos h
      rw [e1, e1]
    · obtain ⟨n, rfl⟩ : ∃ k, n = k + 1 := ⟨n - 1, by omega⟩
      obtain ⟨m, rfl⟩ : ∃ k, m = k + 1 := ⟨m - 1, by omega⟩
      have hc : (v 4 q).toNatClampNeg = j := by rw [h]; exact nI_clamp (by omega)
      simp only [xLe, hc]
      rw [ih j hj n m _ (by omega) (by omega) (by omega)]
theorem xLe_0 {v : F2} {a : Int32} {p : Nat} (h : v 4 p < 0) : xLe v p p a = a := by
  cases p with
  | zero => rfl
  | succ n => exact if_pos h
theorem xLe_s {v : F2} {a : Int32} {np p q : Nat} (hs : fSrc v np) (hn : np < 2 ^ 31) (hp : p < np) (hq : q < p) (h : v 4 p = nI q) : xLe v p p a = xLe v q q (if v 0 q < a then v 0 q else a) := by
  obtain ⟨k, rfl⟩ : ∃ k, p = k + 1 := ⟨p - 1, by omega⟩
  have hc : (v 4 (k + 1)).toNatClampNeg = q := by rw [h]; exact nI_clamp (by omega)
  have h0 : ¬ v 4 (k + 1) < 0 := by rw [h]; exact nI_pos (by omega)
  show (if v 4 (k + 1) < 0 then _ else _) = _
  rw [if_neg h0, hc]
  exact xLe_fuel hs hn q k q _ (by omega) (by omega) (Nat.le_refl _)
def xReach (v : F2) (td : Int32) (p : Nat) : Int32 := if fl v td 1 p ≠ 45 then 0 else xLe v p p (v 0 p)
noncomputable def fHnd (v : F2) (td i k s : Int32) : Nat → Int32
  | 0 => 0
  | n + 1 => cif (v 6 n = k ∧ fAct v i (v 5 n) ∧ fl v td s n = 45) (fHnd v td i k s n ||| fBit (v 8 n)) (fHnd v td i k s n)
abbrev fSuf (h o : Int32) : Prop := ¬ (h ||| o) &&& 1 = 0 ∨ (¬ h &&& 2 = 0 ∧ ¬ o &&& 4 = 0) ∨ (¬ h &&& 4 = 0 ∧ ¬ o &&& 2 = 0)
def fStep (v : F2) (td s : Int32) (p : Nat) : Int32 := if fl v td s p = 45 then -1 else nI (dpt v td s p)
