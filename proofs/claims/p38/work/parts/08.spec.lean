/-! WHAT BOTH SIDES SAY, in pure words. A view v: rows 0 limit, 1 revoked, 2 first, 3 last, 4 source, 5 holder, 6 kind, 7 substitute (-2: present), 8 hand -/
def fOwn (v : F2) (td s : Int32) (p : Nat) : Int32 := if v 2 p ≤ td ∧ td ≤ v 3 p then (if v 1 p ≠ 0 then 118 else if v 0 p < s then 108 else 45) else 100
def fFl (v : F2) (td s : Int32) : Nat → Nat → Int32
  | 0, p => fOwn v td s p
  | n + 1, p => if v 4 p < 0 then fOwn v td s p else if fFl v td s n (v 4 p).toNatClampNeg ≠ 45 then fFl v td s n (v 4 p).toNatClampNeg else fOwn v td s p
def fDp (v : F2) (td s : Int32) : Nat → Nat → Nat
  | 0, _ => 0
  | n + 1, p => if v 4 p < 0 then 0 else if fFl v td s n (v 4 p).toNatClampNeg ≠ 45 then fDp v td s n (v 4 p).toNatClampNeg + 1 else 0
/-- sources lie lower -/
def fSrc (v : F2) (np : Nat) : Prop := ∀ i, i < np → v 4 i < 0 ∨ ∃ j, j < i ∧ v 4 i = nI j
theorem fFl_fuel {v : F2} {td s : Int32} {np : Nat} (hs : fSrc v np) (hn : np < 2 ^ 31) : ∀ (q n m : Nat), q < np → q ≤ n → q ≤ m → fFl v td s n q = fFl v td s m q ∧ fDp v td s n q = fDp v td s m q := by
  intro q
  induction q using Nat.strongRecOn with
  | ind q ih =>
    intro n m hq h1 h2
    rcases hs q hq with h | ⟨j, hj, h⟩
    · have e1 : ∀ n, fFl v td s n q = fOwn v td s q := fun n => by cases n with
        | zero => rfl
        | succ n => exact if_pos h
      have e2 : ∀ n, fDp v td s n q = 0 := fun n => by cases n with
        | zero => rfl
        | succ n => exact if_pos h
      rw [e1, e1, e2, e2]; exact ⟨rfl, rfl⟩
    · obtain ⟨n, rfl⟩ : ∃ k, n = k + 1 := ⟨n - 1, by omega⟩
      obtain ⟨m, rfl⟩ : ∃ k, m = k + 1 := ⟨m - 1, by omega⟩
      have hc : (v 4 q).toNatClampNeg = j := by rw [h]; exact nI_clamp (by omega)
      have h3 := ih j hj n m (by omega) (by omega) (by omega)
      simp [fFl, fDp, hc, h3.1, h3.2]
def fl (v : F2) (td s : Int32) (p : Nat) : Int32 := fFl v td s p p
def dpt (v : F2) (td s : Int32) (p : Nat) : Nat := fDp v td s p p
theorem fl_0 {v : F2} {td s : Int32} {p : Nat} (h : v 4 p < 0) : fl v td s p = fOwn v td s p := by
  unfold fl
  cases p with
  | zero => rfl
  | succ n => exact if_pos h
theorem dpt_0 {v : F2} {td s : Int32} {p : Nat} (h : v 4 p < 0) : dpt v td s p = 0 := by
  unfold dpt
  cases p with
  | zero => rfl
  | succ n => exact if_pos h
theorem fl_s {v : F2} {td s : Int32} {np p q : Nat} (hs : fSrc v np) (hn : np < 2 ^ 31) (hp : p < np) (hq : q < p) (h : v 4 p = nI q) : fl v td s p = if fl v td s q ≠ 45 then fl v td s q else fOwn v td s p := by
  unfold fl
  obtain ⟨k, rfl⟩ : ∃ k, p = k + 1 := ⟨p - 1, by omega⟩
  have hc : (v 4 (k + 1)).toNatClampNeg = q := by rw [h]; exact nI_clamp (by omega)
  have h0 : ¬ v 4 (k + 1) < 0 := by rw [h]; exact nI_pos (by omega)
  have e := (fFl_fuel (td := td) (s := s) hs hn q k q (by omega) (by omega) (Nat.le_refl _)).1
  show (if v 4 (k + 1) < 0 then _ else _) = _
  rw [if_neg h0, hc, e]
theorem dpt_s {v : F2} {td s : Int32} {np p q : Nat} (hs : fSrc v np) (hn : np < 2 ^ 31) (hp : p < np) (hq : q < p) (h : v 4 p = nI q) : dpt v td s p = if fl v td s q ≠ 45 then dpt v td s q + 1 else 0 := by
  unfold fl dpt
  obtain ⟨k, rfl⟩ : ∃ k, p = k + 1 := ⟨p - 1, by omega⟩
  have hc : (v 4 (k + 1)).toNatClampNeg = q := by rw [h]; exact nI_clamp (by omega)
  have h0 : ¬ v 4 (k + 1) < 0 := by rw [h]; exact nI_pos (by omega)
  have e := fFl_fuel (td := td) (s := s) hs hn q k q (by omega) (by omega) (Nat.le_refl _)
  show (if v 4 (k + 1) < 0 then _ else _) = _
  rw [if_neg h0, hc, e.1, e.2]
theorem dpt_le {v : F2} {td s : Int32} {np : Nat} (hs : fSrc v np) (hn : np < 2 ^ 31) : ∀ p, p < np → dpt v td s p ≤ p := by
  intro p
  induction p using Nat.strongRecOn with
  | ind p ih =>
    intro hp
    rcases hs p hp with h | ⟨q, hq, h⟩
    · rw [dpt_0 h]; omega
    · rw [dpt_s hs hn hp hq h]
      have := ih q hq (by omega)
      split <;> omega
/-- somebody acts by the powers of the holder -/
def fAct (v : F2) (i h : Int32) : Prop := i = h ∨ v 7 h.toNatClampNeg = i
def fHas (v : F2) (np : Nat) (td i kind hand s : Int32) : Prop := ∃ p, p < np ∧ v 6 p = kind ∧ v 8 p = hand ∧ fAct v i (v 5 p) ∧ fl v td s p = 45
def fTog (v : F2) (np : Nat) (td i j kind s : Int32) : Prop := (fHas v np td i kind 115 s ∨ fHas v np td j kind 115 s) ∨ (fHas v np td i kind 97 s ∧ fHas v np td j kind 98 s) ∨ (fHas v np td i kind 98 s ∧ fHas v np td j kind 97 s)
/-- how many below n -/
noncomputable def fCnt (P : Nat → Prop) : Nat → Nat
  | 0 => 0
  | n + 1 => fCnt P n + @ite Nat (P n) (Classical.propDecidable _) 1 0
theorem fCnt_le (P : Nat → Prop) (n : Nat) : fCnt P n ≤ n := by
  induction n with
  | zero => exact Nat.le_refl _
  | succ n ih =>
    unfold fCnt
    by_cases h : P n
    · rw [if_pos h]; omega
    · rw [if_neg h]; omega
theorem fCnt_t {P : Nat → Prop} {n : Nat} (h : P n) : fCnt P (n + 1) = fCnt P n + 1 := by
  show fCnt P n + @ite Nat (P n) (Classical.propDecidable _) 1 0 = _
  rw [if_pos h]
theorem fCnt_f {P : Nat → Prop} {n : Nat} (h : ¬ P n) : fCnt P (n + 1) = fCnt P n := by
  show fCnt P n + @ite Nat (P n) (Classical.propDecidable _) 1 0 = _
  rw [if_neg h]; rfl
theorem fCnt_congr {P P' : Nat → Prop} : ∀ {n : Nat}, (∀ i, i < n → (P i ↔ P' i)) → fCnt P n = fCnt P' n := by
  intro n
  induction n with
  | zero => intro _; rfl
  | succ n ih =>
    intro h
    have e := ih (fun i hi => h i (by omega))
    by_cases c : P n
    · rw [fCnt_t c, fCnt_t ((h n (by omega)).mp c), e]
    · rw [fCnt_f c, fCnt_f (fun q => c ((h n (by omega)).mpr q)), e]
/-- a power comes from another, by its source or itself -/
def fCm (v : F2) : Nat → Nat → Nat → Prop
  | 0, p, o => p = o
  | n + 1, p, o => p = o ∨ (¬ v 4 p < 0 ∧ fCm v n (v 4 p).toNatClampNeg o)
def fCome (v : F2) (p o : Nat) : Prop := fCm v p p o
theorem fCm_fuel {v : F2} {np : Nat} (hs : fSrc v np) (hn : np < 2 ^ 31) : ∀ (q n m o : Nat), q < np → q ≤ n → q ≤ m → (fCm v n q o ↔ fCm v m q o) := by
  intro q
  induction q using Nat.strongRecOn with
  | ind q ih =>
    intro n m o hq h1 h2
    rcases hs q hq with h | ⟨j, hj, h⟩
    · have e1 : ∀ n, fCm v n q o ↔ q = o := fun n => by cases n with
        | zero => exact Iff.rfl
        | succ n => exact ⟨fun a => a.elim id (fun a => absurd h a.1), Or.inl⟩
      rw [e1, e1]
    · obtain ⟨n, rfl⟩ : ∃ k, n = k + 1 := ⟨n - 1, by omega⟩
      obtain ⟨m, rfl⟩ : ∃ k, m = k + 1 := ⟨m - 1, by omega⟩
      have hc : (v 4 q).toNatClampNeg = j := by rw [h]; exact nI_clamp (by omega)
      have h3 := ih j hj n m o (by omega) (by omega) (by omega)
      simp only [fCm, hc, h3]
theorem fCome_0 {v : F2} {p o : Nat} (h : v 4 p < 0) : fCome v p o ↔ p = o := by
  unfold fCome
  cases p with
  | zero => exact Iff.rfl
  | succ n => exact ⟨fun a => a.elim id (fun a => absurd h a.1), Or.inl⟩
theorem fCome_s {v : F2} {np p q o : Nat} (hs : fSrc v np) (hn : np < 2 ^ 31) (hp : p < np) (hq : q < p) (h : v 4 p = nI q) : fCome v p o ↔ p = o ∨ fCome v q o := by
  unfold fCome
  obtain ⟨k, rfl⟩ : ∃ k, p = k + 1 := ⟨p - 1, by omega⟩
  have hc : (v 4 (k + 1)).toNatClampNeg = q := by rw [h]; exact nI_clamp (by omega)
  have h0 : ¬ v 4 (k + 1) < 0 := by rw [h]; exact nI_pos (by omega)
  have e := fCm_fuel hs hn q k q o (by omega) (by omega) (Nat.le_refl _)
  show _ ∨ _ ↔ _
  rw [hc, e]
  exact ⟨fun a => a.elim Or.inl (fun a => Or.inr a.2), fun a => a.elim Or.inl (fun a => Or.inr ⟨h0, a⟩)⟩
-- the model's view
def mv (μ : F2) : F2 := fun k => match k with
  | 0 => μ 5
  | 1 => μ 1
  | 2 => μ 6
  | 3 => μ 7
  | 4 => μ 8
  | 5 => μ 3
  | 6 => μ 4
  | 7 => fun j => if μ 0 j ≠ 0 then μ 2 j else -2
  | 8 => μ 9
  | _ => fun _ => 0
/-- what the model's rows keep to -/
def MI (μ : F2) (K : Nat → Nat) : Prop := K 0 ≤ 8 ∧ K 1 ≤ 20 ∧ K 2 ≤ 24 ∧ fSrc (mv μ) (K 1) ∧ (∀ i, i < K 1 → ∃ j, j < K 0 ∧ μ 3 i = nI j) ∧ (0 ≤ μ 22 0 ∧ μ 22 0 ≤ 999)
theorem isIn_1 {n : Nat} {p : Int32} (hn : n < 2 ^ 30) : (0 ≤ p ∧ p ≤ nI n - 1) ↔ isP n p := by
  have e : (nI n - 1).toInt = (n : Int) - 1 := by
    have h1 : nI n - 1 = nI n - nI 1 := rfl
    rw [h1]
    exact pk_sub_toInt (by omega) (by omega)
  simp only [isP, Int32.le_iff_toInt_le, Int32.lt_iff_toInt_lt, e, nI_toInt (show n < 2 ^ 31 by omega)]
  omega
def thr (r a : Int32) : Int32 := if r = 0 then 0 else a
theorem thr_0 {r a : Int32} (h : r = 0) : thr r a = 0 := if_pos h
theorem thr_1 {r a : Int32} (h : ¬ r = 0) : thr r a = a := if_neg h
