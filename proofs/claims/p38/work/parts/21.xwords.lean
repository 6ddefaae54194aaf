/-! Signatory's words -/
theorem gL.rcv {E : gV} {a t n : Nat} {row : Nat → Nat} {H : Heap} (h : gL E a t n row H) : ∃ fs : List Value, va_at E.2.2.1 vwCl (a, .inr (0, fs)) H := by
  obtain ⟨mc, h1, -⟩ := h
  exact ⟨_, h1⟩
theorem srcV_n {α : Nat → Nat → Nat} {x : Int32} (h : x < 0) : srcV α x = .null := if_pos h
theorem srcV_s {α : Nat → Nat → Nat} {x : Int32} {q : Nat} (h : x = nI q) (hq : q < 2 ^ 31) : srcV α x = .ref (α 0 q) := by
  unfold srcV
  rw [h, if_neg (nI_pos hq), nI_clamp hq]
/-- a view of a moment -/
def xv (ξ m : F2) : F2 := fun k => match k with
  | 0 => m 0
  | 1 => m 1
  | 2 => ξ 4
  | 3 => ξ 5
  | 4 => ξ 6
  | 5 => ξ 1
  | 6 => ξ 2
  | 7 => m 2
  | 8 => ξ 3
  | _ => fun _ => 0
def xw (ξ : F2) : F2 := fun k => match k with
  | 0 => ξ 13
  | 1 => ξ 14
  | 2 => ξ 15
  | 3 => ξ 16
  | 4 => ξ 18
  | 5 => ξ 19
  | _ => fun _ => 0
theorem XI.src {ξ : F2} {N : Nat → Nat} (h : XI ξ N) (m : F2) : fSrc (xv ξ m) (N 0) := h.2.2.2.2.1
def fRes (a b : Int32) : Int32 := if a ≠ 45 then a else b
theorem fRes_45 (a : Int32) : fRes a 45 = a := by unfold fRes; split <;> simp_all
theorem fRes_as (a b c : Int32) : fRes (fRes a b) c = fRes a (fRes b c) := by unfold fRes; grind
theorem fRes_t {a b : Int32} (h : ¬ a = 45) : fRes a b = a := if_pos h
theorem fRes_f {a b : Int32} (h : a = 45) : fRes a b = b := if_neg (fun z => z h)
def xLe (v : F2) : Nat → Nat → Int32 → Int32
  | 0, _, a => a
  | n + 1, p, a => if v 4 p < 0 then a else xLe v n (v 4 p).toNatClampNeg (if v 0 (v 4 p).toNatClampNeg < a then v 0 (v 4 p).toNatClampNeg else a)
theorem xLe_fuel {v : F2} {np : Nat} (hs : fSrc v np) (hn : np < 2 ^ 31) : ∀ (q n m : Nat) (a : Int32), q < np → q ≤ n → q ≤ m → xLe v n q a = xLe v m q a := by
  intro q
  induction q using Nat.strongRecOn with
  | ind q ih =>
    intro n m a hq h1 h2
    rcases hs q hq with h | ⟨j, hj, h⟩
    · have e1 : ∀ n, xLe v n q a = a := fun n => by cases n with
        | zero => rfl
        | succ n => exact if_pos h
      rw [e1, e1]
    · obtain ⟨n, rfl⟩ : ∃ k, n = k + 1 := ⟨n - 1, by omega⟩
      obtain ⟨m, rfl⟩ : ∃ k, m = k + 1 := ⟨m - 1, by omega⟩
      have hc : (v 4 q).toNatClampNeg = j := by rw [h]; exact nI_clamp (by omega)
      simp only [xLe, hc]
      rw [ih j hj n m _ (by omega) (by omega) (by omega)]
theorem xLe_0 {v : F2} {a : Int32} {p : Nat} (h : v 4 p < 0) : xLe v p p a = a := by
  cases p with
  | zero => rfl
  | succ n => exact if_pos h
theorem xLe_s {v : F2} {a : Int32} {np p q : Nat} (hs : fSrc v np) (hn : np < 2 ^ 31) (hp : p < np) (hq : q < p) (h : v 4 p = nI q) : xLe v p p a = xLe v q q (if v 0 q < a then v 0 q else a) := by
  obtain ⟨k, rfl⟩ : ∃ k, p = k + 1 := ⟨p - 1, by omega⟩
  have hc : (v 4 (k + 1)).toNatClampNeg = q := by rw [h]; exact nI_clamp (by omega)
  have h0 : ¬ v 4 (k + 1) < 0 := by rw [h]; exact nI_pos (by omega)
  show (if v 4 (k + 1) < 0 then _ else _) = _
  rw [if_neg h0, hc]
  exact xLe_fuel hs hn q k q _ (by omega) (by omega) (Nat.le_refl _)
def xReach (v : F2) (td : Int32) (p : Nat) : Int32 := if fl v td 1 p ≠ 45 then 0 else xLe v p p (v 0 p)
noncomputable def fHnd (v : F2) (td i k s : Int32) : Nat → Int32
  | 0 => 0
  | n + 1 => cif (v 6 n = k ∧ fAct v i (v 5 n) ∧ fl v td s n = 45) (fHnd v td i k s n ||| fBit (v 8 n)) (fHnd v td i k s n)
abbrev fSuf (h o : Int32) : Prop := ¬ (h ||| o) &&& 1 = 0 ∨ (¬ h &&& 2 = 0 ∧ ¬ o &&& 4 = 0) ∨ (¬ h &&& 4 = 0 ∧ ¬ o &&& 2 = 0)
def fStep (v : F2) (td s : Int32) (p : Nat) : Int32 := if fl v td s p = 45 then -1 else nI (dpt v td s p)
theorem fRes_0 {v : F2} {td s f : Int32} {q : Nat} (h : v 4 q < 0) : fRes (fl v td s q) f = if fOwn v td s q = 45 then f else fOwn v td s q := by
  unfold fRes
  rw [fl_0 h]
  by_cases c : fOwn v td s q = 45 <;> simp [c]
theorem fRes_s {v : F2} {td s f : Int32} {np q q2 : Nat} (hs : fSrc v np) (hn : np < 2 ^ 31) (hp : q < np) (hq : q2 < q) (h : v 4 q = nI q2) : fRes (fl v td s q) f = fRes (fl v td s q2) (if fOwn v td s q = 45 then f else fOwn v td s q) := by
  unfold fRes
  rw [fl_s hs hn hp hq h]
  by_cases c : fl v td s q2 = 45 <;> by_cases d : fOwn v td s q = 45 <;> simp [c, d]
def fStV (v : F2) (td s : Int32) (q : Nat) (f : Int32) (n : Nat) : Int32 := if fl v td s q = 45 then f else nI (n + dpt v td s q)
theorem fStV_i (v : F2) (td s : Int32) (q : Nat) : fStV v td s q (-1) 0 = fStep v td s q := by unfold fStV fStep; rw [Nat.zero_add]
theorem fStV_0 {v : F2} {td s f : Int32} {q n : Nat} (h : v 4 q < 0) : fStV v td s q f n = if fOwn v td s q = 45 then f else nI n := by
  unfold fStV
  rw [fl_0 h, dpt_0 h]; rfl
theorem fStV_s {v : F2} {td s f : Int32} {np q q2 n : Nat} (hs : fSrc v np) (hn : np < 2 ^ 31) (hp : q < np) (hq : q2 < q) (h : v 4 q = nI q2) : fStV v td s q f n = fStV v td s q2 (if fOwn v td s q = 45 then f else nI n) (n + 1) := by
  unfold fStV
  rw [fl_s hs hn hp hq h, dpt_s hs hn hp hq h]
  by_cases c : fl v td s q2 = 45
  · simp [c]
  · rw [show n + 1 + dpt v td s q2 = n + (dpt v td s q2 + 1) by omega]
    simp [c]
-- hands
noncomputable def bts (P Q R : Prop) : Int32 := cif P 1 0 ||| cif Q 2 0 ||| cif R 4 0
theorem cif_iff {α : Type} {P P' : Prop} {a b : α} (h : P ↔ P') : cif P a b = cif P' a b := by rw [propext h]
theorem fHas_s {v : F2} {n : Nat} {td i k h s : Int32} : fHas v (n + 1) td i k h s ↔ fHas v n td i k h s ∨ (v 6 n = k ∧ v 8 n = h ∧ fAct v i (v 5 n) ∧ fl v td s n = 45) := by
  constructor
  · rintro ⟨p, hp, hh⟩
    by_cases e : p = n
    · subst e; exact Or.inr hh
    · exact Or.inl ⟨p, by omega, hh⟩
  · rintro (⟨p, hp, hh⟩ | hh)
    · exact ⟨p, by omega, hh⟩
    · exact ⟨n, by omega, hh⟩
theorem fHas_z {v : F2} {td i k h s : Int32} : ¬ fHas v 0 td i k h s := fun ⟨p, hp, _⟩ => by omega
theorem bts_or (P Q R : Prop) (h : Int32) : bts P Q R ||| fBit h = bts (P ∨ h = 115) (Q ∨ h = 97) (R ∨ h = 98) := by
  by_cases c1 : h = 115
  · subst c1
    by_cases p : P <;> by_cases q : Q <;> by_cases r : R <;> simp only [bts, cif_pos, cif_neg, p, q, r, true_or, or_true, or_false, false_or, not_false_eq_true, show ¬ (115 : Int32) = 97 by decide, show ¬ (115 : Int32) = 98 by decide] <;> decide
  · by_cases c2 : h = 97
    · subst c2
      by_cases p : P <;> by_cases q : Q <;> by_cases r : R <;> simp only [bts, cif_pos, cif_neg, p, q, r, true_or, or_true, or_false, false_or, not_false_eq_true, show ¬ (97 : Int32) = 115 by decide, show ¬ (97 : Int32) = 98 by decide] <;> decide
    · by_cases c3 : h = 98
      · subst c3
        by_cases p : P <;> by_cases q : Q <;> by_cases r : R <;> simp only [bts, cif_pos, cif_neg, p, q, r, true_or, or_true, or_false, false_or, not_false_eq_true, show ¬ (98 : Int32) = 115 by decide, show ¬ (98 : Int32) = 97 by decide] <;> decide
      · have e : fBit h = 0 := by unfold fBit; rw [if_neg c1, if_neg c2, if_neg c3]
        rw [e]
        by_cases p : P <;> by_cases q : Q <;> by_cases r : R <;> simp only [bts, cif_pos, cif_neg, p, q, r, c1, c2, c3, true_or, or_true, or_false, false_or, not_false_eq_true] <;> decide
theorem fHnd_eq {v : F2} {td i k s : Int32} : ∀ n, fHnd v td i k s n = bts (fHas v n td i k 115 s) (fHas v n td i k 97 s) (fHas v n td i k 98 s) := by
  intro n
  induction n with
  | zero =>
    unfold bts
    rw [cif_neg fHas_z, cif_neg fHas_z, cif_neg fHas_z]; rfl
  | succ n ih =>
    show cif _ _ _ = _
    by_cases c : v 6 n = k ∧ fAct v i (v 5 n) ∧ fl v td s n = 45
    · have e : ∀ h : Int32, (fHas v n td i k h s ∨ v 8 n = h) = fHas v (n + 1) td i k h s := fun h => propext ⟨fun z => fHas_s.mpr (z.imp id (fun z => ⟨c.1, z, c.2⟩)), fun z => (fHas_s.mp z).imp id (fun z => z.2.1)⟩
      rw [cif_pos c, ih, bts_or, e, e, e]
    · have e : ∀ h : Int32, fHas v n td i k h s = fHas v (n + 1) td i k h s := fun h => propext ⟨fun z => fHas_s.mpr (Or.inl z), fun z => (fHas_s.mp z).elim id (fun z => (c ⟨z.1, z.2.2⟩).elim)⟩
      rw [cif_neg c, ih, e, e, e]
theorem bts_1 (P Q R : Prop) : fSuf (bts P Q R) 0 ↔ P := by
  by_cases p : P <;> by_cases q : Q <;> by_cases r : R <;> simp only [bts, cif_pos, cif_neg, p, q, r, not_false_eq_true, iff_true, iff_false] <;> decide
theorem fSuf_1 {v : F2} {n : Nat} {td i k s : Int32} : fSuf (fHnd v td i k s n) 0 ↔ fHas v n td i k 115 s := by rw [fHnd_eq]; exact bts_1 _ _ _
theorem bts_2 (P Q R P' Q' R' : Prop) : fSuf (bts P Q R) (bts P' Q' R') ↔ (P ∨ P') ∨ (Q ∧ R') ∨ (R ∧ Q') := by
  by_cases p : P <;> by_cases q : Q <;> by_cases r : R <;> by_cases p' : P' <;> by_cases q' : Q' <;> by_cases r' : R' <;> simp only [bts, cif_pos, cif_neg, p, q, r, p', q', r', not_false_eq_true, and_true, and_false, true_and, false_and, or_true, or_false, true_or, false_or, iff_true, iff_false] <;> decide
theorem fSuf_2 {v : F2} {n : Nat} {td i j k s : Int32} : fSuf (fHnd v td i k s n) (fHnd v td j k s n) ↔ fTog v n td i j k s := by rw [fHnd_eq, fHnd_eq]; exact bts_2 _ _ _ _ _ _
/-- a deed's cell -/
def gD (E : gV) (a d : Nat) (δ : Nat → Int32) (H : Heap) : Prop := gA E a (.inr (1, [.int (nI d), .int (δ 1), .int (δ 2), .int (δ 3), .int (δ 4), .int (δ 5), .int (δ 6), .int (δ 7), .int (δ 8), .int (δ 9), .int (δ 10), .int (δ 11), .int (δ 12), .int (δ 13), .int (δ 14), .int (δ 15)])) H
theorem RX.gd {E : gV} {α : Nat → Nat → Nat} {ξ : F2} {M : Nat → F2} {N : Nat → Nat} {H : Heap} (h : RX E α ξ M N H) {i : Nat} (hi : i < N 1) : gD E (α 1 i) i (fun k => ξ (10 + k) i) H := h.deed hi
theorem mOk_1 {v : F2} {n : Nat} {td i j k s : Int32} (h : j = -1) : fSuf (fHnd v td i k s n) 0 ↔ mOk v n td i j k s :=
  fSuf_1.trans ⟨fun z => Or.inl ⟨by rw [h]; decide, z⟩, fun z => z.elim (fun z => z.2) (fun z => absurd (show j < 0 by rw [h]; decide) z.1)⟩
theorem mOk_2 {v : F2} {n : Nat} {td i j k s : Int32} (h : ¬ j < 0) : fSuf (fHnd v td i k s n) (fHnd v td j k s n) ↔ mOk v n td i j k s :=
  fSuf_2.trans ⟨fun z => Or.inr ⟨h, z⟩, fun z => z.elim (fun z => (h z.1).elim) (fun z => z.2)⟩
theorem pr_among {n : Nat} (h : n ≤ 8) : nI n * (nI n - 1) / 2 = nI (n * (n - 1) / 2) := by
  rcases (by omega : n = 0 ∨ n = 1 ∨ n = 2 ∨ n = 3 ∨ n = 4 ∨ n = 5 ∨ n = 6 ∨ n = 7 ∨ n = 8) with h | h | h | h | h | h | h | h | h <;> subst h <;> decide
