/-! what is read: the same on both sides -/
theorem cif_c {α : Type} {P : Prop} {a b b' : α} (h : ¬ P → b = b') : cif P a b = cif P a b' := by
  by_cases c : P
  · rw [cif_pos c, cif_pos c]
  · rw [cif_neg c, cif_neg c, h c]
theorem cif_0 {P : Prop} {a b : Nat} (ha : a ≠ 0) (h : cif P a b = 0) : ¬ P ∧ b = 0 := by
  by_cases c : P
  · rw [cif_pos c] at h
    exact absurd h ha
  · rw [cif_neg c] at h
    exact ⟨c, h⟩
theorem nn {P : Prop} (h : ¬ ¬ P) : P := Classical.not_not.mp h
section LKR
variable {ξ m : F2} {N : Nat → Nat} {μ : F2} {K : Nat → Nat}
theorem LK.fle (h : LK ξ m N μ K) {p : Nat} {s : Int32} (hp : p < K 1) : fl (xv ξ m) (m 5 0) s p = fl (mv μ) (μ 22 0) s p := by
  rw [h.td]
  exact fl_eq h.we.1 h.we.2.2.2.1 h.we.2.2.2.2.2 (by have := h.n0; omega)
theorem LK.dpe (h : LK ξ m N μ K) {p : Nat} {s : Int32} (hp : p < K 1) : dpt (xv ξ m) (m 5 0) s p = dpt (mv μ) (μ 22 0) s p := by
  rw [h.td]
  exact dpt_eq h.we.1 h.we.2.2.2.1 h.we.2.2.2.2.2 (by have := h.n0; omega)
theorem LK.has (h : LK ξ m N μ K) {i k hd s : Int32} : fHas (xv ξ m) (N 0) (m 5 0) i k hd s ↔ fHas (mv μ) (K 1) (μ 22 0) i k hd s := by
  have e := fHas_eq (td := m 5 0) (i := i) (k := k) (hd := hd) (s := s) h.we
  rwa [h.td, h.n0] at e ⊢
theorem LK.tog (h : LK ξ m N μ K) {i j k s : Int32} : fTog (xv ξ m) (N 0) (m 5 0) i j k s ↔ fTog (mv μ) (K 1) (μ 22 0) i j k s := by
  have e := fTog_eq (td := m 5 0) (i := i) (j := j) (k := k) (s := s) h.we
  rwa [h.td, h.n0] at e ⊢
theorem LK.ok (h : LK ξ m N μ K) {i j k s : Int32} : mOk (xv ξ m) (N 0) (m 5 0) i j k s ↔ mOk (mv μ) (K 1) (μ 22 0) i j k s := by
  have e := mOk_eq (td := m 5 0) (i := i) (j := j) (k := k) (s := s) h.we
  rwa [h.td, h.n0] at e ⊢
theorem lk_actsFor (h : LK ξ m N μ K) (p o : Int32) : kActs (N 3) p o = kActs (K 0) p o ∧ (kActs (K 0) p o = 0 → (fAct (xv ξ m) p o ↔ fAct (mv μ) p o)) := by
  rw [h.n3]
  refine ⟨rfl, fun c => ?_⟩
  have c2 := (cif_0 (by decide) c).1
  have ho : isP (K 0) o := by grind
  obtain ⟨e1, e2⟩ := h.ix0 ho
  obtain ⟨k0, -⟩ := h.mi
  exact fAct_eq h.we.2.2.1 ⟨_, by omega, e2⟩
theorem lk_source (h : LK ξ m N μ K) (p : Int32) : kPow (N 0) p = kPow (K 1) p ∧ (kPow (K 1) p = 0 → (if ξ 6 (ix p) < 0 then -1 else ξ 6 (ix p)) = μ 8 (ix p)) := by
  rw [h.n0]
  refine ⟨rfl, fun c => ?_⟩
  obtain ⟨e1, e2⟩ := h.ix1 (nn (cif_0 (by decide) c).1)
  obtain ⟨⟨-, -, -, -, a⟩, -, -, b, -⟩ := h.pl _ e1
  rw [a]
  split
  · rename_i q
    exact (b q).symm
  · rfl
theorem lk_limit (h : LK ξ m N μ K) (p : Int32) : kPow (N 0) p = kPow (K 1) p ∧ (kPow (K 1) p = 0 → m 0 (ix p) = μ 5 (ix p)) := by
  rw [h.n0]
  refine ⟨rfl, fun c => ?_⟩
  obtain ⟨e1, e2⟩ := h.ix1 (nn (cif_0 (by decide) c).1)
  exact (h.pl _ e1).1.1
theorem lk_fault (h : LK ξ m N μ K) (p s : Int32) : kFault (N 0) p s = kFault (K 1) p s ∧ (kFault (K 1) p s = 0 → fl (xv ξ m) (m 5 0) s (ix p) = fl (mv μ) (μ 22 0) s (ix p)) := by
  rw [h.n0]
  refine ⟨rfl, fun c => ?_⟩
  obtain ⟨e1, e2⟩ := h.ix1 (nn (cif_0 (by decide) c).1)
  exact h.fle e1
theorem lk_faultDepth (h : LK ξ m N μ K) (p s : Int32) : kDepth (xv ξ m) (m 5 0) (N 0) p s = kDepth (mv μ) (μ 22 0) (K 1) p s ∧ (kDepth (mv μ) (μ 22 0) (K 1) p s = 0 → fStep (xv ξ m) (m 5 0) s (ix p) = nI (dpt (mv μ) (μ 22 0) s (ix p))) := by
  refine ⟨?_, fun c => ?_⟩
  · unfold kDepth
    rw [h.n0]
    refine cif_c (fun c => cif_c (fun _ => ?_))
    obtain ⟨e1, e2⟩ := h.ix1 (nn c)
    rw [h.fle e1]
  · obtain ⟨c1, c2⟩ := cif_0 (by decide) c
    obtain ⟨e1, e2⟩ := h.ix1 (nn c1)
    have c3 := (cif_0 (by decide) (cif_0 (by decide) c2).2).1
    unfold fStep
    rw [h.fle e1, h.dpe e1, if_neg c3]
-- reach
theorem mR1_1 {v : F2} {td : Int32} {p : Nat} (h : 1 ≤ v 0 p) (c : fOwn v td 1 p = 45) : mR1 v td p = v 0 p := by
  unfold fOwn at c
  unfold mR1
  by_cases a : v 2 p ≤ td ∧ td ≤ v 3 p
  · rw [if_pos a] at c
    by_cases b : v 1 p = 0
    · rw [if_pos ⟨a.1, a.2, b⟩]
    · rw [if_pos b] at c
      exact absurd c (by decide)
  · rw [if_neg a] at c
    exact absurd c (by decide)
theorem mR1_0 {v : F2} {td : Int32} {p : Nat} (h : 1 ≤ v 0 p) (c : ¬ fOwn v td 1 p = 45) : mR1 v td p = 0 := by
  unfold mR1
  refine if_neg (fun z => c ?_)
  unfold fOwn
  rw [if_pos ⟨z.1, z.2.1⟩, if_neg (fun q => q z.2.2), if_neg (Int32.not_lt.mpr h)]
theorem mR1_p {v : F2} {td : Int32} {p : Nat} (h : 1 ≤ v 0 p) : 0 ≤ mR1 v td p := by
  by_cases c : fOwn v td 1 p = 45
  · rw [mR1_1 h c]
    rw [Int32.le_iff_toInt_le] at h ⊢
    have e1 : (1 : Int32).toInt = 1 := by decide
    have e0 : (0 : Int32).toInt = 0 := by decide
    omega
  · rw [mR1_0 h c]
    exact Int32.le_refl 0
theorem mRe_a {v : F2} {td : Int32} {n : Nat} (hs : fSrc v n) (hn : n < 2 ^ 31) (hl : ∀ p, p < n → 1 ≤ v 0 p) : ∀ p, p < n → mRe v td p p 0 = 0 := by
  intro p
  induction p using Nat.strongRecOn with
  | ind p ih =>
    intro hp
    have e : (if mR1 v td p < 0 then mR1 v td p else 0) = 0 := if_neg (Int32.not_lt.mpr (mR1_p (hl p hp)))
    rcases hs p hp with c | ⟨q, hq, c⟩
    · rw [mRe_0 c, e]
    · rw [mRe_s hs hn hp hq c, e]
      exact ih q hq (by omega)
theorem mRe_x {v : F2} {td : Int32} {n : Nat} (hs : fSrc v n) (hn : n < 2 ^ 31) (hl : ∀ p, p < n → 1 ≤ v 0 p) : ∀ p a, p < n → 0 ≤ a → mRe v td p p a = if ¬ fl v td 1 p = 45 then 0 else xLe v p p (if v 0 p < a then v 0 p else a) := by
  intro p
  induction p using Nat.strongRecOn with
  | ind p ih =>
    intro a hp ha
    have lp := hl p hp
    have z0 : (if (0 : Int32) < a then (0 : Int32) else a) = 0 := by
      by_cases c : (0 : Int32) < a
      · exact if_pos c
      · rw [if_neg c]
        exact Int32.le_antisymm (Int32.not_lt.mp c) ha
    rcases hs p hp with c | ⟨q, hq, c⟩
    · rw [mRe_0 c, fl_0 c, xLe_0 c]
      by_cases o : fOwn v td 1 p = 45
      · rw [mR1_1 lp o, if_neg (not_not_intro o)]
      · rw [mR1_0 lp o, if_pos o, z0]
    · have e := mRe_s (td := td) (a := a) hs hn hp hq c
      rw [e, fl_s hs hn hp hq c]
      by_cases o : fOwn v td 1 p = 45
      · have ha' : 0 ≤ (if v 0 p < a then v 0 p else a) := by
          split
          · rw [← mR1_1 lp o]
            exact mR1_p lp
          · exact ha
        rw [mR1_1 lp o, ih q hq _ (by omega) ha', xLe_s hs hn hp hq c]
        by_cases f : fl v td 1 q = 45
        · have hq2 : (if fl v td 1 q ≠ 45 then fl v td 1 q else fOwn v td 1 p) = 45 := (if_neg (not_not_intro f)).trans o
          rw [hq2, if_neg (not_not_intro f), if_neg (not_not_intro rfl)]
        · have hq2 : (if fl v td 1 q ≠ 45 then fl v td 1 q else fOwn v td 1 p) = fl v td 1 q := if_pos f
          rw [hq2]
          try simp only [f, not_false_eq_true, if_true]
      · rw [mR1_0 lp o, z0, mRe_a hs hn hl q (by omega)]
        have hq2 : ¬ (if fl v td 1 q ≠ 45 then fl v td 1 q else fOwn v td 1 p) = 45 := by
          by_cases f : fl v td 1 q = 45
          · rw [if_neg (not_not_intro f)]
            exact o
          · rw [if_pos f]
            exact f
        rw [if_pos hq2]
theorem mRe_r {v : F2} {td : Int32} {n p : Nat} (hs : fSrc v n) (hn : n < 2 ^ 31) (hl : ∀ p, p < n → 1 ≤ v 0 p ∧ v 0 p ≤ 99999) (hp : p < n) : xReach v td p = mRe v td p p 99999 := by
  rw [mRe_x hs hn (fun p hp => (hl p hp).1) p _ hp (by decide)]
  unfold xReach
  have e : (if v 0 p < 99999 then v 0 p else 99999) = v 0 p := by
    by_cases c : v 0 p < 99999
    · exact if_pos c
    · rw [if_neg c]
      exact Int32.le_antisymm (Int32.not_lt.mp c) (hl p hp).2
  rw [e]
theorem xLe_eq {v v' : F2} {n : Nat} (h : vEq v v' n) (hs : fSrc v n) (hn : n < 2 ^ 31) : ∀ k p a, p < n → xLe v k p a = xLe v' k p a := by
  intro k
  induction k with
  | zero => intro p a hp; rfl
  | succ k ih =>
    intro p a hp
    have e4 := (h p hp).2.2.2.2
    rcases hs p hp with c | ⟨j, hj, c⟩
    · have c' : v' 4 p < 0 := e4 ▸ c
      simp only [xLe, if_pos c, if_pos c']
    · have hc : (v 4 p).toNatClampNeg = j := by rw [c]; exact nI_clamp (by omega)
      have hc' : (v' 4 p).toNatClampNeg = j := by rw [← e4]; exact hc
      have e0 := (h j (by omega)).1
      simp only [xLe, hc, hc', e4, e0]
      rw [ih j _ (by omega)]
theorem lk_reach (h : LK ξ m N μ K) (p : Int32) : kPow (N 0) p = kPow (K 1) p ∧ (kPow (K 1) p = 0 → xReach (xv ξ m) (m 5 0) (ix p) = mRe (mv μ) (μ 22 0) (ix p) (ix p) 99999) := by
  refine ⟨by rw [h.n0], fun c => ?_⟩
  obtain ⟨e1, e2⟩ := h.ix1 (nn (cif_0 (by decide) c).1)
  obtain ⟨k0, k1, k2, ks, -⟩ := h.mi
  rw [← mRe_r ks (by omega) (fun p hp => (h.pl p hp).2.2.1) e1]
  unfold xReach
  rw [h.fle e1, xLe_eq h.we.1 h.we.2.2.2.1 h.we.2.2.2.2.2 _ _ _ (by have := h.n0; omega), show xv ξ m 0 (ix p) = mv μ 0 (ix p) from (h.pl _ e1).1.1]
theorem lk_canSign (h : LK ξ m N μ K) (p k s : Int32) : kCan (N 3) p k s = kCan (K 0) p k s ∧ (kCan (K 0) p k s = 0 → (fHas (xv ξ m) (N 0) (m 5 0) p k 115 s ↔ fHas (mv μ) (K 1) (μ 22 0) p k 115 s)) := by
  rw [h.n3]
  exact ⟨rfl, fun _ => h.has⟩
theorem lk_canSignTogether (h : LK ξ m N μ K) (p o k s : Int32) : kTog (N 3) p o k s = kTog (K 0) p o k s ∧ (kTog (K 0) p o k s = 0 → (fTog (xv ξ m) (N 0) (m 5 0) p o k s ↔ fTog (mv μ) (K 1) (μ 22 0) p o k s)) := by
  rw [h.n3]
  exact ⟨rfl, fun _ => h.tog⟩
theorem lk_signers (h : LK ξ m N μ K) (k s : Int32) : nI (fCnt (fun t => fHas (xv ξ m) (N 0) (m 5 0) (nI t) k 115 s) (N 3)) = nI (fCnt (fun t => fHas (mv μ) (K 1) (μ 22 0) (nI t) k 115 s) (K 0)) := by
  rw [h.n3]
  exact congrArg nI (fCnt_congr (fun t _ => h.has))
-- pairs
theorem cnt_ex {P X : Nat → Prop} : ∀ k, fCnt (fun q => P q ∨ X q) k + fCnt (fun q => ¬ P q) k = k + fCnt (fun q => ¬ P q ∧ X q) k := by
  intro k
  induction k with
  | zero => rfl
  | succ k ih =>
    by_cases p : P k <;> by_cases x : X k
    · rw [fCnt_t (P := fun q => P q ∨ X q) (Or.inl p), fCnt_f (P := fun q => ¬ P q) (fun z => z p), fCnt_f (P := fun q => ¬ P q ∧ X q) (fun z => z.1 p)]; omega
    · rw [fCnt_t (P := fun q => P q ∨ X q) (Or.inl p), fCnt_f (P := fun q => ¬ P q) (fun z => z p), fCnt_f (P := fun q => ¬ P q ∧ X q) (fun z => z.1 p)]; omega
    · rw [fCnt_t (P := fun q => P q ∨ X q) (Or.inr x), fCnt_t (P := fun q => ¬ P q) p, fCnt_t (P := fun q => ¬ P q ∧ X q) ⟨p, x⟩]; omega
    · rw [fCnt_f (P := fun q => P q ∨ X q) (fun z => z.elim p x), fCnt_t (P := fun q => ¬ P q) p, fCnt_f (P := fun q => ¬ P q ∧ X q) (fun z => x z.2)]; omega
theorem cnt_or {P Q R : Nat → Prop} : ∀ k, fCnt (fun q => ¬ P q ∧ (R q ∨ Q q)) k + fCnt (fun q => ¬ P q ∧ Q q ∧ R q) k = fCnt (fun q => ¬ P q ∧ Q q) k + fCnt (fun q => ¬ P q ∧ R q) k := by
  intro k
  induction k with
  | zero => rfl
  | succ k ih =>
    by_cases p : P k
    · rw [fCnt_f (P := fun q => ¬ P q ∧ (R q ∨ Q q)) (fun z => z.1 p), fCnt_f (P := fun q => ¬ P q ∧ Q q ∧ R q) (fun z => z.1 p), fCnt_f (P := fun q => ¬ P q ∧ Q q) (fun z => z.1 p), fCnt_f (P := fun q => ¬ P q ∧ R q) (fun z => z.1 p)]; exact ih
    · by_cases q : Q k <;> by_cases r : R k
      · rw [fCnt_t (P := fun q => ¬ P q ∧ (R q ∨ Q q)) ⟨p, Or.inl r⟩, fCnt_t (P := fun q => ¬ P q ∧ Q q ∧ R q) ⟨p, q, r⟩, fCnt_t (P := fun q => ¬ P q ∧ Q q) ⟨p, q⟩, fCnt_t (P := fun q => ¬ P q ∧ R q) ⟨p, r⟩]; omega
      · rw [fCnt_t (P := fun q => ¬ P q ∧ (R q ∨ Q q)) ⟨p, Or.inr q⟩, fCnt_f (P := fun q => ¬ P q ∧ Q q ∧ R q) (fun z => r z.2.2), fCnt_t (P := fun q => ¬ P q ∧ Q q) ⟨p, q⟩, fCnt_f (P := fun q => ¬ P q ∧ R q) (fun z => r z.2)]; omega
      · rw [fCnt_t (P := fun q => ¬ P q ∧ (R q ∨ Q q)) ⟨p, Or.inl r⟩, fCnt_f (P := fun q => ¬ P q ∧ Q q ∧ R q) (fun z => q z.2.1), fCnt_f (P := fun q => ¬ P q ∧ Q q) (fun z => q z.2), fCnt_t (P := fun q => ¬ P q ∧ R q) ⟨p, r⟩]; omega
      · rw [fCnt_f (P := fun q => ¬ P q ∧ (R q ∨ Q q)) (fun z => z.2.elim r q), fCnt_f (P := fun q => ¬ P q ∧ Q q ∧ R q) (fun z => q z.2.1), fCnt_f (P := fun q => ¬ P q ∧ Q q) (fun z => q z.2), fCnt_f (P := fun q => ¬ P q ∧ R q) (fun z => r z.2)]; omega
abbrev cTg (P Q R : Nat → Prop) (a b : Nat) : Prop := (P a ∨ P b) ∨ (Q a ∧ R b) ∨ (R a ∧ Q b)
theorem pr_id {P Q R : Nat → Prop} : ∀ n : Nat, 2 * (fPr (cTg P Q R) n : Int) + fCnt (fun q => ¬ P q) n * ((fCnt (fun q => ¬ P q) n : Int) - 1) + fCnt (fun q => ¬ P q ∧ Q q ∧ R q) n * ((fCnt (fun q => ¬ P q ∧ Q q ∧ R q) n : Int) + 1) = n * ((n : Int) - 1) + 2 * (fCnt (fun q => ¬ P q ∧ Q q) n * fCnt (fun q => ¬ P q ∧ R q) n) := by
  intro n
  induction n with
  | zero => rfl
  | succ n ih =>
    have e : fPr (cTg P Q R) (n + 1) = fPr (cTg P Q R) n + fCnt (cTg P Q R n) n := rfl
    rw [e]
    by_cases p : P n
    · have c : fCnt (cTg P Q R n) n = n := by
        have := cnt_ex (P := fun _ => True) (X := fun _ => True) n
        have e1 : fCnt (cTg P Q R n) n = fCnt (fun q => True ∨ True) n := fCnt_congr (fun q _ => ⟨fun _ => Or.inl trivial, fun _ => Or.inl (Or.inl p)⟩)
        rw [e1]
        rw [fCnt_z (P := fun _ => ¬ True) (fun _ _ z => z trivial), fCnt_z (P := fun _ => ¬ True ∧ True) (fun _ _ z => z.1 trivial)] at this
        omega
      rw [c, fCnt_f (P := fun q => ¬ P q) (fun z => z p), fCnt_f (P := fun q => ¬ P q ∧ Q q ∧ R q) (fun z => z.1 p), fCnt_f (P := fun q => ¬ P q ∧ Q q) (fun z => z.1 p), fCnt_f (P := fun q => ¬ P q ∧ R q) (fun z => z.1 p)]
      push_cast
      grind
    · have c0 := cnt_ex (P := P) (X := fun q => (Q n ∧ R q) ∨ (R n ∧ Q q)) n
      have e1 : fCnt (cTg P Q R n) n = fCnt (fun q => P q ∨ ((Q n ∧ R q) ∨ (R n ∧ Q q))) n := fCnt_congr (fun q _ => ⟨fun z => z.elim (fun z => Or.inl (z.resolve_left p)) Or.inr, fun z => z.elim (fun z => Or.inl (Or.inr z)) Or.inr⟩)
      rw [e1, fCnt_t (P := fun q => ¬ P q) p]
      by_cases q : Q n <;> by_cases r : R n
      · have c1 : fCnt (fun t => ¬ P t ∧ ((Q n ∧ R t) ∨ (R n ∧ Q t))) n = fCnt (fun t => ¬ P t ∧ (R t ∨ Q t)) n := fCnt_congr (fun t _ => by simp [q, r])
        have c2 := cnt_or (P := P) (Q := Q) (R := R) n
        rw [fCnt_t (P := fun q => ¬ P q ∧ Q q ∧ R q) ⟨p, q, r⟩, fCnt_t (P := fun q => ¬ P q ∧ Q q) ⟨p, q⟩, fCnt_t (P := fun q => ¬ P q ∧ R q) ⟨p, r⟩]
        rw [c1] at c0
        push_cast
        generalize fCnt (fun q => P q ∨ ((Q n ∧ R q) ∨ (R n ∧ Q q))) n = x at *
        generalize fCnt (fun t => ¬ P t ∧ (R t ∨ Q t)) n = y at *
        generalize fCnt (fun q => ¬ P q ∧ Q q ∧ R q) n = c at *
        generalize fCnt (fun q => ¬ P q ∧ Q q) n = a at *
        generalize fCnt (fun q => ¬ P q ∧ R q) n = b at *
        generalize fCnt (fun q => ¬ P q) n = o at *
        generalize fPr (cTg P Q R) n = F at *
        have c0' : (x : Int) + o = n + y := by omega
        have c2' : (y : Int) + c = a + b := by omega
        grind
      · have c1 : fCnt (fun t => ¬ P t ∧ ((Q n ∧ R t) ∨ (R n ∧ Q t))) n = fCnt (fun t => ¬ P t ∧ R t) n := fCnt_congr (fun t _ => by simp [q, r])
        rw [fCnt_f (P := fun q => ¬ P q ∧ Q q ∧ R q) (fun z => r z.2.2), fCnt_t (P := fun q => ¬ P q ∧ Q q) ⟨p, q⟩, fCnt_f (P := fun q => ¬ P q ∧ R q) (fun z => r z.2)]
        rw [c1] at c0
        push_cast
        generalize fCnt (fun q => P q ∨ ((Q n ∧ R q) ∨ (R n ∧ Q q))) n = x at *
        generalize fCnt (fun q => ¬ P q ∧ Q q ∧ R q) n = c at *
        generalize fCnt (fun q => ¬ P q ∧ Q q) n = a at *
        generalize fCnt (fun q => ¬ P q ∧ R q) n = b at *
        generalize fCnt (fun q => ¬ P q) n = o at *
        generalize fPr (cTg P Q R) n = F at *
        have c0' : (x : Int) + o = n + b := by omega
        grind
      · have c1 : fCnt (fun t => ¬ P t ∧ ((Q n ∧ R t) ∨ (R n ∧ Q t))) n = fCnt (fun t => ¬ P t ∧ Q t) n := fCnt_congr (fun t _ => by simp [q, r])
        rw [fCnt_f (P := fun q => ¬ P q ∧ Q q ∧ R q) (fun z => q z.2.1), fCnt_f (P := fun q => ¬ P q ∧ Q q) (fun z => q z.2), fCnt_t (P := fun q => ¬ P q ∧ R q) ⟨p, r⟩]
        rw [c1] at c0
        push_cast
        generalize fCnt (fun q => P q ∨ ((Q n ∧ R q) ∨ (R n ∧ Q q))) n = x at *
        generalize fCnt (fun q => ¬ P q ∧ Q q ∧ R q) n = c at *
        generalize fCnt (fun q => ¬ P q ∧ Q q) n = a at *
        generalize fCnt (fun q => ¬ P q ∧ R q) n = b at *
        generalize fCnt (fun q => ¬ P q) n = o at *
        generalize fPr (cTg P Q R) n = F at *
        have c0' : (x : Int) + o = n + a := by omega
        grind
      · have c1 : fCnt (fun t => ¬ P t ∧ ((Q n ∧ R t) ∨ (R n ∧ Q t))) n = 0 := fCnt_z (fun t _ z => z.2.elim (fun z => q z.1) (fun z => r z.1))
        rw [fCnt_f (P := fun q => ¬ P q ∧ Q q ∧ R q) (fun z => q z.2.1), fCnt_f (P := fun q => ¬ P q ∧ Q q) (fun z => q z.2), fCnt_f (P := fun q => ¬ P q ∧ R q) (fun z => r z.2)]
        rw [c1] at c0
        push_cast
        generalize fCnt (fun q => P q ∨ ((Q n ∧ R q) ∨ (R n ∧ Q q))) n = x at *
        generalize fCnt (fun q => ¬ P q ∧ Q q ∧ R q) n = c at *
        generalize fCnt (fun q => ¬ P q ∧ Q q) n = a at *
        generalize fCnt (fun q => ¬ P q ∧ R q) n = b at *
        generalize fCnt (fun q => ¬ P q) n = o at *
        generalize fPr (cTg P Q R) n = F at *
        have c0' : (x : Int) + o = n := by omega
        grind
theorem tri2 {k : Nat} (h : k ≤ 8) : ((k * (k - 1) / 2 : Nat) : Int) * 2 = k * ((k : Int) - 1) := by
  rcases (by omega : k = 0 ∨ k = 1 ∨ k = 2 ∨ k = 3 ∨ k = 4 ∨ k = 5 ∨ k = 6 ∨ k = 7 ∨ k = 8) with h | h | h | h | h | h | h | h | h <;> subst h <;> rfl
theorem fPX_eq {n o a b c F : Nat} (hn : n ≤ 8) (ho : o ≤ 8) (hc : c ≤ 8) (h : 2 * (F : Int) + o * ((o : Int) - 1) + c * ((c : Int) + 1) = n * ((n : Int) - 1) + 2 * (a * b)) : fPX n o a b c = nI F := by
  have t1 := tri2 hn
  have t2 := tri2 ho
  have t3 := tri2 hc
  have hN : F + o * (o - 1) / 2 + c + c * (c - 1) / 2 = n * (n - 1) / 2 + a * b := by
    have e : ((a * b : Nat) : Int) = a * b := by push_cast; rfl
    have e3 : (c : Int) * ((c : Int) + 1) = c * ((c : Int) - 1) + 2 * c := by grind
    have : ((F + o * (o - 1) / 2 + c + c * (c - 1) / 2 : Nat) : Int) = ((n * (n - 1) / 2 + a * b : Nat) : Int) := by
      rw [e3, ← t1, ← t2, ← t3] at h
      push_cast at h ⊢
      omega
    omega
  have h32 : nI F + nI (o * (o - 1) / 2) + nI c + nI (c * (c - 1) / 2) = nI (n * (n - 1) / 2) + nI a * nI b := by
    rw [nI_add, nI_add, nI_add, pk_mul, nI_add, hN]
  unfold fPX
  grind
theorem lk_pairs (h : LK ξ m N μ K) (k s : Int32) : fPX (N 3) (fCnt (fun t => ¬ fHas (xv ξ m) (N 0) (m 5 0) (nI t) k 115 s) (N 3)) (fCnt (fun t => ¬ fHas (xv ξ m) (N 0) (m 5 0) (nI t) k 115 s ∧ fHas (xv ξ m) (N 0) (m 5 0) (nI t) k 97 s) (N 3)) (fCnt (fun t => ¬ fHas (xv ξ m) (N 0) (m 5 0) (nI t) k 115 s ∧ fHas (xv ξ m) (N 0) (m 5 0) (nI t) k 98 s) (N 3)) (fCnt (fun t => ¬ fHas (xv ξ m) (N 0) (m 5 0) (nI t) k 115 s ∧ fHas (xv ξ m) (N 0) (m 5 0) (nI t) k 97 s ∧ fHas (xv ξ m) (N 0) (m 5 0) (nI t) k 98 s) (N 3)) = nI (fPr (fun a b => fTog (mv μ) (K 1) (μ 22 0) (nI a) (nI b) k s) (K 0)) := by
  have e : ∀ hd, (fun t => fHas (xv ξ m) (N 0) (m 5 0) (nI t) k hd s) = fun t => fHas (mv μ) (K 1) (μ 22 0) (nI t) k hd s := fun hd => funext (fun t => propext h.has)
  have e115 : ∀ t, fHas (xv ξ m) (N 0) (m 5 0) (nI t) k 115 s = fHas (mv μ) (K 1) (μ 22 0) (nI t) k 115 s := fun t => propext h.has
  have e97 : ∀ t, fHas (xv ξ m) (N 0) (m 5 0) (nI t) k 97 s = fHas (mv μ) (K 1) (μ 22 0) (nI t) k 97 s := fun t => propext h.has
  have e98 : ∀ t, fHas (xv ξ m) (N 0) (m 5 0) (nI t) k 98 s = fHas (mv μ) (K 1) (μ 22 0) (nI t) k 98 s := fun t => propext h.has
  obtain ⟨k0, -⟩ := h.mi
  simp only [e115, e97, e98]
  rw [h.n3]
  have c1 := fCnt_le (fun t => ¬ fHas (mv μ) (K 1) (μ 22 0) (nI t) k 115 s) (K 0)
  have c2 := fCnt_le (fun t => ¬ fHas (mv μ) (K 1) (μ 22 0) (nI t) k 115 s ∧ fHas (mv μ) (K 1) (μ 22 0) (nI t) k 97 s ∧ fHas (mv μ) (K 1) (μ 22 0) (nI t) k 98 s) (K 0)
  exact fPX_eq k0 (by omega) (by omega) (pr_id (P := fun t => fHas (mv μ) (K 1) (μ 22 0) (nI t) k 115 s) (Q := fun t => fHas (mv μ) (K 1) (μ 22 0) (nI t) k 97 s) (R := fun t => fHas (mv μ) (K 1) (μ 22 0) (nI t) k 98 s) (K 0))
theorem fTr_st {C : Nat → Nat → Prop} {n : Nat} : ∀ q, q ≤ n → fTr C (n + 1) q = fTr C n q + fCnt (fun p => C p n) q := by
  intro q
  induction q with
  | zero => intro _; rfl
  | succ q ih =>
    intro hq
    show fTr C (n + 1) q + fCnt (fun o => q < o ∧ C q o) (n + 1) = fTr C n q + fCnt (fun o => q < o ∧ C q o) n + _
    rw [ih (by omega)]
    by_cases c : C q n
    · rw [fCnt_t (P := fun o => q < o ∧ C q o) ⟨by omega, c⟩, fCnt_t (P := fun p => C p n) c]; omega
    · rw [fCnt_f (P := fun o => q < o ∧ C q o) (fun z => c z.2), fCnt_f (P := fun p => C p n) c]; omega
theorem fTr_pr {C : Nat → Nat → Prop} : ∀ n, fTr C n n = fPr (fun a b => C b a) n := by
  intro n
  induction n with
  | zero => rfl
  | succ n ih =>
    show fTr C (n + 1) n + fCnt (fun o => n < o ∧ C n o) (n + 1) = fPr (fun a b => C b a) n + _
    rw [fTr_st n (Nat.le_refl n), ih, fCnt_z (P := fun o => n < o ∧ C n o) (fun i hi z => by omega)]
    rfl
theorem fPr_congr {C C' : Nat → Nat → Prop} : ∀ n, (∀ a b, C a b ↔ C' a b) → fPr C n = fPr C' n := by
  intro n h
  induction n with
  | zero => rfl
  | succ n ih =>
    show fPr C n + _ = fPr C' n + _
    rw [ih, fCnt_congr (fun i _ => h n i)]
theorem fTog_sy {v : F2} {n : Nat} {td i j k s : Int32} : fTog v n td i j k s ↔ fTog v n td j i k s := by
  unfold fTog
  constructor <;> intro z <;> rcases z with (z | z) | ⟨z1, z2⟩ | ⟨z1, z2⟩
  · exact Or.inl (Or.inr z)
  · exact Or.inl (Or.inl z)
  · exact Or.inr (Or.inr ⟨z2, z1⟩)
  · exact Or.inr (Or.inl ⟨z2, z1⟩)
  · exact Or.inl (Or.inr z)
  · exact Or.inl (Or.inl z)
  · exact Or.inr (Or.inr ⟨z2, z1⟩)
  · exact Or.inr (Or.inl ⟨z2, z1⟩)
theorem lk_pairsByTrying (h : LK ξ m N μ K) (k s : Int32) : nI (fTr (fun p o => fTog (xv ξ m) (N 0) (m 5 0) (nI p) (nI o) k s) (N 3) (N 3)) = nI (fPr (fun a b => fTog (mv μ) (K 1) (μ 22 0) (nI a) (nI b) k s) (K 0)) := by
  rw [fTr_pr, h.n3]
  exact congrArg nI (fPr_congr _ (fun a b => h.tog.trans fTog_sy))
-- deeds
theorem lk_status (h : LK ξ m N μ K) (d : Int32) : kPow (N 1) d = kPow (K 2) d ∧ (kPow (K 2) d = 0 → ξ 19 (ix d) = μ 17 (ix d)) := by
  rw [h.n1]
  refine ⟨rfl, fun c => ?_⟩
  obtain ⟨e1, e2⟩ := h.ix2 (nn (cif_0 (by decide) c).1)
  exact (h.dl _ e1).1.2.2.2.2.2
theorem lk_sum (h : LK ξ m N μ K) (d : Int32) : kPow (N 1) d = kPow (K 2) d ∧ (kPow (K 2) d = 0 → ξ 18 (ix d) = μ 14 (ix d)) := by
  rw [h.n1]
  refine ⟨rfl, fun c => ?_⟩
  obtain ⟨e1, e2⟩ := h.ix2 (nn (cif_0 (by decide) c).1)
  exact (h.dl _ e1).1.2.2.2.2.1
theorem lk_sumByPapers (h : LK ξ m N μ K) (hn : N 2 ≤ 512) (d r : Int32) : kPow (N 1) d = kPow (K 2) d ∧ (kPow (K 2) d = 0 → (∃ pk, pk ≤ N 2 ∧ ξ 17 (ix d) = nI pk ∧ r = pSum ξ pk (ix d)) → r = μ 14 (ix d)) := by
  refine ⟨by rw [h.n1], fun c ⟨pk, p1, p2, p3⟩ => ?_⟩
  obtain ⟨e1, e2⟩ := h.ix2 (nn (cif_0 (by decide) c).1)
  obtain ⟨pk', q1, q2, q3, -⟩ := h.hd (ix d) (by have := h.n1; omega)
  have e : pk = pk' := (nI_eq (by omega) (by omega)).mp (p2.symm.trans q2)
  subst e
  rw [p3, ← q3]
  exact (h.dl _ e1).1.2.2.2.2.1
theorem lk_stands (h : LK ξ m N μ K) (d : Int32) : kPow (N 1) d = kPow (K 2) d ∧ (kPow (K 2) d = 0 → (isGd (ξ 19 (ix d)) ↔ μ 17 (ix d) = 115 ∨ μ 17 (ix d) = 114)) := by
  refine ⟨by rw [h.n1], fun c => ?_⟩
  rw [(lk_status h d).2 c]
  exact Iff.rfl
theorem lk_standsByPapers (h : LK ξ m N μ K) (hn : N 2 ≤ 512) (d r : Int32) : kPow (N 1) d = kPow (K 2) d ∧ (kPow (K 2) d = 0 → (∃ pk, pk ≤ N 2 ∧ ξ 17 (ix d) = nI pk ∧ bz (pStd ξ (N 0) (N 2) pk (ix d)) r) → bz (μ 17 (ix d) = 115 ∨ μ 17 (ix d) = 114) r) := by
  refine ⟨by rw [h.n1], fun c ⟨pk, p1, p2, p3⟩ => p3.iff ?_⟩
  obtain ⟨e1, e2⟩ := h.ix2 (nn (cif_0 (by decide) c).1)
  obtain ⟨pk', q1, q2, q3, q4, q5, q6, q7, q8⟩ := h.hd (ix d) (by have := h.n1; omega)
  have e : pk = pk' := (nI_eq (by omega) (by omega)).mp (p2.symm.trans q2)
  subst e
  rw [← (lk_status h d).2 c]
  unfold pStd
  rw [rp_5, ← q3, ← q5, ← q6, q7]
  constructor
  · rintro (z | ⟨z, -⟩)
    · exact Or.inl z
    · exact Or.inr z
  · rintro (z | z)
    · exact Or.inl z
    · obtain ⟨pr, a1, a2, a3⟩ := q8 z
      exact Or.inr ⟨z, pr, a1, a2, by rw [rp_5]; exact a3⟩
theorem LK.lk45 (h : LK ξ m N μ K) {d : Nat} (hd : d < K 2) : ξ 20 d = 45 ↔ μ 17 d = 115 := by
  obtain ⟨pk, q1, q2, q3, q4, q5, q6, q7, q8⟩ := h.hd d (by have := h.n1; omega)
  rw [← q6, (h.dl d hd).1.2.2.2.2.2]
theorem lk_lack (h : LK ξ m N μ K) (d : Int32) : kLackX (ξ 20) (N 1) d = kLack (mw μ) (K 2) d ∧ (kLack (mw μ) (K 2) d = 0 → ξ 20 (ix d) = μ 18 (ix d)) := by
  refine ⟨?_, fun c => ?_⟩
  · unfold kLackX kLack
    rw [h.n1]
    refine cif_c (fun c => ?_)
    obtain ⟨e1, e2⟩ := h.ix2 (nn c)
    exact cif_iff (h.lk45 e1)
  · obtain ⟨c1, c2⟩ := cif_0 (by decide) c
    obtain ⟨e1, e2⟩ := h.ix2 (nn c1)
    have c3 : ¬ μ 17 (ix d) = 115 := (cif_0 (by decide) c2).1
    exact ((h.dl _ e1).2.2.2.2.2.1 (fun z => c3 ((h.lk45 e1).mp z))).1
theorem lk_lackY (h : LK ξ m N μ K) (d : Int32) : kLackY (ξ 20) (N 1) d = kLackP (mw μ) (μ 15) (K 2) d ∧ (kLackP (mw μ) (μ 15) (K 2) d = 0 → ξ 21 (ix d) = μ 15 (ix d) ∧ ξ 22 (ix d) = μ 16 (ix d)) := by
  refine ⟨?_, fun c => ?_⟩
  · unfold kLackY kLackP
    rw [h.n1]
    refine cif_c (fun c => ?_)
    obtain ⟨e1, e2⟩ := h.ix2 (nn c)
    refine cif_iff ?_
    have a := h.lk45 e1
    by_cases z : ξ 20 (ix d) = 45
    · exact ⟨fun _ => Or.inl (a.mp z), fun _ => Or.inl z⟩
    · have b := ((h.dl _ e1).2.2.2.2.2.1 z).2.2.2
      exact ⟨fun q => q.elim (fun q => absurd q z) (fun q => Or.inr (b.mpr q)), fun q => q.elim (fun q => absurd (a.mpr q) z) (fun q => Or.inr (b.mp q))⟩
  · obtain ⟨c1, c2⟩ := cif_0 (by decide) c
    obtain ⟨e1, e2⟩ := h.ix2 (nn c1)
    have c3 := (cif_0 (by decide) c2).1
    have c4 : ¬ ξ 20 (ix d) = 45 := fun z => c3 (Or.inl ((h.lk45 e1).mp z))
    obtain ⟨-, a, b, -⟩ := (h.dl _ e1).2.2.2.2.2.1 c4
    exact ⟨a, b⟩
theorem lk_bound (h : LK ξ m N μ K) : fBd (xw ξ) (N 1) = fBd (mw μ) (K 2) := by
  rw [h.n1]
  have : ∀ q, q ≤ K 2 → fBd (xw ξ) q = fBd (mw μ) q := by
    intro q
    induction q with
    | zero => intro _; rfl
    | succ q ih =>
      intro hq
      obtain ⟨⟨-, e14, -, -, -, e19⟩, -⟩ := h.dl q (by omega)
      show cif (ξ 19 q = 115 ∨ ξ 19 q = 114) (fBd (xw ξ) q + (ξ 14 q).toInt64) (fBd (xw ξ) q) = cif (μ 17 q = 115 ∨ μ 17 q = 114) (fBd (mw μ) q + (μ 11 q).toInt64) (fBd (mw μ) q)
      rw [ih (by omega), e14, e19]
  exact this _ (Nat.le_refl _)
theorem lk_share (h : LK ξ m N μ K) : kShare (N 1) = kShare (K 2) ∧ FP.fdiv (FP.i2f (nI (fCnt (fun t => isGd (ξ 19 t)) (N 1)))) (FP.i2f (nI (N 1))) = FP.fdiv (FP.i2f (nI (fCnt (fun t => μ 17 t = 115 ∨ μ 17 t = 114) (K 2)))) (FP.i2f (nI (K 2))) := by
  rw [h.n1]
  refine ⟨rfl, ?_⟩
  rw [fCnt_congr (P := fun t => isGd (ξ 19 t)) (P' := fun t => μ 17 t = 115 ∨ μ 17 t = 114) (fun t ht => by
    show isGd (ξ 19 t) ↔ _
    rw [(h.dl t ht).1.2.2.2.2.2]
    exact Iff.rfl)]
end LKR
