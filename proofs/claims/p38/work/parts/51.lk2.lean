/-! the link -/
/-- a deed with its history: n0 powers, n2 papers -/
def HD (ξ : F2) (n0 n2 d : Nat) : Prop := ∃ pk, pk ≤ n2 ∧ ξ 17 d = nI pk ∧ ξ 18 d = pSum ξ pk d ∧ 1 ≤ ξ 18 d ∧ (ξ 20 d = 45 ↔ mOk (xv ξ (rp ξ (ξ 16 d) pk)) n0 (ξ 16 d) (ξ 11 d) (ξ 12 d) (ξ 13 d) (ξ 18 d)) ∧ (ξ 19 d = 115 ↔ ξ 20 d = 45) ∧ (ξ 19 d = 114 ↔ ¬ ξ 23 d = -1) ∧
  (¬ ξ 23 d = -1 → ∃ pr, pr ≤ n2 ∧ ξ 25 d = nI pr ∧ fHas (xv ξ (rp ξ (ξ 24 d) pr)) n0 (ξ 24 d) (ξ 23 d) (ξ 13 d) 115 (ξ 18 d))
/-- a deed on both sides -/
def DL (ξ m μ : F2) (d : Nat) : Prop := (ξ 13 d = μ 10 d ∧ ξ 14 d = μ 11 d ∧ ξ 15 d = μ 12 d ∧ ξ 16 d = μ 13 d ∧ ξ 18 d = μ 14 d ∧ ξ 19 d = μ 17 d) ∧ (m 3 d = 0 ↔ ¬ μ 17 d = 110) ∧ (1 ≤ μ 11 d ∧ μ 11 d ≤ 9999) ∧ (μ 17 d = 115 ∨ μ 17 d = 119 ∨ μ 17 d = 114 ∨ μ 17 d = 110) ∧ (ξ 20 d = 45 ∨ ξ 20 d = 107 ∨ ξ 20 d = 100 ∨ ξ 20 d = 118 ∨ ξ 20 d = 108 ∨ ξ 20 d = 104) ∧
  (¬ ξ 20 d = 45 → ξ 20 d = μ 18 d ∧ ξ 21 d = μ 15 d ∧ ξ 22 d = μ 16 d ∧ (μ 15 d < 0 ↔ ξ 20 d = 107)) ∧ narrow .char (.int (μ 18 d)) = .int (μ 18 d)
/-- a power on both sides -/
def PL (ξ m μ : F2) (i : Nat) : Prop := (m 0 i = μ 5 i ∧ (m 1 i = 0 ↔ μ 1 i = 0) ∧ ξ 4 i = μ 6 i ∧ ξ 5 i = μ 7 i ∧ ξ 6 i = μ 8 i) ∧ (ξ 1 i = μ 3 i ∧ ξ 2 i = μ 4 i ∧ ξ 3 i = μ 9 i) ∧ (1 ≤ μ 5 i ∧ μ 5 i ≤ 99999) ∧ (μ 8 i < 0 → μ 8 i = -1) ∧ isHd (μ 9 i)
/-- a person on both sides -/
def QL (m μ : F2) (n j : Nat) : Prop := m 2 j = (if μ 0 j ≠ 0 then μ 2 j else -2) ∧ (j < n → μ 0 j = 0 → μ 2 j = -1) ∧ ¬ μ 2 j = -2 ∧ (n ≤ j → μ 0 j = 0)
def LK (ξ m : F2) (N : Nat → Nat) (μ : F2) (K : Nat → Nat) : Prop :=
  (N 0 = K 1 ∧ N 1 = K 2 ∧ N 3 = K 0) ∧ MI μ K ∧ (m 5 0 = μ 22 0 ∧ m 4 0 = μ 23 0) ∧ (∀ i, i < K 1 → PL ξ m μ i) ∧ (∀ i, K 1 ≤ i → m 1 i = 0 ∧ μ 1 i = 0) ∧ (∀ j, j < 8 → QL m μ (K 0) j) ∧ (∀ i, μ 1 i = 0 ∨ μ 1 i = 1) ∧ (∀ d, K 2 ≤ d → μ 16 d = 0 ∧ μ 18 d = 0) ∧ (∀ d, K 2 ≤ d → m 3 d = 0) ∧
  (∀ d, d < K 2 → DL ξ m μ d) ∧ (∀ t, t < N 2 → ξ 30 t = 0 → isP (N 0) (ξ 31 t)) ∧ m = rp ξ (m 5 0) (N 2) ∧ ∀ d, d < N 1 → HD ξ (N 0) (N 2) d
section LKA
variable {ξ m : F2} {N : Nat → Nat} {μ : F2} {K : Nat → Nat}
theorem LK.n0 (h : LK ξ m N μ K) : N 0 = K 1 := h.1.1
theorem LK.n1 (h : LK ξ m N μ K) : N 1 = K 2 := h.1.2.1
theorem LK.n3 (h : LK ξ m N μ K) : N 3 = K 0 := h.1.2.2
theorem LK.mi (h : LK ξ m N μ K) : MI μ K := h.2.1
theorem LK.td (h : LK ξ m N μ K) : m 5 0 = μ 22 0 := h.2.2.1.1
theorem LK.wd (h : LK ξ m N μ K) : m 4 0 = μ 23 0 := h.2.2.1.2
theorem LK.pl (h : LK ξ m N μ K) : ∀ i, i < K 1 → PL ξ m μ i := h.2.2.2.1
theorem LK.p1 (h : LK ξ m N μ K) : ∀ i, K 1 ≤ i → m 1 i = 0 ∧ μ 1 i = 0 := h.2.2.2.2.1
theorem LK.ql (h : LK ξ m N μ K) : ∀ j, j < 8 → QL m μ (K 0) j := h.2.2.2.2.2.1
theorem LK.r1 (h : LK ξ m N μ K) : ∀ i, μ 1 i = 0 ∨ μ 1 i = 1 := h.2.2.2.2.2.2.1
theorem LK.z16 (h : LK ξ m N μ K) : ∀ d, K 2 ≤ d → μ 16 d = 0 ∧ μ 18 d = 0 := h.2.2.2.2.2.2.2.1
theorem LK.z3 (h : LK ξ m N μ K) : ∀ d, K 2 ≤ d → m 3 d = 0 := h.2.2.2.2.2.2.2.2.1
theorem LK.dl (h : LK ξ m N μ K) : ∀ d, d < K 2 → DL ξ m μ d := h.2.2.2.2.2.2.2.2.2.1
theorem LK.pp (h : LK ξ m N μ K) : ∀ t, t < N 2 → ξ 30 t = 0 → isP (N 0) (ξ 31 t) := h.2.2.2.2.2.2.2.2.2.2.1
theorem LK.rpe (h : LK ξ m N μ K) : m = rp ξ (m 5 0) (N 2) := h.2.2.2.2.2.2.2.2.2.2.2.1
theorem LK.hd (h : LK ξ m N μ K) : ∀ d, d < N 1 → HD ξ (N 0) (N 2) d := h.2.2.2.2.2.2.2.2.2.2.2.2
theorem LK.we (h : LK ξ m N μ K) : wEq (xv ξ m) (mv μ) (N 0) := by
  obtain ⟨k0, k1, k2, ks, kh, -⟩ := h.mi
  have e0 := h.n0
  refine ⟨fun i hi => (h.pl i (by omega)).1, fun i hi => (h.pl i (by omega)).2.1, fun j hj => (h.ql j hj).1, ?_, fun i hi => ?_, by omega⟩
  · rw [e0]
    exact fSrc_eq (v := mv μ) (fun i hi => ((h.pl i hi).1.2.2.2.2).symm) ks
  · obtain ⟨j, hj, e⟩ := kh i (by omega)
    exact ⟨j, by omega, (h.pl i (by omega)).2.1.1.trans e⟩
theorem LK.hb1 (h : LK ξ m N μ K) : ∀ i, narrow .boolean (.int (μ 1 i)) = .int (μ 1 i) := fun i => by
  rcases h.r1 i with e | e <;> rw [e] <;> rfl
theorem hd_nar {x : Int32} (h : isHd x) : narrow .char (.int x) = .int x := by
  rcases h with e | e | e <;> rw [e] <;> rfl
theorem LK.hcs (h : LK ξ m N μ K) : ∀ i, i < K 1 → narrow .char (.int (μ 9 i)) = .int (μ 9 i) := fun i hi => hd_nar (h.pl i hi).2.2.2.2
theorem LK.hz (h : LK ξ m N μ K) : ∀ d, K 2 ≤ d → μ 16 d = 0 := fun d hd => (h.z16 d hd).1
theorem LK.h17 (h : LK ξ m N μ K) : ∀ i, i < K 2 → narrow .char (.int (μ 17 i)) = .int (μ 17 i) := fun i hi => by
  rcases (h.dl i hi).2.2.2.1 with e | e | e | e <;> rw [e] <;> rfl
theorem LK.h18 (h : LK ξ m N μ K) : ∀ i, i < K 2 → narrow .char (.int (μ 18 i)) = .int (μ 18 i) := fun i hi => (h.dl i hi).2.2.2.2.2.2
theorem LK.x19 (h : LK ξ m N μ K) : ∀ i, i < N 1 → narrow .char (.int (ξ 19 i)) = .int (ξ 19 i) := fun i hi => by
  have e := h.n1
  rw [(h.dl i (by omega)).1.2.2.2.2.2]
  exact h.h17 i (by omega)
theorem LK.x20 (h : LK ξ m N μ K) : ∀ i, i < N 1 → narrow .char (.int (ξ 20 i)) = .int (ξ 20 i) := fun i hi => by
  have e := h.n1
  rcases (h.dl i (by omega)).2.2.2.2.1 with e | e | e | e | e | e <;> rw [e] <;> rfl
theorem LK.hpw (h : LK ξ m N μ K) : ∀ i, i < N 1 → ∃ k, k ≤ N 2 ∧ ξ 17 i = nI k := fun i hi => by
  obtain ⟨pk, h1, h2, -⟩ := h.hd i hi
  exact ⟨pk, h1, h2⟩
theorem LK.hpr (h : LK ξ m N μ K) : ∀ i, i < N 1 → ¬ ξ 23 i = -1 → ∃ k, k ≤ N 2 ∧ ξ 25 i = nI k := fun i hi c => by
  obtain ⟨pk, -, -, -, -, -, -, -, h8⟩ := h.hd i hi
  obtain ⟨pr, h1, h2, -⟩ := h8 c
  exact ⟨pr, h1, h2⟩
theorem LK.ix0 (h : LK ξ m N μ K) {p : Int32} (hp : isP (K 0) p) : ix p < K 0 ∧ p = nI (ix p) := by
  obtain ⟨k0, k1, k2, -⟩ := h.mi
  obtain ⟨j, hj, rfl⟩ := isP_of hp (by omega)
  rw [show ix (nI j) = j from nI_clamp (by omega)]
  exact ⟨hj, rfl⟩
theorem LK.ix1 (h : LK ξ m N μ K) {p : Int32} (hp : isP (K 1) p) : ix p < K 1 ∧ p = nI (ix p) := by
  obtain ⟨k0, k1, k2, -⟩ := h.mi
  obtain ⟨j, hj, rfl⟩ := isP_of hp (by omega)
  rw [show ix (nI j) = j from nI_clamp (by omega)]
  exact ⟨hj, rfl⟩
theorem LK.ix2 (h : LK ξ m N μ K) {p : Int32} (hp : isP (K 2) p) : ix p < K 2 ∧ p = nI (ix p) := by
  obtain ⟨k0, k1, k2, -⟩ := h.mi
  obtain ⟨j, hj, rfl⟩ := isP_of hp (by omega)
  rw [show ix (nI j) = j from nI_clamp (by omega)]
  exact ⟨hj, rfl⟩
/-- history is kept as all grows -/
theorem HD.grow {ξ' : F2} {n0 n0' n2 n2' d : Nat} (h : HD ξ n0 n2 d) (h0 : n0 ≤ n0') (h2 : n2 ≤ n2') (h20 : n0' ≤ 20) (hd : ∀ r, 11 ≤ r → r < 26 → ξ' r d = ξ r d) (hs : ∀ t, t < d → ξ' 13 t = ξ 13 t ∧ ξ' 14 t = ξ 14 t ∧ ξ' 15 t = ξ 15 t ∧ ξ' 16 t = ξ 16 t)
    (hp : ∀ t, t < n2 → ξ' 30 t = ξ 30 t ∧ ξ' 31 t = ξ 31 t ∧ ξ' 32 t = ξ 32 t) (hw : ∀ i, i < n0 → ∀ r, 1 ≤ r → r < 7 → ξ' r i = ξ r i) (hsr : fSrc (fun _ => ξ 6) n0) (hsr' : fSrc (fun _ => ξ' 6) n0') (hh : ∀ i, i < n0 → ∃ j, j < 8 ∧ ξ 1 i = nI j) (hl : ∀ t, t < n2 → ξ 30 t = 0 → isP n0 (ξ 31 t)) : HD ξ' n0' n2' d := by
  have erp : ∀ dy k, k ≤ n2 → rp ξ' dy k = rp ξ dy k := fun dy k hk => rp_eq (fun t ht => hp t (by omega))
  have ew : ∀ dy k, k ≤ n2 → wEq (xv ξ (rp ξ dy k)) (xv ξ' (rp ξ' dy k)) n0 := fun dy k hk => by
    rw [erp dy k hk]
    exact ⟨fun i hi => ⟨rfl, Iff.rfl, (hw i hi 4 (by omega) (by omega)).symm, (hw i hi 5 (by omega) (by omega)).symm, (hw i hi 6 (by omega) (by omega)).symm⟩, fun i hi => ⟨(hw i hi 1 (by omega) (by omega)).symm, (hw i hi 2 (by omega) (by omega)).symm, (hw i hi 3 (by omega) (by omega)).symm⟩, fun j _ => rfl, hsr, hh, by omega⟩
  have el : ∀ dy k, k ≤ n2 → ∀ p, n0 ≤ p → p < n0' → xv ξ' (rp ξ' dy k) 0 p = 0 := fun dy k hk p h1 _ => by
    rw [erp dy k hk]
    exact rp_lim (by omega) (fun t ht => hl t (by omega)) p h1
  obtain ⟨pk, a1, a2, a3, a4, a5, a6, a7, a8⟩ := h
  have e := fun r h1 h2 => hd r h1 h2
  have e11 := e 11 (by omega) (by omega)
  have e12 := e 12 (by omega) (by omega)
  have e13 := e 13 (by omega) (by omega)
  have e14 := e 14 (by omega) (by omega)
  have e15 := e 15 (by omega) (by omega)
  have e16 := e 16 (by omega) (by omega)
  have e17 := e 17 (by omega) (by omega)
  have e18 := e 18 (by omega) (by omega)
  have e19 := e 19 (by omega) (by omega)
  have e20 := e 20 (by omega) (by omega)
  have e23 := e 23 (by omega) (by omega)
  have e24 := e 24 (by omega) (by omega)
  have e25 := e 25 (by omega) (by omega)
  refine ⟨pk, by omega, e17.trans a2, ?_, by rw [e18]; exact a4, ?_, by rw [e19, e20]; exact a6, by rw [e19, e23]; exact a7, fun c => ?_⟩
  · rw [e18, a3]
    unfold pSum
    rw [e16, e13, e15, e14, erp _ pk a1]
    exact (fAdd_congr (fun t ht => by
      obtain ⟨b1, b2, b3, b4⟩ := hs t ht
      exact ⟨b1, b2, b3, b4, Iff.rfl⟩)).symm
  · rw [e20, e16, e11, e12, e13, e18, a5]
    exact mOk_gr (ew _ pk a1) h0 hsr' (by omega) (el _ pk a1) a4
  · rw [e23] at c
    obtain ⟨pr, b1, b2, b3⟩ := a8 c
    refine ⟨pr, by omega, e25.trans b2, ?_⟩
    rw [e24, e23, e13, e18]
    exact (fHas_gr (ew _ pr b1) h0 hsr' (by omega) (el _ pr b1) a4).mp b3
end LKA
