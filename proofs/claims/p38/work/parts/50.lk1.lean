/-! THE LINK OF BOTH SIDES, in pure words. First: views that agree -/
def vEq (v v' : F2) (n : Nat) : Prop := ∀ i, i < n → v 0 i = v' 0 i ∧ (v 1 i = 0 ↔ v' 1 i = 0) ∧ v 2 i = v' 2 i ∧ v 3 i = v' 3 i ∧ v 4 i = v' 4 i
theorem fOwn_eq {v v' : F2} {n p : Nat} {td s : Int32} (h : vEq v v' n) (hp : p < n) : fOwn v td s p = fOwn v' td s p := by
  obtain ⟨h0, h1, h2, h3, h4⟩ := h p hp
  unfold fOwn
  rw [h0, h2, h3]
  by_cases c : v 1 p = 0
  · have c' := h1.mp c
    simp [c, c']
  · have c' : ¬ v' 1 p = 0 := fun z => c (h1.mpr z)
    simp [c, c']
theorem fFl_eq {v v' : F2} {n : Nat} {td s : Int32} (h : vEq v v' n) (hs : fSrc v n) (hn : n < 2 ^ 31) : ∀ k p, p < n → fFl v td s k p = fFl v' td s k p ∧ fDp v td s k p = fDp v' td s k p := by
  intro k
  induction k with
  | zero => intro p hp; exact ⟨fOwn_eq h hp, rfl⟩
  | succ k ih =>
    intro p hp
    have e4 := (h p hp).2.2.2.2
    have eo : fOwn v td s p = fOwn v' td s p := fOwn_eq h hp
    rcases hs p hp with c | ⟨j, hj, c⟩
    · have c' : v' 4 p < 0 := e4 ▸ c
      simp only [fFl, fDp, if_pos c, if_pos c', eo, and_self]
    · have hc : (v 4 p).toNatClampNeg = j := by rw [c]; exact nI_clamp (by omega)
      have hc' : (v' 4 p).toNatClampNeg = j := by rw [← e4]; exact hc
      have i := ih j (by omega)
      simp only [fFl, fDp, hc, hc', i.1, i.2, eo, e4, and_self]
theorem fl_eq {v v' : F2} {n p : Nat} {td s : Int32} (h : vEq v v' n) (hs : fSrc v n) (hn : n < 2 ^ 31) (hp : p < n) : fl v td s p = fl v' td s p := (fFl_eq h hs hn p p hp).1
theorem dpt_eq {v v' : F2} {n p : Nat} {td s : Int32} (h : vEq v v' n) (hs : fSrc v n) (hn : n < 2 ^ 31) (hp : p < n) : dpt v td s p = dpt v' td s p := (fFl_eq h hs hn p p hp).2
theorem fSrc_eq {v v' : F2} {n : Nat} (h : ∀ i, i < n → v 4 i = v' 4 i) (hs : fSrc v n) : fSrc v' n := fun i hi => by rw [← h i hi]; exact hs i hi
theorem fSrc_le {v : F2} {n n' : Nat} (h : n ≤ n') (hs : fSrc v n') : fSrc v n := fun i hi => hs i (by omega)
/-- agree in all -/
def wEq (v v' : F2) (n : Nat) : Prop := vEq v v' n ∧ (∀ i, i < n → v 5 i = v' 5 i ∧ v 6 i = v' 6 i ∧ v 8 i = v' 8 i) ∧ (∀ j, j < 8 → v 7 j = v' 7 j) ∧ fSrc v n ∧ (∀ i, i < n → ∃ j, j < 8 ∧ v 5 i = nI j) ∧ n < 2 ^ 31
theorem fAct_eq {v v' : F2} {i h : Int32} (h7 : ∀ j, j < 8 → v 7 j = v' 7 j) (hh : ∃ j, j < 8 ∧ h = nI j) : fAct v i h ↔ fAct v' i h := by
  obtain ⟨j, hj, rfl⟩ := hh
  unfold fAct
  rw [nI_clamp (by omega), h7 j hj]
theorem fHas_eq {v v' : F2} {n : Nat} {td i k hd s : Int32} (h : wEq v v' n) : fHas v n td i k hd s ↔ fHas v' n td i k hd s := by
  obtain ⟨h0, h5, h7, hs, hh, hn⟩ := h
  constructor
  · rintro ⟨p, hp, a, b, c, d⟩
    obtain ⟨e5, e6, e8⟩ := h5 p hp
    exact ⟨p, hp, e6 ▸ a, e8 ▸ b, e5 ▸ (fAct_eq h7 (hh p hp)).mp c, (fl_eq h0 hs hn hp) ▸ d⟩
  · rintro ⟨p, hp, a, b, c, d⟩
    obtain ⟨e5, e6, e8⟩ := h5 p hp
    exact ⟨p, hp, e6.symm ▸ a, e8.symm ▸ b, (fAct_eq h7 (hh p hp)).mpr (e5.symm ▸ c), (fl_eq h0 hs hn hp).symm ▸ d⟩
theorem fTog_eq {v v' : F2} {n : Nat} {td i j k s : Int32} (h : wEq v v' n) : fTog v n td i j k s ↔ fTog v' n td i j k s := by
  unfold fTog
  rw [fHas_eq h, fHas_eq h, fHas_eq h, fHas_eq h, fHas_eq h, fHas_eq h]
theorem mOk_eq {v v' : F2} {n : Nat} {td i j k s : Int32} (h : wEq v v' n) : mOk v n td i j k s ↔ mOk v' n td i j k s := by
  unfold mOk
  rw [fHas_eq h, fTog_eq h]
theorem fLk_eq {v v' : F2} {n : Nat} {td i j k s : Int32} (h : wEq v v' n) : ∀ q, q ≤ n → fLk v td i j k s q = fLk v' td i j k s q := by
  obtain ⟨h0, h5, h7, hs, hh, hn⟩ := h
  intro q
  induction q with
  | zero => intro _; rfl
  | succ q ih =>
    intro hq
    obtain ⟨e5, e6, e8⟩ := h5 q (by omega)
    have ef : fl v td s q = fl v' td s q := fl_eq h0 hs hn (by omega)
    have ed : dpt v td s q = dpt v' td s q := dpt_eq h0 hs hn (by omega)
    have ea : ∀ i, fAct v i (v 5 q) ↔ fAct v' i (v' 5 q) := fun i => by rw [← e5]; exact fAct_eq h7 (hh q (by omega))
    show cif _ _ _ = cif _ _ _
    rw [ih (by omega), ef, ed, e6, propext (ea i), propext (ea j)]
theorem fCm_eq {v v' : F2} {n : Nat} (h : ∀ i, i < n → v 4 i = v' 4 i) (hs : fSrc v n) (hn : n < 2 ^ 31) : ∀ k p o, p < n → (fCm v k p o ↔ fCm v' k p o) := by
  intro k
  induction k with
  | zero => intro p o _; exact Iff.rfl
  | succ k ih =>
    intro p o hp
    have e4 := h p hp
    rcases hs p hp with c | ⟨j, hj, c⟩
    · have c' : v' 4 p < 0 := e4 ▸ c
      simp only [fCm, c, c', not_true_eq_false, false_and]
    · have hc : (v 4 p).toNatClampNeg = j := by rw [c]; exact nI_clamp (by omega)
      have hc' : (v' 4 p).toNatClampNeg = j := by rw [← e4]; exact hc
      simp only [fCm, hc, hc', ih j o (by omega), e4]
theorem fCome_eq {v v' : F2} {n p o : Nat} (h : ∀ i, i < n → v 4 i = v' 4 i) (hs : fSrc v n) (hn : n < 2 ^ 31) (hp : p < n) : fCome v p o ↔ fCome v' p o := fCm_eq h hs hn p p o hp
/-- more powers, which are told by no paper yet -/
theorem fl_own {v : F2} {n p : Nat} {td s : Int32} (hs : fSrc v n) (hn : n < 2 ^ 31) (hp : p < n) (h : fl v td s p = 45) : fOwn v td s p = 45 := by
  rcases hs p hp with c | ⟨q, hq, c⟩
  · rw [fl_0 c] at h
    exact h
  · rw [fl_s hs hn hp hq c] at h
    by_cases d : fl v td s q = 45
    · rwa [if_neg (fun z => z d)] at h
    · rw [if_pos d] at h
      exact absurd h d
theorem fHas_gr {v v' : F2} {n n' : Nat} {td i k hd s : Int32} (h : wEq v v' n) (hn : n ≤ n') (hs' : fSrc v' n') (hn' : n' < 2 ^ 31) (h0 : ∀ p, n ≤ p → p < n' → v' 0 p = 0) (hs : 1 ≤ s) : fHas v n td i k hd s ↔ fHas v' n' td i k hd s := by
  rw [fHas_eq h]
  constructor
  · rintro ⟨p, hp, z⟩
    exact ⟨p, by omega, z⟩
  · rintro ⟨p, hp, a, b, c, d⟩
    by_cases e : p < n
    · exact ⟨p, e, a, b, c, d⟩
    · exfalso
      have d2 := fl_own hs' hn' hp d
      have z0 := h0 p (by omega) hp
      have hpos : v' 0 p < s := by rw [z0]; rw [Int32.lt_iff_toInt_lt]; rw [Int32.le_iff_toInt_le] at hs; have e1 : (1 : Int32).toInt = 1 := by decide
                                   have e0 : (0 : Int32).toInt = 0 := by decide
                                   omega
      unfold fOwn at d2
      rw [if_pos hpos] at d2
      split at d2
      · split at d2 <;> exact absurd d2 (by decide)
      · exact absurd d2 (by decide)
theorem fTog_gr {v v' : F2} {n n' : Nat} {td i j k s : Int32} (h : wEq v v' n) (hn : n ≤ n') (hs' : fSrc v' n') (hn' : n' < 2 ^ 31) (h0 : ∀ p, n ≤ p → p < n' → v' 0 p = 0) (hs : 1 ≤ s) : fTog v n td i j k s ↔ fTog v' n' td i j k s := by
  unfold fTog
  rw [fHas_gr h hn hs' hn' h0 hs, fHas_gr h hn hs' hn' h0 hs, fHas_gr h hn hs' hn' h0 hs, fHas_gr h hn hs' hn' h0 hs, fHas_gr h hn hs' hn' h0 hs, fHas_gr h hn hs' hn' h0 hs]
theorem mOk_gr {v v' : F2} {n n' : Nat} {td i j k s : Int32} (h : wEq v v' n) (hn : n ≤ n') (hs' : fSrc v' n') (hn' : n' < 2 ^ 31) (h0 : ∀ p, n ≤ p → p < n' → v' 0 p = 0) (hs : 1 ≤ s) : mOk v n td i j k s ↔ mOk v' n' td i j k s := by
  unfold mOk
  rw [fHas_gr h hn hs' hn' h0 hs, fTog_gr h hn hs' hn' h0 hs]
-- the papers taken again
theorem tk_5 (m : F2) (a b v : Int32) : tk m a b v 5 = m 5 := by
  unfold tk cif
  funext i
  (repeat' split) <;> first | rfl | exact up2_o (by decide)
theorem rp_5 (ξ : F2) (dy : Int32) : ∀ k, rp ξ dy k 5 0 = dy := by
  intro k
  induction k with
  | zero => exact (up2_k (m := mZ)).trans (if_pos rfl)
  | succ k ih =>
    show tk (rp ξ dy k) _ _ _ 5 0 = _
    rw [tk_5]; exact ih
theorem rp_eq {ξ ξ' : F2} {dy : Int32} : ∀ {k : Nat}, (∀ t, t < k → ξ 30 t = ξ' 30 t ∧ ξ 31 t = ξ' 31 t ∧ ξ 32 t = ξ' 32 t) → rp ξ dy k = rp ξ' dy k := by
  intro k
  induction k with
  | zero => intro _; rfl
  | succ k ih =>
    intro h
    obtain ⟨h1, h2, h3⟩ := h k (by omega)
    show tk (rp ξ dy k) _ _ _ = tk (rp ξ' dy k) _ _ _
    rw [ih (fun t ht => h t (by omega)), h1, h2, h3]
theorem up2_c {m : F2} {k k' i i' : Nat} {x x' : Int32} (h : k ≠ k') : up2 (up2 m k i x) k' i' x' = up2 (up2 m k' i' x') k i x := by
  funext r j
  by_cases c : r = k
  · subst c
    rw [up2_o h, up2_k, up2_k, up2_o h]
  · by_cases d : r = k'
    · subst d
      rw [up2_k, up2_o (fun z => c z), up2_o (fun z => c z), up2_k]
    · rw [up2_o d, up2_o c, up2_o c, up2_o d]
theorem up2_2 {m : F2} {k i : Nat} {x x' : Int32} : up2 (up2 m k i x) k i x' = up2 m k i x' := by
  funext r j
  by_cases c : r = k
  · subst c
    rw [up2_k, up2_k, up2_k]
    split <;> rfl
  · rw [up2_o c, up2_o c, up2_o c]
theorem tk_d (m : F2) (a b v x : Int32) : tk (up2 m 5 0 x) a b v = up2 (tk m a b v) 5 0 x := by
  unfold tk
  by_cases c0 : a = 0 ∧ isP 20 b
  · rw [cif_pos c0, cif_pos c0]; exact up2_c (by decide)
  · rw [cif_neg c0, cif_neg c0]
    by_cases c1 : a = 1 ∧ isP 20 b
    · rw [cif_pos c1, cif_pos c1]; exact up2_c (by decide)
    · rw [cif_neg c1, cif_neg c1]
      by_cases c2 : a = 2 ∧ isP 8 b
      · rw [cif_pos c2, cif_pos c2]; exact up2_c (by decide)
      · rw [cif_neg c2, cif_neg c2]
        by_cases c3 : a = 3
        · rw [cif_pos c3, cif_pos c3]; exact up2_c (by decide)
        · rw [cif_neg c3, cif_neg c3]
          by_cases c4 : a = 4 ∧ isP 24 b
          · rw [cif_pos c4, cif_pos c4]; exact up2_c (by decide)
          · rw [cif_neg c4, cif_neg c4]
theorem rp_d (ξ : F2) (dy dy' : Int32) : ∀ k, up2 (rp ξ dy k) 5 0 dy' = rp ξ dy' k := by
  intro k
  induction k with
  | zero => exact up2_2
  | succ k ih =>
    show up2 (tk (rp ξ dy k) _ _ _) 5 0 dy' = tk (rp ξ dy' k) _ _ _
    rw [← tk_d, ih]
/-- limits are told of powers that are -/
theorem rp_lim {ξ : F2} {dy : Int32} {n0 : Nat} (h0 : n0 ≤ 20) : ∀ {k : Nat}, (∀ t, t < k → ξ 30 t = 0 → isP n0 (ξ 31 t)) → ∀ i, n0 ≤ i → rp ξ dy k 0 i = 0 := by
  intro k
  induction k with
  | zero => intro _ i _; exact up2_o (by decide)
  | succ k ih =>
    intro h i hi
    have ih := ih (fun t ht => h t (by omega)) i hi
    show tk (rp ξ dy k) (ξ 30 k) (ξ 31 k) (ξ 32 k) 0 i = 0
    unfold tk
    by_cases c0 : ξ 30 k = 0 ∧ isP 20 (ξ 31 k)
    · rw [cif_pos c0]
      obtain ⟨j, hj, e⟩ := isP_of (h k (by omega) c0.1) (by omega)
      rw [up2_k, e, show ix (nI j) = j from nI_clamp (by omega), if_neg (by omega)]
      exact ih
    · rw [cif_neg c0]
      unfold cif
      (repeat' split) <;> first | exact ih | (rw [up2_o (by decide)]; exact ih)
