/-! WHICH EXCEPTION, in the law's numbers -/
def NT (E : gV) (nb a0 : Nat) (f : Nat → Int32) (μ : F2) (K : Nat → Nat) (n : Nat) (H : Heap) : Prop := SI E nb a0 μ K n H ∧ gNet E nb f H
theorem kd01 {x : Int32} (h : x = 0 ∨ x = 1) : isKd x := by rcases h with rfl | rfl <;> decide
theorem hd_h {q : Nat} (h : q < 3) : isHd (hch (nI q)) := by rcases (by omega : q = 0 ∨ q = 1 ∨ q = 2) with rfl | rfl | rfl <;> decide
theorem pw_n {li fi la : Nat} (h1 : 1 ≤ li) (h2 : li ≤ 99999) (h3 : fi ≤ la) (h4 : la ≤ 999) : isPw (nI li) (nI fi) (nI la) :=
  ⟨⟨nI_le (a := 1) h1 (by omega), nI_le (b := 99999) h2 (by omega)⟩, nI_pos' (by omega), nI_le h3 (by omega), nI_le (b := 999) h4 (by omega)⟩
theorem dl_n {k : Int32} {a p : Nat} (hk : k = 0 ∨ k = 1) (h1 : 1 ≤ a) (h2 : a ≤ 9999) (h3 : p ≤ 9) : isDl k (nI a) (nI p) :=
  ⟨kd01 hk, ⟨nI_pos' (by omega), nI_le (b := 9) h3 (by omega)⟩, nI_le (a := 1) h1 (by omega), nI_le (b := 9999) h2 (by omega)⟩
theorem kg_3 {n np : Nat} {h k ha li fi la : Int32} (h1 : isP n h) (h2 : isKd k) (h3 : isHd ha) (h4 : isPw li fi la) (h5 : np = 20) : kGrant n np h k ha li fi la = 2 + 1 := by
  unfold kGrant
  rw [cif_neg (fun z => z h1), cif_neg (fun z => z.elim (fun z => z h2) (fun z => z.elim (fun z => z h3) (fun z => z h4))), cif_pos h5]
theorem kg_0 {n np : Nat} {h k ha li fi la : Int32} (h1 : isP n h) (h2 : isKd k) (h3 : isHd ha) (h4 : isPw li fi la) (h5 : ¬ np = 20) : kGrant n np h k ha li fi la = 0 := by
  unfold kGrant
  rw [cif_neg (fun z => z h1), cif_neg (fun z => z.elim (fun z => z h2) (fun z => z.elim (fun z => z h3) (fun z => z h4))), cif_neg h5]
theorem kd_2 {v : F2} {n np : Nat} {p h li fi la : Int32} (h1 : isP np p) (h2 : isP n h) (h3 : fi < 0) : kDel v n np p h li fi la = 1 + 1 := by
  unfold kDel
  rw [cif_neg (fun z => z.elim (fun z => z h1) (fun z => z h2)), cif_pos (fun z => absurd z.2.1 (Int32.not_le.mpr h3))]
theorem kd_3 {v : F2} {n np : Nat} {p h li fi la : Int32} (h1 : isP np p) (h2 : isP n h) (h3 : isPw li fi la) (h4 : h = v 5 (ix p) ∨ v 0 (ix p) < li ∨ fi < v 2 (ix p) ∨ v 3 (ix p) < la) : kDel v n np p h li fi la = 2 + 1 := by
  unfold kDel
  rw [cif_neg (fun z => z.elim (fun z => z h1) (fun z => z h2)), cif_neg (fun z => z h3), cif_pos h4]
theorem kd_4 {v : F2} {n np : Nat} {p h li fi la : Int32} (h1 : isP np p) (h2 : isP n h) (h3 : isPw li fi la) (h4 : ¬ (h = v 5 (ix p) ∨ v 0 (ix p) < li ∨ fi < v 2 (ix p) ∨ v 3 (ix p) < la)) (h5 : v 1 (ix p) ≠ 0 ∨ np = 20) : kDel v n np p h li fi la = 3 + 1 := by
  unfold kDel
  rw [cif_neg (fun z => z.elim (fun z => z h1) (fun z => z h2)), cif_neg (fun z => z h3), cif_neg h4, cif_pos h5]
theorem kd_0 {v : F2} {n np : Nat} {p h li fi la : Int32} (h1 : isP np p) (h2 : isP n h) (h3 : isPw li fi la) (h4 : ¬ (h = v 5 (ix p) ∨ v 0 (ix p) < li ∨ fi < v 2 (ix p) ∨ v 3 (ix p) < la)) (h5 : ¬ (v 1 (ix p) ≠ 0 ∨ np = 20)) : kDel v n np p h li fi la = 0 := by
  unfold kDel
  rw [cif_neg (fun z => z.elim (fun z => z h1) (fun z => z h2)), cif_neg (fun z => z h3), cif_neg h4, cif_neg h5]
theorem kd_c {μ : F2} {p h li fi la h0 L0 F0 T0 : Nat} (e3 : μ 3 p = nI h0) (e5 : μ 5 p = nI L0) (e6 : μ 6 p = nI F0) (e7 : μ 7 p = nI T0) (hp : p < 2 ^ 31) (b1 : h < 100000) (b2 : li < 100000) (b3 : fi < 100000) (b4 : la < 100000) (b5 : h0 < 100000) (b6 : L0 < 100000) (b7 : F0 < 100000) (b8 : T0 < 100000) :
    (nI h = mv μ 5 (ix (nI p)) ∨ mv μ 0 (ix (nI p)) < nI li ∨ nI fi < mv μ 2 (ix (nI p)) ∨ mv μ 3 (ix (nI p)) < nI la) ↔ (h = h0 ∨ L0 < li ∨ fi < F0 ∨ T0 < la) := by
  rw [show ix (nI p) = p from nI_clamp hp]
  show (nI h = μ 3 p ∨ μ 5 p < nI li ∨ nI fi < μ 6 p ∨ μ 7 p < nI la) ↔ _
  rw [e3, e5, e6, e7, nI_eq (by omega) (by omega), nI_ltI (by omega) (by omega), nI_ltI (by omega) (by omega), nI_ltI (by omega) (by omega)]
theorem kv_2 {v : F2} {np : Nat} {p : Int32} (h1 : isP np p) (h2 : v 1 (ix p) ≠ 0) : kRevoke v np p = 1 + 1 := by
  unfold kRevoke
  rw [cif_neg (fun z => z h1), cif_pos h2]
theorem kv_0 {v : F2} {np : Nat} {p : Int32} (h1 : isP np p) (h2 : ¬ v 1 (ix p) ≠ 0) : kRevoke v np p = 0 := by
  unfold kRevoke
  rw [cif_neg (fun z => z h1), cif_neg h2]
theorem kl_2 {v : F2} {np : Nat} {p li : Int32} (h1 : isP np p) (h2 : ¬ (1 ≤ li ∧ li ≤ v 0 (ix p))) : kLower v np p li = 1 + 1 := by
  unfold kLower
  rw [cif_neg (fun z => z h1), cif_pos h2]
theorem kl_0 {v : F2} {np : Nat} {p li : Int32} (h1 : isP np p) (h2 : 1 ≤ li ∧ li ≤ v 0 (ix p)) : kLower v np p li = 0 := by
  unfold kLower
  rw [cif_neg (fun z => z h1), cif_neg (fun z => z h2)]
theorem kle_1 {n : Nat} {p s : Int32} (h : ¬ isP n p ∨ (s ≠ -1 ∧ ¬ isP n s)) : kLeave n p s = 0 + 1 := by
  unfold kLeave
  rw [cif_pos h]
theorem kle_2 {n : Nat} {p s : Int32} (h1 : isP n p) (h2 : s = -1 ∨ isP n s) (h3 : p = s) : kLeave n p s = 1 + 1 := by
  unfold kLeave
  rw [cif_neg (fun z => z.elim (fun z => z h1) (fun z => h2.elim z.1 z.2)), cif_pos h3]
theorem kle_0 {n : Nat} {p s : Int32} (h1 : isP n p) (h2 : s = -1 ∨ isP n s) (h3 : ¬ p = s) : kLeave n p s = 0 := by
  unfold kLeave
  rw [cif_neg (fun z => z.elim (fun z => z h1) (fun z => h2.elim z.1 z.2)), cif_neg h3]
theorem kb_1 {pr : Prop} {n : Nat} {p : Int32} (h1 : ¬ isP n p) : kBack pr n p = 0 + 1 := by
  unfold kBack
  rw [cif_pos h1]
theorem kb_2 {pr : Prop} {n : Nat} {p : Int32} (h1 : isP n p) (h2 : pr) : kBack pr n p = 1 + 1 := by
  unfold kBack
  rw [cif_neg (fun z => z h1), cif_pos h2]
theorem kb_0 {pr : Prop} {n : Nat} {p : Int32} (h1 : isP n p) (h2 : ¬ pr) : kBack pr n p = 0 := by
  unfold kBack
  rw [cif_neg (fun z => z h1), cif_neg h2]
theorem kz_1 {n nd : Nat} {p k a pa : Int32} (h1 : ¬ isP n p) : kSign n nd p k a pa = 0 + 1 := by
  unfold kSign
  rw [cif_pos h1]
theorem kz_2 {n nd : Nat} {p k a pa : Int32} (h1 : isP n p) (h2 : ¬ isDl k a pa) : kSign n nd p k a pa = 1 + 1 := by
  unfold kSign
  rw [cif_neg (fun z => z h1), cif_pos h2]
theorem kz_3 {n nd : Nat} {p k a pa : Int32} (h1 : isP n p) (h2 : isDl k a pa) (h3 : nd = 24) : kSign n nd p k a pa = 2 + 1 := by
  unfold kSign
  rw [cif_neg (fun z => z h1), cif_neg (fun z => z h2), cif_pos h3]
theorem kz_0 {n nd : Nat} {p k a pa : Int32} (h1 : isP n p) (h2 : isDl k a pa) (h3 : ¬ nd = 24) : kSign n nd p k a pa = 0 := by
  unfold kSign
  rw [cif_neg (fun z => z h1), cif_neg (fun z => z h2), cif_neg h3]
theorem kt_1 {n nd : Nat} {p o k a pa : Int32} (h1 : ¬ isP n p ∨ ¬ isP n o) : kSignT n nd p o k a pa = 0 + 1 := by
  unfold kSignT
  rw [cif_pos h1]
theorem kt_2 {n nd : Nat} {p o k a pa : Int32} (h1 : isP n p) (h2 : isP n o) (h3 : ¬ isDl k a pa) : kSignT n nd p o k a pa = 1 + 1 := by
  unfold kSignT
  rw [cif_neg (fun z => z.elim (fun z => z h1) (fun z => z h2)), cif_pos h3]
theorem kt_3 {n nd : Nat} {p o k a pa : Int32} (h1 : isP n p) (h2 : isP n o) (h3 : isDl k a pa) (h4 : p = o) : kSignT n nd p o k a pa = 2 + 1 := by
  unfold kSignT
  rw [cif_neg (fun z => z.elim (fun z => z h1) (fun z => z h2)), cif_neg (fun z => z h3), cif_pos h4]
theorem kt_4 {n nd : Nat} {p o k a pa : Int32} (h1 : isP n p) (h2 : isP n o) (h3 : isDl k a pa) (h4 : ¬ p = o) (h5 : nd = 24) : kSignT n nd p o k a pa = 3 + 1 := by
  unfold kSignT
  rw [cif_neg (fun z => z.elim (fun z => z h1) (fun z => z h2)), cif_neg (fun z => z h3), cif_neg h4, cif_pos h5]
theorem kt_0 {n nd : Nat} {p o k a pa : Int32} (h1 : isP n p) (h2 : isP n o) (h3 : isDl k a pa) (h4 : ¬ p = o) (h5 : ¬ nd = 24) : kSignT n nd p o k a pa = 0 := by
  unfold kSignT
  rw [cif_neg (fun z => z.elim (fun z => z h1) (fun z => z h2)), cif_neg (fun z => z h3), cif_neg h4, cif_neg h5]
theorem kr_1 {v w : F2} {td d p : Int32} {np nd n : Nat} (h1 : ¬ isP nd d ∨ ¬ isP n p) : kRat v w td np nd n d p = 0 + 1 := by
  unfold kRat
  rw [cif_pos h1]
theorem kr_2 {v w : F2} {td d p : Int32} {np nd n : Nat} (h1 : isP nd d) (h2 : isP n p) (h3 : w 5 (ix d) ≠ 119) : kRat v w td np nd n d p = 1 + 1 := by
  unfold kRat
  rw [cif_neg (fun z => z.elim (fun z => z h1) (fun z => z h2)), cif_pos h3]
theorem kr_3 {v w : F2} {td d p : Int32} {np nd n : Nat} (h1 : isP nd d) (h2 : isP n p) (h3 : w 5 (ix d) = 119) (h4 : ¬ fHas v np td p (w 0 (ix d)) 115 (w 4 (ix d))) : kRat v w td np nd n d p = 2 + 1 := by
  unfold kRat
  rw [cif_neg (fun z => z.elim (fun z => z h1) (fun z => z h2)), cif_neg (fun z => z h3), cif_pos h4]
theorem kr_0 {v w : F2} {td d p : Int32} {np nd n : Nat} (h1 : isP nd d) (h2 : isP n p) (h3 : w 5 (ix d) = 119) (h4 : fHas v np td p (w 0 (ix d)) 115 (w 4 (ix d))) : kRat v w td np nd n d p = 0 := by
  unfold kRat
  rw [cif_neg (fun z => z.elim (fun z => z h1) (fun z => z h2)), cif_neg (fun z => z h3), cif_neg (fun z => z h4)]
theorem ka_1 {w : F2} {nd : Nat} {d : Int32} (h1 : ¬ isP nd d) : kAnnul w nd d = 0 + 1 := by
  unfold kAnnul
  rw [cif_pos h1]
theorem ka_2 {w : F2} {nd : Nat} {d : Int32} (h1 : isP nd d) (h2 : w 5 (ix d) ≠ 119) : kAnnul w nd d = 1 + 1 := by
  unfold kAnnul
  rw [cif_neg (fun z => z h1), cif_pos h2]
theorem ka_0 {w : F2} {nd : Nat} {d : Int32} (h1 : isP nd d) (h2 : w 5 (ix d) = 119) : kAnnul w nd d = 0 := by
  unfold kAnnul
  rw [cif_neg (fun z => z h1), cif_neg (fun z => z h2)]
theorem kp_1 {n : Nat} {p : Int32} (h : ¬ isP n p) : kPow n p = 0 + 1 := by unfold kPow; rw [cif_pos h]
theorem kp_0 {n : Nat} {p : Int32} (h : isP n p) : kPow n p = 0 := by unfold kPow; rw [cif_neg (fun z => z h)]
theorem kk_1 {w : F2} {nd : Nat} {d : Int32} (h : ¬ isP nd d) : kLack w nd d = 0 + 1 := by unfold kLack; rw [cif_pos h]
theorem kk_2 {w : F2} {nd : Nat} {d : Int32} (h : isP nd d) (h2 : w 5 (ix d) = 115) : kLack w nd d = 1 + 1 := by unfold kLack; rw [cif_neg (fun z => z h), cif_pos h2]
theorem kk_0 {w : F2} {nd : Nat} {d : Int32} (h : isP nd d) (h2 : ¬ w 5 (ix d) = 115) : kLack w nd d = 0 := by unfold kLack; rw [cif_neg (fun z => z h), cif_neg h2]
theorem kq_2 {w : F2} {lp : Nat → Int32} {nd : Nat} {d : Int32} (h : isP nd d) (h2 : w 5 (ix d) = 115 ∨ lp (ix d) < 0) : kLackP w lp nd d = 1 + 1 := by unfold kLackP; rw [cif_neg (fun z => z h), cif_pos h2]
theorem kq_0 {w : F2} {lp : Nat → Int32} {nd : Nat} {d : Int32} (h : isP nd d) (h2 : ¬ (w 5 (ix d) = 115 ∨ lp (ix d) < 0)) : kLackP w lp nd d = 0 := by unfold kLackP; rw [cif_neg (fun z => z h), cif_neg h2]
theorem kw_1 {d : Int32} (h : ¬ (1 ≤ d ∧ d ≤ 99)) : kWin d = 0 + 1 := by unfold kWin; rw [cif_pos h]
theorem kw_0 {d : Int32} (h : 1 ≤ d ∧ d ≤ 99) : kWin d = 0 := by unfold kWin; rw [cif_neg (fun z => z h)]
theorem kps_1 {td d : Int32} (h : ¬ (1 ≤ d ∧ d ≤ 99)) : kPass td d = 0 + 1 := by unfold kPass; rw [cif_pos (Or.inl h)]
theorem kps_0 {td d : Nat} (h1 : 1 ≤ d) (h2 : d ≤ 99) (h3 : td + d ≤ 999) : kPass (nI td) (nI d) = 0 := by
  unfold kPass
  rw [cif_neg (fun z => z.elim (fun z => z ⟨nI_le (a := 1) h1 (by omega), nI_le (b := 99) h2 (by omega)⟩) (fun z => by
    rw [nI_add] at z
    have := (nI_ltI (a := 999) (by omega) (by omega)).mp z
    omega))]
theorem kad_0 {n : Nat} (h : ¬ n = 8) : kAdd n = 0 := by unfold kAdd; rw [cif_neg h]
theorem not_isP {n : Nat} : ¬ isP n (nI n) := fun z => Int32.lt_irrefl z.2
theorem not_isPm {n : Nat} : ¬ isP n (-1) := fun z => absurd z.1 (by decide)
