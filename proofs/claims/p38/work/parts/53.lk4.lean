/-! what is changed: the link holds again -/
theorem tk_0 {m : F2} {b v : Int32} (h : isP 20 b) : tk m 0 b v = up2 m 0 (ix b) v := by
  unfold tk
  rw [cif_pos ⟨rfl, h⟩]
theorem tk_1 {m : F2} {b v : Int32} (h : isP 20 b) : tk m 1 b v = up2 m 1 (ix b) 1 := by
  unfold tk
  rw [cif_neg (fun z => absurd z.1 (by decide)), cif_pos ⟨rfl, h⟩]
theorem tk_2 {m : F2} {b v : Int32} (h : isP 8 b) : tk m 2 b v = up2 m 2 (ix b) v := by
  unfold tk
  rw [cif_neg (fun z => absurd z.1 (by decide)), cif_neg (fun z => absurd z.1 (by decide)), cif_pos ⟨rfl, h⟩]
theorem tk_3 {m : F2} {b v : Int32} : tk m 3 b v = up2 m 4 0 v := by
  unfold tk
  rw [cif_neg (fun z => absurd z.1 (by decide)), cif_neg (fun z => absurd z.1 (by decide)), cif_neg (fun z => absurd z.1 (by decide)), cif_pos rfl]
theorem tk_4 {m : F2} {b v : Int32} (h : isP 24 b) : tk m 4 b v = up2 m 3 (ix b) 1 := by
  unfold tk
  rw [cif_neg (fun z => absurd z.1 (by decide)), cif_neg (fun z => absurd z.1 (by decide)), cif_neg (fun z => absurd z.1 (by decide)), cif_neg (by decide), cif_pos ⟨rfl, h⟩]
theorem isP_le {n n' : Nat} {p : Int32} (h : isP n p) (hn : n ≤ n') (hn' : n' < 2 ^ 31) : isP n' p := by
  obtain ⟨j, hj, rfl⟩ := isP_of h (by omega)
  exact isP_nI (by omega) hn'
theorem papX_r {ξ : F2} {n : Nat} {a b v : Int32} {r : Nat} (h : r < 30) : papX ξ n a b v r = ξ r := by
  unfold papX
  funext i
  rw [up2_o (by omega), up2_o (by omega), up2_o (by omega)]
theorem papX_o {ξ : F2} {n t r : Nat} {a b v : Int32} (h : t ≠ n) : papX ξ n a b v r t = ξ r t := by
  unfold papX
  by_cases c32 : r = 32
  · subst c32
    rw [up2_k, if_neg h, up2_o (by decide), up2_o (by decide)]
  · by_cases c31 : r = 31
    · subst c31
      rw [up2_o (by decide), up2_k, if_neg h, up2_o (by decide)]
    · by_cases c30 : r = 30
      · subst c30
        rw [up2_o (by decide), up2_o (by decide), up2_k, if_neg h]
      · rw [up2_o c32, up2_o c31, up2_o c30]
theorem papX_30 {ξ : F2} {n : Nat} {a b v : Int32} : papX ξ n a b v 30 n = a := by
  unfold papX
  rw [up2_o (by decide), up2_o (by decide), up2_k, if_pos rfl]
theorem papX_31 {ξ : F2} {n : Nat} {a b v : Int32} : papX ξ n a b v 31 n = b := by
  unfold papX
  rw [up2_o (by decide), up2_k, if_pos rfl]
theorem papX_32 {ξ : F2} {n : Nat} {a b v : Int32} : papX ξ n a b v 32 n = v := by
  unfold papX
  rw [up2_k, if_pos rfl]
theorem updN_s {N : Nat → Nat} {k v : Nat} : updN N k v k = v := if_pos rfl
theorem updN_n {N : Nat → Nat} {k v j : Nat} (h : j ≠ k) : updN N k v j = N j := if_neg h
section LKW
variable {ξ m : F2} {N : Nat → Nat} {μ : F2} {K : Nat → Nat}
/-- what of the powers a history needs -/
theorem LK.hsr (h : LK ξ m N μ K) : fSrc (fun _ => ξ 6) (N 0) := h.we.2.2.2.1
theorem LK.hh (h : LK ξ m N μ K) : ∀ i, i < N 0 → ∃ j, j < 8 ∧ ξ 1 i = nI j := h.we.2.2.2.2.1
/-- a paper more -/
theorem LK.paper (h : LK ξ m N μ K) {a b v : Int32} (hl : a = 0 → isP (N 0) b) {μ' : F2} (hmi : MI μ' K) (htd : tk m a b v 5 0 = μ' 22 0 ∧ tk m a b v 4 0 = μ' 23 0) (hpl : ∀ i, i < K 1 → PL ξ (tk m a b v) μ' i) (hp1 : ∀ i, K 1 ≤ i → tk m a b v 1 i = 0 ∧ μ' 1 i = 0) (hql : ∀ j, j < 8 → QL (tk m a b v) μ' (K 0) j)
    (hr1 : ∀ i, μ' 1 i = 0 ∨ μ' 1 i = 1) (hz : ∀ d, K 2 ≤ d → μ' 16 d = 0 ∧ μ' 18 d = 0) (hz3 : ∀ d, K 2 ≤ d → tk m a b v 3 d = 0) (hdl : ∀ d, d < K 2 → DL ξ (tk m a b v) μ' d) : LK (papX ξ (N 2) a b v) (tk m a b v) (updN N 2 (N 2 + 1)) μ' K := by
  obtain ⟨k0, k1, k2, -⟩ := h.mi
  have e2 : updN N 2 (N 2 + 1) 2 = N 2 + 1 := updN_s
  refine ⟨⟨h.n0, h.n1, h.n3⟩, hmi, htd, hpl, hp1, hql, hr1, hz, hz3, hdl, fun t ht => ?_, ?_, fun d hd => ?_⟩
  · rw [e2] at ht
    by_cases c : t = N 2
    · subst c
      rw [papX_30, papX_31]
      exact hl
    · rw [papX_o c, papX_o c]
      exact h.pp t (by omega)
  · rw [e2, tk_5]
    show _ = tk (rp (papX ξ (N 2) a b v) (m 5 0) (N 2)) (papX ξ (N 2) a b v 30 (N 2)) (papX ξ (N 2) a b v 31 (N 2)) (papX ξ (N 2) a b v 32 (N 2))
    rw [papX_30, papX_31, papX_32, rp_eq (ξ := papX ξ (N 2) a b v) (ξ' := ξ) (fun t ht => ⟨papX_o (by omega), papX_o (by omega), papX_o (by omega)⟩), ← h.rpe]
  · rw [e2]
    exact (h.hd d hd).grow (Nat.le_refl _) (by omega) (by have := h.n0; show N 0 ≤ 20; omega) (fun r h1 h2 => congrFun (papX_r (by omega)) d) (fun t ht => ⟨congrFun (papX_r (by omega)) t, congrFun (papX_r (by omega)) t, congrFun (papX_r (by omega)) t, congrFun (papX_r (by omega)) t⟩)
      (fun t ht => ⟨papX_o (by omega), papX_o (by omega), papX_o (by omega)⟩) (fun i hi r h1 h2 => congrFun (papX_r (by omega)) i) h.hsr h.hsr h.hh h.pp
theorem lk_addPerson (h : LK ξ m N μ K) : kAdd (N 3) = kAdd (K 0) ∧ (kAdd (K 0) = 0 → nI (N 3) = nI (K 0) ∧ LK ξ m (updN N 3 (N 3 + 1)) (up2 μ 2 (K 0) (-1)) (updN K 0 (K 0 + 1))) := by
  rw [h.n3]
  refine ⟨rfl, fun c => ⟨rfl, ?_⟩⟩
  have c1 := (cif_0 (by decide) c).1
  obtain ⟨k0, k1, k2, ks, kh, kt⟩ := h.mi
  have e0 : updN K 0 (K 0 + 1) 0 = K 0 + 1 := updN_s
  refine ⟨⟨h.n0, h.n1, by rw [updN_s, updN_s]⟩, ⟨by rw [e0]; omega, k1, k2, ks, fun i hi => ?_, kt⟩, ⟨h.td, h.wd⟩, h.pl, h.p1, fun j hj => ?_, h.r1, h.z16, h.z3, h.dl, h.pp, h.rpe, h.hd⟩
  · obtain ⟨j, hj, e⟩ := kh i hi
    exact ⟨j, by rw [e0]; omega, e⟩
  · obtain ⟨q1, q2, q3, q4⟩ := h.ql j hj
    rw [e0]
    unfold QL
    rw [up2_k, up2_o (by decide)]
    by_cases e : j = K 0
    · have z := q4 (by omega)
      rw [if_pos e]
      refine ⟨?_, fun _ _ => rfl, by decide, fun z2 => by omega⟩
      rw [q1, z]
      simp
    · rw [if_neg e]
      exact ⟨q1, fun z => q2 (by omega), q3, fun z => q4 (by omega)⟩
theorem lk_leave (h : LK ξ m N μ K) (p s : Int32) : kLeave (N 3) p s = kLeave (K 0) p s ∧ (kLeave (K 0) p s = 0 → (if m 2 (ix p) = -2 then -1 else m 2 (ix p)) = μ 2 (ix p) ∧ LK (papX ξ (N 2) 2 p s) (tk m 2 p s) (updN N 2 (N 2 + 1)) (up2 (up2 μ 0 (ix p) 1) 2 (ix p) s) K) := by
  rw [h.n3]
  refine ⟨rfl, fun c => ?_⟩
  obtain ⟨c1, c2⟩ := cif_0 (by decide) c
  have hp : isP (K 0) p := nn (fun z => c1 (Or.inl z))
  have hs : s = -1 ∨ isP (K 0) s := by
    by_cases e : s = -1
    · exact Or.inl e
    · exact Or.inr (nn (fun z => c1 (Or.inr ⟨e, z⟩)))
  obtain ⟨e1, e2⟩ := h.ix0 hp
  obtain ⟨k0, k1, k2, ks, kh, kt⟩ := h.mi
  have hs2 : ¬ s = -2 := by
    rcases hs with e | e
    · rw [e]; decide
    · obtain ⟨f1, f2⟩ := h.ix0 e
      rw [f2]
      exact nI_m2 _ (by omega)
  obtain ⟨q1, q2, q3, q4⟩ := h.ql (ix p) (by omega)
  refine ⟨?_, ?_⟩
  · by_cases z : μ 0 (ix p) = 0
    · have hq : m 2 (ix p) = -2 := q1.trans (if_neg (not_not_intro z))
      rw [if_pos hq, q2 e1 z]
    · have hq : m 2 (ix p) = μ 2 (ix p) := q1.trans (if_pos z)
      rw [hq, if_neg q3]
  · have ht : tk m 2 p s = up2 m 2 (ix p) s := tk_2 (isP_le hp k0 (by omega))
    refine h.paper (fun z => absurd z (by decide)) ⟨k0, k1, k2, ks, kh, kt⟩ ?_ ?_ ?_ ?_ h.r1 h.z16 ?_ ?_ <;> rw [ht]
    · exact ⟨h.td, h.wd⟩
    · exact h.pl
    · exact h.p1
    · intro j hj
      obtain ⟨q1, q2, q3, q4⟩ := h.ql j hj
      unfold QL
      rw [up2_k, up2_k, up2_o (by decide), up2_k, up2_o (by decide)]
      by_cases e : j = ix p
      · rw [if_pos e, if_pos e, if_pos e]
        exact ⟨by simp, fun _ z => absurd z (by decide), hs2, fun z => by omega⟩
      · rw [if_neg e, if_neg e, if_neg e]
        exact ⟨q1, q2, q3, q4⟩
    · exact h.z3
    · exact h.dl
theorem lk_comeBack (h : LK ξ m N μ K) (p : Int32) : kBack (m 2 (ix p) = -2) (N 3) p = kBack (μ 0 (ix p) = 0) (K 0) p ∧ (kBack (μ 0 (ix p) = 0) (K 0) p = 0 → (if m 2 (ix p) = -2 then -1 else m 2 (ix p)) = μ 2 (ix p) ∧ LK (papX ξ (N 2) 2 p (-2)) (tk m 2 p (-2)) (updN N 2 (N 2 + 1)) (up2 (up2 μ 0 (ix p) 0) 2 (ix p) (-1)) K) := by
  obtain ⟨k0, k1, k2, ks, kh, kt⟩ := h.mi
  refine ⟨?_, fun c => ?_⟩
  · unfold kBack
    rw [h.n3]
    refine cif_c (fun c => cif_iff ?_)
    obtain ⟨e1, e2⟩ := h.ix0 (nn c)
    obtain ⟨q1, q2, q3, q4⟩ := h.ql (ix p) (by omega)
    rw [q1]
    by_cases z : μ 0 (ix p) = 0
    · simp [z]
    · simp [z, q3]
  · obtain ⟨c1, c2⟩ := cif_0 (by decide) c
    have hp : isP (K 0) p := nn c1
    have hz := (cif_0 (by decide) c2).1
    obtain ⟨e1, e2⟩ := h.ix0 hp
    obtain ⟨q1, q2, q3, q4⟩ := h.ql (ix p) (by omega)
    have hq : m 2 (ix p) = μ 2 (ix p) := q1.trans (if_pos hz)
    refine ⟨by rw [hq, if_neg q3], ?_⟩
    have ht : tk m 2 p (-2) = up2 m 2 (ix p) (-2) := tk_2 (isP_le hp k0 (by omega))
    refine h.paper (fun z => absurd z (by decide)) ⟨k0, k1, k2, ks, kh, kt⟩ ?_ ?_ ?_ ?_ h.r1 h.z16 ?_ ?_ <;> rw [ht]
    · exact ⟨h.td, h.wd⟩
    · exact h.pl
    · exact h.p1
    · intro j hj
      obtain ⟨q1, q2, q3, q4⟩ := h.ql j hj
      unfold QL
      rw [up2_k, up2_k, up2_o (by decide), up2_k, up2_o (by decide)]
      by_cases e : j = ix p
      · rw [if_pos e, if_pos e, if_pos e]
        exact ⟨by simp, fun _ _ => rfl, by decide, fun z => by omega⟩
      · rw [if_neg e, if_neg e, if_neg e]
        exact ⟨q1, q2, q3, q4⟩
    · exact h.z3
    · exact h.dl
/-- a power more -/
theorem LK.addp (h : LK ξ m N μ K) {hh k ha li fi la src : Int32} (hp : isP (K 0) hh) (hK : K 1 < 20) (hhd : isHd ha) (hpw : isPw li fi la) (hs1 : src < 0 → src = -1) (hs2 : src < 0 ∨ ∃ j, j < K 1 ∧ src = nI j) :
    LK (papX (powX ξ (N 0) (pwV hh k ha fi la src)) (N 2) 0 (nI (N 0)) li) (tk m 0 (nI (N 0)) li) (updN (updN N 0 (N 0 + 1)) 2 (N 2 + 1)) (mAdds μ (K 1) hh k ha li fi la src) (updN K 1 (K 1 + 1)) := by
  obtain ⟨k0, k1, k2, ks, kh, kt⟩ := h.mi
  have e0 := h.n0
  have e2 : updN (updN N 0 (N 0 + 1)) 2 (N 2 + 1) 2 = N 2 + 1 := updN_s
  have e3 : updN (updN N 0 (N 0 + 1)) 2 (N 2 + 1) 0 = N 0 + 1 := by rw [updN_n (by decide), updN_s]
  have e4 : updN K 1 (K 1 + 1) 1 = K 1 + 1 := updN_s
  have ht : tk m 0 (nI (N 0)) li = up2 m 0 (N 0) li := by
    rw [tk_0 (isP_nI (by omega) (by omega)), show ix (nI (N 0)) = N 0 from nI_clamp (by omega)]
  -- the new rows
  have x1 : ∀ r i, r < 30 → papX (powX ξ (N 0) (pwV hh k ha fi la src)) (N 2) 0 (nI (N 0)) li r i = powX ξ (N 0) (pwV hh k ha fi la src) r i := fun r i hr => congrFun (papX_r hr) i
  have xo : ∀ r i, r < 30 → i ≠ N 0 ∨ 7 ≤ r → papX (powX ξ (N 0) (pwV hh k ha fi la src)) (N 2) 0 (nI (N 0)) li r i = ξ r i := fun r i hr hi => (x1 r i hr).trans (powX_n r i hi)
  have xn : ∀ r, 1 ≤ r → r < 7 → papX (powX ξ (N 0) (pwV hh k ha fi la src)) (N 2) 0 (nI (N 0)) li r (N 0) = pwV hh k ha fi la src r := fun r h1 h2 => (x1 r _ (by omega)).trans (powX_v r h1 h2)
  have xp : ∀ r t, 30 ≤ r → t ≠ N 2 → papX (powX ξ (N 0) (pwV hh k ha fi la src)) (N 2) 0 (nI (N 0)) li r t = ξ r t := fun r t hr ht => (papX_o ht).trans (powX_n r t (Or.inr (by omega)))
  have μo : ∀ r i, i ≠ K 1 ∨ (r ≠ 3 ∧ r ≠ 4 ∧ r ≠ 9 ∧ r ≠ 5 ∧ r ≠ 6 ∧ r ≠ 7 ∧ r ≠ 8) → mAdds μ (K 1) hh k ha li fi la src r i = μ r i := fun r i hc => by
    unfold mAdds
    have hu : ∀ (f : F2) (q : Nat) (x : Int32), (i ≠ K 1 ∨ r ≠ q) → up2 f q (K 1) x r i = f r i := fun f q x hh => by
      by_cases e : r = q
      · subst e
        rw [up2_k, if_neg (by omega)]
      · exact up2_o e
    rw [hu _ _ _ (by omega), hu _ _ _ (by omega), hu _ _ _ (by omega), hu _ _ _ (by omega), hu _ _ _ (by omega), hu _ _ _ (by omega), hu _ _ _ (by omega)]
  have m3 : mAdds μ (K 1) hh k ha li fi la src 3 (K 1) = hh := by
    unfold mAdds
    rw [up2_o (by decide), up2_o (by decide), up2_o (by decide), up2_o (by decide), up2_o (by decide), up2_o (by decide), up2_k, if_pos rfl]
  have m4 : mAdds μ (K 1) hh k ha li fi la src 4 (K 1) = k := by
    unfold mAdds
    rw [up2_o (by decide), up2_o (by decide), up2_o (by decide), up2_o (by decide), up2_o (by decide), up2_k, if_pos rfl]
  have m9 : mAdds μ (K 1) hh k ha li fi la src 9 (K 1) = ha := by
    unfold mAdds
    rw [up2_o (by decide), up2_o (by decide), up2_o (by decide), up2_o (by decide), up2_k, if_pos rfl]
  have m5 : mAdds μ (K 1) hh k ha li fi la src 5 (K 1) = li := by
    unfold mAdds
    rw [up2_o (by decide), up2_o (by decide), up2_o (by decide), up2_k, if_pos rfl]
  have m6 : mAdds μ (K 1) hh k ha li fi la src 6 (K 1) = fi := by
    unfold mAdds
    rw [up2_o (by decide), up2_o (by decide), up2_k, if_pos rfl]
  have m7 : mAdds μ (K 1) hh k ha li fi la src 7 (K 1) = la := by
    unfold mAdds
    rw [up2_o (by decide), up2_k, if_pos rfl]
  have m8 : mAdds μ (K 1) hh k ha li fi la src 8 (K 1) = src := by
    unfold mAdds
    rw [up2_k, if_pos rfl]
  have hsrc' : fSrc (mv (mAdds μ (K 1) hh k ha li fi la src)) (K 1 + 1) := fun i hi => by
    show mAdds μ (K 1) hh k ha li fi la src 8 i < 0 ∨ ∃ j, j < i ∧ mAdds μ (K 1) hh k ha li fi la src 8 i = nI j
    by_cases e : i = K 1
    · subst e
      rw [m8]
      exact hs2
    · rw [μo 8 i (Or.inl e)]
      exact ks i (by omega)
  rw [ht]
  refine ⟨⟨by rw [e3, e4]; omega, h.n1, h.n3⟩, ⟨k0, by rw [e4]; omega, k2, by rw [e4]; exact hsrc', fun i hi => ?_, by rw [μo 22 0 (by omega)]; exact kt⟩, ⟨?_, ?_⟩, fun i hi => ?_, fun i hi => ?_, fun j hj => ?_, fun i => ?_, fun d hd => ?_, fun d hd => ?_, fun d hd => ?_, fun t ht => ?_, ?_, fun d hd => ?_⟩
  · rw [e4] at hi
    show ∃ j, j < K 0 ∧ _
    by_cases e : i = K 1
    · subst e
      rw [m3]
      exact ⟨_, (h.ix0 hp).1, (h.ix0 hp).2⟩
    · rw [μo 3 i (Or.inl e)]
      exact kh i (by omega)
  · rw [up2_o (by decide), μo 22 0 (by omega)]
    exact h.td
  · rw [up2_o (by decide), μo 23 0 (by omega)]
    exact h.wd
  · rw [e4] at hi
    unfold PL
    by_cases e : i = K 1
    · subst e
      have y := fun r h1 h2 => xn r h1 h2
      rw [e0] at y
      rw [e0, up2_k, if_pos rfl, up2_o (by decide), m5, m6, m7, m8, m3, m4, m9, μo 1 _ (by omega)]
      have z1 := h.p1 (K 1) (Nat.le_refl _)
      refine ⟨⟨rfl, ⟨fun _ => z1.2, fun _ => z1.1⟩, y 4 (by omega) (by omega), y 5 (by omega) (by omega), y 6 (by omega) (by omega)⟩, ⟨y 1 (by omega) (by omega), y 2 (by omega) (by omega), y 3 (by omega) (by omega)⟩, hpw.1, hs1, hhd⟩
    · have hi2 : i < K 1 := by omega
      have y := fun r hr => xo r i hr (Or.inl (by omega))
      rw [up2_k, if_neg (by omega), up2_o (by decide), μo 5 i (Or.inl e), μo 1 i (Or.inl e), μo 6 i (Or.inl e), μo 7 i (Or.inl e), μo 8 i (Or.inl e), μo 3 i (Or.inl e), μo 4 i (Or.inl e), μo 9 i (Or.inl e), y 4 (by omega), y 5 (by omega), y 6 (by omega), y 1 (by omega), y 2 (by omega), y 3 (by omega)]
      exact h.pl i hi2
  · rw [e4] at hi
    rw [up2_o (by decide), μo 1 i (by omega)]
    exact h.p1 i (by omega)
  · show QL _ _ (K 0) j
    unfold QL
    rw [up2_o (by decide), μo 0 j (by omega), μo 2 j (by omega)]
    exact h.ql j hj
  · rw [μo 1 i (by omega)]
    exact h.r1 i
  · rw [μo 16 d (by omega), μo 18 d (by omega)]
    exact h.z16 d hd
  · rw [up2_o (by decide)]
    exact h.z3 d hd
  · unfold DL
    have y := fun r h1 h2 => xo r d h1 (Or.inr h2)
    rw [y 13 (by omega) (by omega), y 14 (by omega) (by omega), y 15 (by omega) (by omega), y 16 (by omega) (by omega), y 18 (by omega) (by omega), y 19 (by omega) (by omega), y 20 (by omega) (by omega), y 21 (by omega) (by omega), y 22 (by omega) (by omega), up2_o (by decide), μo 10 d (by omega), μo 11 d (by omega), μo 12 d (by omega), μo 13 d (by omega), μo 14 d (by omega), μo 17 d (by omega), μo 18 d (by omega), μo 15 d (by omega), μo 16 d (by omega)]
    exact h.dl d hd
  · rw [e2] at ht
    rw [e3]
    by_cases c : t = N 2
    · subst c
      rw [papX_30, papX_31]
      exact fun _ => isP_nI (by omega) (by omega)
    · rw [xp 30 t (by omega) c, xp 31 t (by omega) c]
      exact fun z => isP_le (h.pp t (by omega) z) (by omega) (by omega)
  · rw [e2, up2_o (by decide), ← ht]
    show _ = tk (rp _ (m 5 0) (N 2)) (papX _ (N 2) 0 (nI (N 0)) li 30 (N 2)) (papX _ (N 2) 0 (nI (N 0)) li 31 (N 2)) (papX _ (N 2) 0 (nI (N 0)) li 32 (N 2))
    rw [papX_30, papX_31, papX_32, rp_eq (ξ' := ξ) (fun t ht => ⟨xp 30 t (by omega) (by omega), xp 31 t (by omega) (by omega), xp 32 t (by omega) (by omega)⟩), ← h.rpe]
  · rw [e2, e3]
    have hd : d < N 1 := hd
    refine (h.hd d hd).grow (by omega) (by omega) (by omega) (fun r h1 h2 => xo r d (by omega) (Or.inr (by omega))) (fun t ht => ⟨xo _ t (by omega) (Or.inr (by omega)), xo _ t (by omega) (Or.inr (by omega)), xo _ t (by omega) (Or.inr (by omega)), xo _ t (by omega) (Or.inr (by omega))⟩)
      (fun t ht => ⟨xp 30 t (by omega) (by omega), xp 31 t (by omega) (by omega), xp 32 t (by omega) (by omega)⟩) (fun i hi r h1 h2 => xo r i (by omega) (Or.inl (by omega))) h.hsr (fun i hi => ?_) h.hh h.pp
    show papX _ _ _ _ _ 6 i < 0 ∨ ∃ j, j < i ∧ papX _ _ _ _ _ 6 i = nI j
    by_cases e : i = N 0
    · subst e
      rw [xn 6 (by omega) (by omega), show pwV hh k ha fi la src 6 = src from rfl, e0]
      exact hs2
    · rw [xo 6 i (by omega) (Or.inl e)]
      exact h.hsr i (by omega)
theorem lk_grant (h : LK ξ m N μ K) (hh k ha li fi la : Int32) : kGrant (N 3) (N 0) hh k ha li fi la = kGrant (K 0) (K 1) hh k ha li fi la ∧ (kGrant (K 0) (K 1) hh k ha li fi la = 0 → nI (N 0) = nI (K 1) ∧ LK (papX (powX ξ (N 0) (pwV hh k ha fi la (-1))) (N 2) 0 (nI (N 0)) li) (tk m 0 (nI (N 0)) li) (updN (updN N 0 (N 0 + 1)) 2 (N 2 + 1)) (mAdds μ (K 1) hh k ha li fi la (-1)) (updN K 1 (K 1 + 1))) := by
  refine ⟨by rw [h.n3, h.n0], fun c => ⟨by rw [h.n0], ?_⟩⟩
  obtain ⟨c1, c2⟩ := cif_0 (by decide) c
  obtain ⟨c3, c4⟩ := cif_0 (by decide) c2
  have c5 := (cif_0 (by decide) c4).1
  obtain ⟨k0, k1, -⟩ := h.mi
  exact h.addp (nn c1) (by omega) (nn (fun z => c3 (Or.inr (Or.inl z)))) (nn (fun z => c3 (Or.inr (Or.inr z)))) (fun _ => rfl) (Or.inl (by decide))
theorem lk_delegate (h : LK ξ m N μ K) (p hh li fi la : Int32) : kDel (xv ξ m) (N 3) (N 0) p hh li fi la = kDel (mv μ) (K 0) (K 1) p hh li fi la ∧ (kDel (mv μ) (K 0) (K 1) p hh li fi la = 0 → nI (N 0) = nI (K 1) ∧ LK (papX (powX ξ (N 0) (pwV hh (ξ 2 (ix p)) (ξ 3 (ix p)) fi la p)) (N 2) 0 (nI (N 0)) li) (tk m 0 (nI (N 0)) li) (updN (updN N 0 (N 0 + 1)) 2 (N 2 + 1)) (mAdds μ (K 1) hh (μ 4 (ix p)) (μ 9 (ix p)) li fi la p) (updN K 1 (K 1 + 1))) := by
  obtain ⟨k0, k1, k2, -⟩ := h.mi
  refine ⟨?_, fun c => ⟨by rw [h.n0], ?_⟩⟩
  · unfold kDel
    rw [h.n3, h.n0]
    refine cif_c (fun c => ?_)
    obtain ⟨e1, e2⟩ := h.ix1 (nn (fun z => c (Or.inl z)))
    obtain ⟨⟨a0, a1, a4, a5, a6⟩, ⟨b1, b2, b3⟩, -⟩ := h.pl _ e1
    show cif _ _ (cif (hh = ξ 1 (ix p) ∨ m 0 (ix p) < li ∨ fi < ξ 4 (ix p) ∨ ξ 5 (ix p) < la) 3 (cif (m 1 (ix p) ≠ 0 ∨ _) 4 0)) = cif _ _ (cif (hh = μ 3 (ix p) ∨ μ 5 (ix p) < li ∨ fi < μ 6 (ix p) ∨ μ 7 (ix p) < la) 3 (cif (μ 1 (ix p) ≠ 0 ∨ _) 4 0))
    rw [a0, a4, a5, b1, cif_iff (P := m 1 (ix p) ≠ 0 ∨ K 1 = 20) (P' := μ 1 (ix p) ≠ 0 ∨ K 1 = 20) ⟨fun z => z.imp (fun z w => z (a1.mpr w)) id, fun z => z.imp (fun z w => z (a1.mp w)) id⟩]
  · obtain ⟨c1, c2⟩ := cif_0 (by decide) c
    obtain ⟨c3, c4⟩ := cif_0 (by decide) c2
    obtain ⟨c5, c6⟩ := cif_0 (by decide) c4
    have c7 := (cif_0 (by decide) c6).1
    obtain ⟨e1, e2⟩ := h.ix1 (nn (fun z => c1 (Or.inl z)))
    obtain ⟨-, ⟨b1, b2, b3⟩, -, -, b4⟩ := h.pl _ e1
    rw [b2, b3]
    exact h.addp (nn (fun z => c1 (Or.inr z))) (by have : ¬ K 1 = 20 := fun z => c7 (Or.inr z); omega) b4 (nn c3) (fun z => absurd z (by rw [e2]; exact nI_pos (by omega))) (Or.inr ⟨_, e1, e2⟩)
theorem lk_lower (h : LK ξ m N μ K) (p li : Int32) : kLower (xv ξ m) (N 0) p li = kLower (mv μ) (K 1) p li ∧ (kLower (mv μ) (K 1) p li = 0 → m 0 (ix p) = μ 5 (ix p) ∧ LK (papX ξ (N 2) 0 p li) (tk m 0 p li) (updN N 2 (N 2 + 1)) (up2 μ 5 (ix p) li) K) := by
  obtain ⟨k0, k1, k2, ks, kh, kt⟩ := h.mi
  refine ⟨?_, fun c => ?_⟩
  · unfold kLower
    rw [h.n0]
    refine cif_c (fun c => ?_)
    obtain ⟨e1, e2⟩ := h.ix1 (nn c)
    rw [show xv ξ m 0 (ix p) = mv μ 0 (ix p) from (h.pl _ e1).1.1]
  · obtain ⟨c1, c2⟩ := cif_0 (by decide) c
    have c3 := nn (cif_0 (by decide) c2).1
    have hp := nn c1
    obtain ⟨e1, e2⟩ := h.ix1 hp
    refine ⟨(h.pl _ e1).1.1, ?_⟩
    have ht : tk m 0 p li = up2 m 0 (ix p) li := tk_0 (isP_le hp k1 (by omega))
    refine h.paper (fun _ => by rw [h.n0]; exact hp) ⟨k0, k1, k2, ks, kh, kt⟩ ?_ ?_ ?_ ?_ h.r1 h.z16 ?_ ?_ <;> rw [ht]
    · exact ⟨h.td, h.wd⟩
    · intro i hi
      obtain ⟨⟨a0, a1, a4, a5, a6⟩, b, c, d⟩ := h.pl i hi
      unfold PL
      rw [up2_k, up2_k]
      by_cases e : i = ix p
      · rw [if_pos e, if_pos e]
        refine ⟨⟨rfl, a1, a4, a5, a6⟩, b, ⟨c3.1, ?_⟩, d⟩
        have := (h.pl _ e1).2.2.1.2
        exact Int32.le_trans c3.2 this
      · rw [if_neg e, if_neg e]
        exact ⟨⟨a0, a1, a4, a5, a6⟩, b, c, d⟩
    · exact h.p1
    · exact h.ql
    · exact h.z3
    · exact h.dl
theorem lk_revoke (h : LK ξ m N μ K) (p : Int32) : kRevoke (xv ξ m) (N 0) p = kRevoke (mv μ) (K 1) p ∧ (kRevoke (mv μ) (K 1) p = 0 → nI (fCnt (fun t => fCome (xv ξ m) t (ix p)) (N 0)) = nI (fCnt (fun t => fCome (mv μ) t (ix p)) (K 1)) ∧ LK (papX ξ (N 2) 1 p (-1)) (tk m 1 p (-1)) (updN N 2 (N 2 + 1)) (up2 μ 1 (ix p) 1) K) := by
  obtain ⟨k0, k1, k2, ks, kh, kt⟩ := h.mi
  refine ⟨?_, fun c => ?_⟩
  · unfold kRevoke
    rw [h.n0]
    refine cif_c (fun c => cif_iff ?_)
    obtain ⟨e1, e2⟩ := h.ix1 (nn c)
    exact not_congr (h.pl _ e1).1.2.1
  · obtain ⟨c1, c2⟩ := cif_0 (by decide) c
    have hp := nn c1
    obtain ⟨e1, e2⟩ := h.ix1 hp
    refine ⟨?_, ?_⟩
    · rw [h.n0]
      refine congrArg nI (fCnt_congr (fun t ht => ?_))
      exact fCome_eq (fun i hi => (h.pl i hi).1.2.2.2.2) (by rw [← h.n0]; exact h.we.2.2.2.1) (by omega) ht
    · have ht : tk m 1 p (-1) = up2 m 1 (ix p) 1 := tk_1 (isP_le hp k1 (by omega))
      refine h.paper (fun z => absurd z (by decide)) ⟨k0, k1, k2, ks, kh, kt⟩ ?_ ?_ ?_ ?_ ?_ h.z16 ?_ ?_ <;> (try rw [ht])
      · exact ⟨h.td, h.wd⟩
      · intro i hi
        obtain ⟨⟨a0, a1, a4, a5, a6⟩, b⟩ := h.pl i hi
        unfold PL
        rw [up2_k, up2_k]
        by_cases e : i = ix p
        · rw [if_pos e, if_pos e]
          exact ⟨⟨a0, Iff.rfl, a4, a5, a6⟩, b⟩
        · rw [if_neg e, if_neg e]
          exact ⟨⟨a0, a1, a4, a5, a6⟩, b⟩
      · intro i hi
        rw [up2_k, up2_k, if_neg (by omega), if_neg (by omega)]
        exact h.p1 i hi
      · exact h.ql
      · intro i
        rw [up2_k]
        by_cases e : i = ix p
        · rw [if_pos e]; exact Or.inr rfl
        · rw [if_neg e]; exact h.r1 i
      · exact h.z3
      · exact h.dl
theorem lk_setWindow (h : LK ξ m N μ K) (d : Int32) : kWin d = 0 → m 4 0 = μ 23 0 ∧ LK (papX ξ (N 2) 3 (-1) d) (tk m 3 (-1) d) (updN N 2 (N 2 + 1)) (up2 μ 23 0 d) K := fun _ => by
  obtain ⟨k0, k1, k2, ks, kh, kt⟩ := h.mi
  refine ⟨h.wd, ?_⟩
  refine h.paper (fun z => absurd z (by decide)) ⟨k0, k1, k2, ks, kh, kt⟩ ?_ ?_ ?_ ?_ h.r1 h.z16 ?_ ?_ <;> rw [tk_3]
  · exact ⟨h.td, by rw [up2_k, if_pos rfl, up2_k, if_pos rfl]⟩
  · exact h.pl
  · exact h.p1
  · exact h.ql
  · exact h.z3
  · exact h.dl
theorem lk_pass (h : LK ξ m N μ K) (d : Int32) : kPass (m 5 0) d = kPass (μ 22 0) d ∧ (kPass (μ 22 0) d = 0 → m 5 0 + d = μ 22 0 + d ∧ LK ξ (up2 m 5 0 (m 5 0 + d)) N (up2 μ 22 0 (μ 22 0 + d)) K) := by
  obtain ⟨k0, k1, k2, ks, kh, kt⟩ := h.mi
  refine ⟨by rw [h.td], fun c => ⟨by rw [h.td], ?_⟩⟩
  have c1 := (cif_0 (by decide) c).1
  have c2 : 1 ≤ d ∧ d ≤ 99 := nn (fun z => c1 (Or.inl z))
  have c3 : ¬ 999 < μ 22 0 + d := fun z => c1 (Or.inr z)
  have e5 : up2 m 5 0 (m 5 0 + d) 5 0 = m 5 0 + d := by rw [up2_k, if_pos rfl]
  have e22 : up2 μ 22 0 (μ 22 0 + d) 22 0 = μ 22 0 + d := by rw [up2_k, if_pos rfl]
  refine ⟨h.1, ⟨k0, k1, k2, ks, kh, ?_⟩, ⟨by rw [e5, e22, h.td], h.wd⟩, h.pl, h.p1, h.ql, h.r1, h.z16, h.z3, h.dl, h.pp, ?_, h.hd⟩
  · rw [e22]
    refine ⟨?_, Int32.not_lt.mp c3⟩
    have t1 := kt.1
    have t2 := kt.2
    have d1 := c2.1
    have d2 := c2.2
    rw [Int32.le_iff_toInt_le] at t1 t2 d1 d2 ⊢
    have e0 : (0 : Int32).toInt = 0 := by decide
    have e1 : (1 : Int32).toInt = 1 := by decide
    have e9 : (999 : Int32).toInt = 999 := by decide
    have e99 : (99 : Int32).toInt = 99 := by decide
    rw [Int32.toInt_add, Int.bmod_eq_of_le (by omega) (by omega)]
    omega
  · rw [e5, ← rp_d ξ (m 5 0) (m 5 0 + d) (N 2), ← h.rpe]
end LKW
