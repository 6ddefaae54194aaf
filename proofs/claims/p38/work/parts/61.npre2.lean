/-! THE NET'S WRITES -/
section NETW
variable {n D D' : Nat} {f F : Nat → Int32} {μ μ' : F2} {K : Nat → Nat}
theorem NP.to {i : Nat} (h : NP f μ D i) (hF : ∀ x, 30 + 8 * i ≤ x → x ≤ 36 + 8 * i → F x = f x) (hμ : ∀ r, 3 ≤ r → r ≤ 9 → μ' r i = μ r i) (hD : D ≤ D') : NP F μ' D' i := by
  obtain ⟨h0, h1, ⟨q, q1, q2, q3⟩, h3, h4, h5, h6, a, b, a1, a2, a3, a4⟩ := h
  refine ⟨?_, ?_, ⟨q, q1, ?_, ?_⟩, ?_, ?_, ?_, ?_, a, b, ?_, ?_, a3, by omega⟩
  · rw [hF _ (by omega) (by omega), hμ 3 (by omega) (by omega)]; exact h0
  · rw [hF _ (by omega) (by omega), hμ 4 (by omega) (by omega)]; exact h1
  · rw [hF _ (by omega) (by omega)]; exact q2
  · rw [hμ 9 (by omega) (by omega)]; exact q3
  · rw [hF _ (by omega) (by omega), hμ 5 (by omega) (by omega)]; exact h3
  · rw [hF _ (by omega) (by omega), hμ 6 (by omega) (by omega)]; exact h4
  · rw [hF _ (by omega) (by omega), hμ 7 (by omega) (by omega)]; exact h5
  · rw [hF _ (by omega) (by omega), hμ 8 (by omega) (by omega)]; exact h6
  · rw [hμ 6 (by omega) (by omega)]; exact a1
  · rw [hμ 7 (by omega) (by omega)]; exact a2
theorem NQ.to {d : Nat} (h : NQ f μ D d) (hF : ∀ x, 200 + 10 * d ≤ x → x ≤ 208 + 10 * d → F x = f x) (hμ : ∀ r, 10 ≤ r → r ≤ 18 → μ' r d = μ r d) (hD : D ≤ D') : NQ F μ' D' d := by
  obtain ⟨h0, h1, h2, h3, h4, ⟨c, c1, c2, c3⟩, h6, y, y1, y2⟩ := h
  refine ⟨?_, ?_, ?_, ?_, ?_, ⟨c, c1, ?_, ?_⟩, fun z => ?_, y, ?_, by omega⟩
  · rw [hF _ (by omega) (by omega), hμ 10 (by omega) (by omega)]; exact h0
  · rw [hF _ (by omega) (by omega), hμ 11 (by omega) (by omega)]; exact h1
  · rw [hF _ (by omega) (by omega), hμ 12 (by omega) (by omega)]; exact h2
  · rw [hF _ (by omega) (by omega), hμ 13 (by omega) (by omega)]; exact h3
  · rw [hF _ (by omega) (by omega), hμ 14 (by omega) (by omega)]; exact h4
  · rw [hF _ (by omega) (by omega)]; exact c2
  · rw [hμ 17 (by omega) (by omega)]; exact c3
  · rw [hμ 17 (by omega) (by omega)] at z
    rw [hF _ (by omega) (by omega), hF _ (by omega) (by omega), hF _ (by omega) (by omega), hμ 18 (by omega) (by omega), hμ 15 (by omega) (by omega), hμ 16 (by omega) (by omega)]
    exact h6 z
  · rw [hμ 13 (by omega) (by omega)]; exact y1
theorem NL.mono (h : NL f μ K D) (hD : D ≤ D') (hD' : D' ≤ 400) : NL f μ K D' := by
  obtain ⟨h1, ⟨b0, b1, b2, bD⟩, ⟨td, t1, t2, t3⟩, h4, h5, h6, h7, h8, h9⟩ := h
  exact ⟨h1, ⟨b0, b1, b2, hD'⟩, ⟨td, by omega, t2, t3⟩, h4, h5, h6, h7, fun i hi => (h8 i hi).to (fun _ _ _ => rfl) (fun _ _ _ => rfl) hD, fun d hd => (h9 d hd).to (fun _ _ _ => rfl) (fun _ _ _ => rfl) hD⟩
theorem NL.person (h : NL f μ K D) (hK : K 0 < 6) : NL (upd (upd f (11 + 2 * K 0) (-1)) 0 (nI (K 0 + 1))) (up2 μ 2 (K 0) (-1)) (updN K 0 (K 0 + 1)) D := by
  obtain ⟨F, eF⟩ : ∃ F, F = upd (upd f (11 + 2 * K 0) (-1)) 0 (nI (K 0 + 1)) := ⟨_, rfl⟩
  rw [← eF]
  have u : ∀ x, x ≠ 0 → x ≠ 11 + 2 * K 0 → F x = f x := fun x h1 h2 => by rw [eF, upd_n _ _ h1, upd_n _ _ h2]
  obtain ⟨⟨k0, k1, k2⟩, ⟨b0, b1, b2, bD⟩, ⟨td, t1, t2, t3⟩, ⟨w, w1, w2, w3, w4⟩, h5, h6, h7, h8, h9⟩ := h
  refine ⟨⟨?_, ?_, ?_⟩, ⟨(show K 0 + 1 ≤ 6 by omega), b1, b2, bD⟩, ⟨td, t1, ?_, ?_⟩, ⟨w, w1, w2, ?_, ?_⟩, fun j hj => ⟨?_, ?_⟩, fun j hj => ?_, fun i hi => ?_, fun i hi => ?_, fun d hd => ?_⟩
  · rw [eF, upd_s]; rfl
  · rw [u 1 (by omega) (by omega)]; exact k1
  · rw [u 2 (by omega) (by omega)]; exact k2
  · rw [u 3 (by omega) (by omega)]; exact t2
  · rw [up2_at (Or.inr (by decide))]; exact t3
  · rw [u 4 (by omega) (by omega)]; exact w3
  · rw [up2_at (Or.inr (by decide))]; exact w4
  · rw [u _ (by omega) (by omega), up2_at (Or.inr (by decide))]; exact (h5 j hj).1
  · rw [up2_at (Or.inr (by decide))]; exact (h5 j hj).2
  · by_cases c : j = K 0
    · rw [c, up2_s, eF, upd_n _ _ (by omega), upd_s]
    · have hj2 : j < K 0 := by have hj3 : j < K 0 + 1 := hj
                               omega
      rw [u _ (by omega) (by omega), up2_at (Or.inl c)]; exact h6 j hj2
  · rw [u _ (by omega) (by omega), up2_at (Or.inr (by decide))]; exact h7 i hi
  · exact (h8 i hi).to (fun x x1 x2 => u x (by omega) (by omega)) (fun r r1 r2 => up2_at (Or.inr (by omega))) (Nat.le_refl _)
  · exact (h9 d hd).to (fun x x1 x2 => u x (by omega) (by omega)) (fun r r1 r2 => up2_at (Or.inr (by omega))) (Nat.le_refl _)
theorem mAdds_o {d r t : Nat} {h k ha li fi la src : Int32} (hd : t ≠ d) : mAdds μ d h k ha li fi la src r t = μ r t := by
  unfold mAdds
  rw [up2_at (Or.inl hd), up2_at (Or.inl hd), up2_at (Or.inl hd), up2_at (Or.inl hd), up2_at (Or.inl hd), up2_at (Or.inl hd), up2_at (Or.inl hd)]
theorem mAdds_r {d r : Nat} {h k ha li fi la src : Int32} (hr : r < 3 ∨ 9 < r) : mAdds μ d h k ha li fi la src r = μ r := by
  unfold mAdds
  rw [up2_r (by omega), up2_r (by omega), up2_r (by omega), up2_r (by omega), up2_r (by omega), up2_r (by omega), up2_r (by omega)]
theorem mAdds_d {d : Nat} {h k ha li fi la src : Int32} : mAdds μ d h k ha li fi la src 3 d = h ∧ mAdds μ d h k ha li fi la src 4 d = k ∧ mAdds μ d h k ha li fi la src 9 d = ha ∧ mAdds μ d h k ha li fi la src 5 d = li ∧ mAdds μ d h k ha li fi la src 6 d = fi ∧ mAdds μ d h k ha li fi la src 7 d = la ∧ mAdds μ d h k ha li fi la src 8 d = src := by
  have a : ∀ {g : F2} {r k2 t i : Nat} {x : Int32}, r ≠ k2 → up2 g k2 i x r t = g r t := fun h => up2_at (Or.inr h)
  unfold mAdds
  refine ⟨?_, ?_, ?_, ?_, ?_, ?_, ?_⟩
  · rw [a (by decide), a (by decide), a (by decide), a (by decide), a (by decide), a (by decide), up2_s]
  · rw [a (by decide), a (by decide), a (by decide), a (by decide), a (by decide), up2_s]
  · rw [a (by decide), a (by decide), a (by decide), a (by decide), up2_s]
  · rw [a (by decide), a (by decide), a (by decide), up2_s]
  · rw [a (by decide), a (by decide), up2_s]
  · rw [a (by decide), up2_s]
  · rw [up2_s]
theorem NL.power (h : NL f μ K D) (hK : K 1 < 20) {hh kk li fi la src : Int32} {q a b : Nat} (hq : q < 3) (hfi : fi = nI a) (hla : la = nI b) (hab : a ≤ b) (hb : b ≤ D + 60) :
    NL (upd (upd (upd (upd (upd (upd (upd (upd f (30 + 8 * K 1) hh) (30 + 8 * K 1 + 1) kk) (30 + 8 * K 1 + 2) (nI q)) (30 + 8 * K 1 + 3) li) (30 + 8 * K 1 + 4) fi) (30 + 8 * K 1 + 5) la) (30 + 8 * K 1 + 6) src) 1 (nI (K 1 + 1))) (mAdds μ (K 1) hh kk (hch (nI q)) li fi la src) (updN K 1 (K 1 + 1)) D := by
  obtain ⟨F, eF⟩ : ∃ F, F = upd (upd (upd (upd (upd (upd (upd (upd f (30 + 8 * K 1) hh) (30 + 8 * K 1 + 1) kk) (30 + 8 * K 1 + 2) (nI q)) (30 + 8 * K 1 + 3) li) (30 + 8 * K 1 + 4) fi) (30 + 8 * K 1 + 5) la) (30 + 8 * K 1 + 6) src) 1 (nI (K 1 + 1)) := ⟨_, rfl⟩
  rw [← eF]
  have u : ∀ x, x ≠ 1 → (x < 30 + 8 * K 1 ∨ 36 + 8 * K 1 < x) → F x = f x := fun x h1 h2 => by
    rw [eF, upd_n _ _ h1, upd_n _ _ (by omega), upd_n _ _ (by omega), upd_n _ _ (by omega), upd_n _ _ (by omega), upd_n _ _ (by omega), upd_n _ _ (by omega), upd_n _ _ (by omega)]
  obtain ⟨m3, m4, m9, m5, m6, m7, m8⟩ := mAdds_d (μ := μ) (d := K 1) (h := hh) (k := kk) (ha := hch (nI q)) (li := li) (fi := fi) (la := la) (src := src)
  obtain ⟨⟨k0, k1, k2⟩, ⟨b0, b1, b2, bD⟩, ⟨td, t1, t2, t3⟩, ⟨w, w1, w2, w3, w4⟩, h5, h6, h7, h8, h9⟩ := h
  refine ⟨⟨?_, ?_, ?_⟩, ⟨b0, (show K 1 + 1 ≤ 20 by omega), b2, bD⟩, ⟨td, t1, ?_, ?_⟩, ⟨w, w1, w2, ?_, ?_⟩, fun j hj => ⟨?_, ?_⟩, fun j hj => ?_, fun i hi => ?_, fun i hi => ?_, fun d hd => ?_⟩
  · rw [u 0 (by omega) (by omega)]; exact k0
  · rw [eF, upd_s]; rfl
  · rw [u 2 (by omega) (by omega)]; exact k2
  · rw [u 3 (by omega) (by omega)]; exact t2
  · rw [mAdds_r (by omega)]; exact t3
  · rw [u 4 (by omega) (by omega)]; exact w3
  · rw [mAdds_r (by omega)]; exact w4
  · rw [u _ (by omega) (by omega), mAdds_r (by omega)]; exact (h5 j hj).1
  · rw [mAdds_r (by omega)]; exact (h5 j hj).2
  · have hj2 : j < K 0 := hj
    rw [u _ (by omega) (by omega), mAdds_r (by omega)]; exact h6 j hj2
  · rw [u _ (by omega) (by omega), mAdds_r (by omega)]; exact h7 i hi
  · by_cases c : i = K 1
    · subst c
      have uu : ∀ x y, F x = y → ∀ z, z = x → F z = y := fun x y h z e => by rw [e]; exact h
      refine ⟨?_, ?_, ⟨q, hq, ?_, m9⟩, ?_, ?_, ?_, ?_, a, b, m6.trans hfi, m7.trans hla, hab, hb⟩
      · rw [m3, eF, upd_n _ _ (by omega), upd_n _ _ (by omega), upd_n _ _ (by omega), upd_n _ _ (by omega), upd_n _ _ (by omega), upd_n _ _ (by omega), upd_n _ _ (by omega), upd_s]
      · rw [m4]; exact uu (30 + 8 * K 1 + 1) _ (by rw [eF, upd_n _ _ (by omega), upd_n _ _ (by omega), upd_n _ _ (by omega), upd_n _ _ (by omega), upd_n _ _ (by omega), upd_n _ _ (by omega), upd_s]) _ (by omega)
      · exact uu (30 + 8 * K 1 + 2) _ (by rw [eF, upd_n _ _ (by omega), upd_n _ _ (by omega), upd_n _ _ (by omega), upd_n _ _ (by omega), upd_n _ _ (by omega), upd_s]) _ (by omega)
      · rw [m5]; exact uu (30 + 8 * K 1 + 3) _ (by rw [eF, upd_n _ _ (by omega), upd_n _ _ (by omega), upd_n _ _ (by omega), upd_n _ _ (by omega), upd_s]) _ (by omega)
      · rw [m6]; exact uu (30 + 8 * K 1 + 4) _ (by rw [eF, upd_n _ _ (by omega), upd_n _ _ (by omega), upd_n _ _ (by omega), upd_s]) _ (by omega)
      · rw [m7]; exact uu (30 + 8 * K 1 + 5) _ (by rw [eF, upd_n _ _ (by omega), upd_n _ _ (by omega), upd_s]) _ (by omega)
      · rw [m8]; exact uu (30 + 8 * K 1 + 6) _ (by rw [eF, upd_n _ _ (by omega), upd_s]) _ (by omega)
    · have hi2 : i < K 1 := by have hi3 : i < K 1 + 1 := hi
                               omega
      exact (h8 i hi2).to (fun x x1 x2 => u x (by omega) (by omega)) (fun r r1 r2 => mAdds_o c) (Nat.le_refl _)
  · exact (h9 d hd).to (fun x x1 x2 => u x (by omega) (by omega)) (fun r r1 r2 => by rw [mAdds_r (by omega)]) (Nat.le_refl _)
/-- two cells of a person -/
theorem NL.pers2 (h : NL f μ K D) {p : Nat} (hp : p < K 0) {x y : Int32} (hx : x = 0 ∨ x = 1) : NL (upd (upd f (10 + 2 * p) x) (11 + 2 * p) y) (up2 (up2 μ 0 p x) 2 p y) K D := by
  obtain ⟨F, eF⟩ : ∃ F, F = upd (upd f (10 + 2 * p) x) (11 + 2 * p) y := ⟨_, rfl⟩
  rw [← eF]
  have u : ∀ z, z ≠ 10 + 2 * p → z ≠ 11 + 2 * p → F z = f z := fun z h1 h2 => by rw [eF, upd_n _ _ h2, upd_n _ _ h1]
  have m : ∀ r t, r ≠ 0 → r ≠ 2 → up2 (up2 μ 0 p x) 2 p y r t = μ r t := fun r t h1 h2 => by rw [up2_at (Or.inr h2), up2_at (Or.inr h1)]
  obtain ⟨⟨k0, k1, k2⟩, ⟨b0, b1, b2, bD⟩, ⟨td, t1, t2, t3⟩, ⟨w, w1, w2, w3, w4⟩, h5, h6, h7, h8, h9⟩ := h
  refine ⟨⟨?_, ?_, ?_⟩, ⟨b0, b1, b2, bD⟩, ⟨td, t1, ?_, ?_⟩, ⟨w, w1, w2, ?_, ?_⟩, fun j hj => ?_, fun j hj => ?_, fun i hi => ?_, fun i hi => ?_, fun d hd => ?_⟩
  · rw [u 0 (by omega) (by omega)]; exact k0
  · rw [u 1 (by omega) (by omega)]; exact k1
  · rw [u 2 (by omega) (by omega)]; exact k2
  · rw [u 3 (by omega) (by omega)]; exact t2
  · rw [m _ _ (by decide) (by decide)]; exact t3
  · rw [u 4 (by omega) (by omega)]; exact w3
  · rw [m _ _ (by decide) (by decide)]; exact w4
  · by_cases c : j = p
    · subst c
      rw [up2_at (Or.inr (by decide)), up2_s]
      exact ⟨by rw [eF, upd_n _ _ (by omega), upd_s], hx⟩
    · rw [up2_at (Or.inl c), up2_at (Or.inl c), u _ (by omega) (by omega)]
      exact h5 j hj
  · by_cases c : j = p
    · subst c
      rw [up2_s, eF, upd_s]
    · rw [up2_at (Or.inl c), up2_at (Or.inl c), u _ (by omega) (by omega)]
      exact h6 j hj
  · rw [u _ (by omega) (by omega), m _ _ (by decide) (by decide)]; exact h7 i hi
  · exact (h8 i hi).to (fun x x1 x2 => u x (by omega) (by omega)) (fun r r1 r2 => m r _ (by omega) (by omega)) (Nat.le_refl _)
  · exact (h9 d hd).to (fun x x1 x2 => u x (by omega) (by omega)) (fun r r1 r2 => m r _ (by omega) (by omega)) (Nat.le_refl _)
theorem NL.revoke (h : NL f μ K D) {p : Nat} (hp : p < K 1) : NL (upd f (37 + 8 * p) 1) (up2 μ 1 p 1) K D := by
  obtain ⟨F, eF⟩ : ∃ F, F = upd f (37 + 8 * p) 1 := ⟨_, rfl⟩
  rw [← eF]
  have u : ∀ z, z ≠ 37 + 8 * p → F z = f z := fun z h1 => by rw [eF, upd_n _ _ h1]
  have m : ∀ r t, r ≠ 1 → up2 μ 1 p 1 r t = μ r t := fun r t h1 => up2_at (Or.inr h1)
  obtain ⟨⟨k0, k1, k2⟩, ⟨b0, b1, b2, bD⟩, ⟨td, t1, t2, t3⟩, ⟨w, w1, w2, w3, w4⟩, h5, h6, h7, h8, h9⟩ := h
  refine ⟨⟨?_, ?_, ?_⟩, ⟨b0, b1, b2, bD⟩, ⟨td, t1, ?_, ?_⟩, ⟨w, w1, w2, ?_, ?_⟩, fun j hj => ?_, fun j hj => ?_, fun i hi => ?_, fun i hi => ?_, fun d hd => ?_⟩
  · rw [u 0 (by omega)]; exact k0
  · rw [u 1 (by omega)]; exact k1
  · rw [u 2 (by omega)]; exact k2
  · rw [u 3 (by omega)]; exact t2
  · rw [m _ _ (by decide)]; exact t3
  · rw [u 4 (by omega)]; exact w3
  · rw [m _ _ (by decide)]; exact w4
  · rw [u _ (by omega), m _ _ (by decide)]; exact h5 j hj
  · rw [u _ (by omega), m _ _ (by decide)]; exact h6 j hj
  · by_cases c : i = p
    · subst c
      rw [up2_s, eF, upd_s]
    · rw [up2_at (Or.inl c), u _ (by omega)]; exact h7 i hi
  · exact (h8 i hi).to (fun x x1 x2 => u x (by omega)) (fun r r1 r2 => m r _ (by omega)) (Nat.le_refl _)
  · exact (h9 d hd).to (fun x x1 x2 => u x (by omega)) (fun r r1 r2 => m r _ (by omega)) (Nat.le_refl _)
theorem NL.lower (h : NL f μ K D) {p : Nat} (hp : p < K 1) {y : Int32} : NL (upd f (33 + 8 * p) y) (up2 μ 5 p y) K D := by
  obtain ⟨F, eF⟩ : ∃ F, F = upd f (33 + 8 * p) y := ⟨_, rfl⟩
  rw [← eF]
  have u : ∀ z, z ≠ 33 + 8 * p → F z = f z := fun z h1 => by rw [eF, upd_n _ _ h1]
  have m : ∀ r t, r ≠ 5 → up2 μ 5 p y r t = μ r t := fun r t h1 => up2_at (Or.inr h1)
  obtain ⟨⟨k0, k1, k2⟩, ⟨b0, b1, b2, bD⟩, ⟨td, t1, t2, t3⟩, ⟨w, w1, w2, w3, w4⟩, h5, h6, h7, h8, h9⟩ := h
  refine ⟨⟨?_, ?_, ?_⟩, ⟨b0, b1, b2, bD⟩, ⟨td, t1, ?_, ?_⟩, ⟨w, w1, w2, ?_, ?_⟩, fun j hj => ?_, fun j hj => ?_, fun i hi => ?_, fun i hi => ?_, fun d hd => ?_⟩
  · rw [u 0 (by omega)]; exact k0
  · rw [u 1 (by omega)]; exact k1
  · rw [u 2 (by omega)]; exact k2
  · rw [u 3 (by omega)]; exact t2
  · rw [m _ _ (by decide)]; exact t3
  · rw [u 4 (by omega)]; exact w3
  · rw [m _ _ (by decide)]; exact w4
  · rw [u _ (by omega), m _ _ (by decide)]; exact h5 j hj
  · rw [u _ (by omega), m _ _ (by decide)]; exact h6 j hj
  · rw [u _ (by omega), m _ _ (by decide)]; exact h7 i hi
  · by_cases c : i = p
    · subst c
      obtain ⟨g0, g1, ⟨q, q1, q2, q3⟩, g3, g4, g5, g6, a, b, a1, a2, a3, a4⟩ := h8 i hi
      refine ⟨?_, ?_, ⟨q, q1, ?_, ?_⟩, ?_, ?_, ?_, ?_, a, b, ?_, ?_, a3, a4⟩
      · rw [u _ (by omega), m _ _ (by decide)]; exact g0
      · rw [u _ (by omega), m _ _ (by decide)]; exact g1
      · rw [u _ (by omega)]; exact q2
      · rw [m _ _ (by decide)]; exact q3
      · rw [up2_s, eF, upd_s]
      · rw [u _ (by omega), m _ _ (by decide)]; exact g4
      · rw [u _ (by omega), m _ _ (by decide)]; exact g5
      · rw [u _ (by omega), m _ _ (by decide)]; exact g6
      · rw [m _ _ (by decide)]; exact a1
      · rw [m _ _ (by decide)]; exact a2
    · exact (h8 i hi).to (fun x x1 x2 => u x (by omega)) (fun r r1 r2 => up2_at (Or.inl c)) (Nat.le_refl _)
  · exact (h9 d hd).to (fun x x1 x2 => u x (by omega)) (fun r r1 r2 => m r _ (by omega)) (Nat.le_refl _)
theorem NL.pass (h : NL f μ K D) {td : Nat} (htd : td < 2 ^ 31) (h3 : f 3 = nI td) {q : Nat} (hq : q ≤ 9) (hD : D + 9 ≤ 400) : NL (upd f 3 (nI (td + q))) (up2 μ 22 0 (μ 22 0 + nI q)) K (D + 9) := by
  obtain ⟨F, eF⟩ : ∃ F, F = upd f 3 (nI (td + q)) := ⟨_, rfl⟩
  rw [← eF]
  have u : ∀ z, z ≠ 3 → F z = f z := fun z h1 => by rw [eF, upd_n _ _ h1]
  have m : ∀ {x : Int32} r t, r ≠ 22 → up2 μ 22 0 x r t = μ r t := fun r t h1 => up2_at (Or.inr h1)
  obtain ⟨⟨k0, k1, k2⟩, ⟨b0, b1, b2, bD⟩, ⟨td', t1, t2, t3⟩, ⟨w, w1, w2, w3, w4⟩, h5, h6, h7, h8, h9⟩ := h
  have e : td' = td := (nI_eq (by omega) htd).mp (t2.symm.trans h3)
  subst e
  refine ⟨⟨?_, ?_, ?_⟩, ⟨b0, b1, b2, hD⟩, ⟨td' + q, by omega, ?_, ?_⟩, ⟨w, w1, w2, ?_, ?_⟩, fun j hj => ?_, fun j hj => ?_, fun i hi => ?_, fun i hi => ?_, fun d hd => ?_⟩
  · rw [u 0 (by omega)]; exact k0
  · rw [u 1 (by omega)]; exact k1
  · rw [u 2 (by omega)]; exact k2
  · rw [eF, upd_s]
  · rw [up2_s, t3, nI_add]
  · rw [u 4 (by omega)]; exact w3
  · rw [m _ _ (by decide)]; exact w4
  · rw [u _ (by omega), m _ _ (by decide)]; exact h5 j hj
  · rw [u _ (by omega), m _ _ (by decide)]; exact h6 j hj
  · rw [u _ (by omega), m _ _ (by decide)]; exact h7 i hi
  · exact (h8 i hi).to (fun x x1 x2 => u x (by omega)) (fun r r1 r2 => m r _ (by omega)) (by omega)
  · exact (h9 d hd).to (fun x x1 x2 => u x (by omega)) (fun r r1 r2 => m r _ (by omega)) (by omega)
theorem NL.setw (h : NL f μ K D) {w' : Nat} (hw1 : 1 ≤ w') (hw2 : w' ≤ 99) : NL (upd f 4 (nI w')) (up2 μ 23 0 (nI w')) K D := by
  obtain ⟨F, eF⟩ : ∃ F, F = upd f 4 (nI w') := ⟨_, rfl⟩
  rw [← eF]
  have u : ∀ z, z ≠ 4 → F z = f z := fun z h1 => by rw [eF, upd_n _ _ h1]
  have m : ∀ {x : Int32} r t, r ≠ 23 → up2 μ 23 0 x r t = μ r t := fun r t h1 => up2_at (Or.inr h1)
  obtain ⟨⟨k0, k1, k2⟩, ⟨b0, b1, b2, bD⟩, ⟨td, t1, t2, t3⟩, ⟨w, w1, w2, w3, w4⟩, h5, h6, h7, h8, h9⟩ := h
  refine ⟨⟨?_, ?_, ?_⟩, ⟨b0, b1, b2, bD⟩, ⟨td, t1, ?_, ?_⟩, ⟨w', hw1, hw2, ?_, ?_⟩, fun j hj => ?_, fun j hj => ?_, fun i hi => ?_, fun i hi => ?_, fun d hd => ?_⟩
  · rw [u 0 (by omega)]; exact k0
  · rw [u 1 (by omega)]; exact k1
  · rw [u 2 (by omega)]; exact k2
  · rw [u 3 (by omega)]; exact t2
  · rw [m _ _ (by decide)]; exact t3
  · rw [eF, upd_s]
  · rw [up2_s]
  · rw [u _ (by omega), m _ _ (by decide)]; exact h5 j hj
  · rw [u _ (by omega), m _ _ (by decide)]; exact h6 j hj
  · rw [u _ (by omega), m _ _ (by decide)]; exact h7 i hi
  · exact (h8 i hi).to (fun x x1 x2 => u x (by omega)) (fun r r1 r2 => m r _ (by omega)) (Nat.le_refl _)
  · exact (h9 d hd).to (fun x x1 x2 => u x (by omega)) (fun r r1 r2 => m r _ (by omega)) (Nat.le_refl _)
/-- a waiting deed's new status -/
theorem NL.stat (h : NL f μ K D) {d0 c : Nat} (hd : d0 < K 2) (hw : ¬ μ 17 d0 = 115) (hc : c < 4) (hc0 : ¬ c = 0) {y : Int32} (hy : y = stc (nI c)) {z0 : Nat} (hz : z0 = 205 + 10 * d0) : NL (upd f z0 (nI c)) (up2 μ 17 d0 y) K D := by
  subst hz
  obtain ⟨F, eF⟩ : ∃ F, F = upd f (205 + 10 * d0) (nI c) := ⟨_, rfl⟩
  rw [← eF]
  have u : ∀ z, z ≠ 205 + 10 * d0 → F z = f z := fun z h1 => by rw [eF, upd_n _ _ h1]
  have m : ∀ r t, r ≠ 17 → up2 μ 17 d0 y r t = μ r t := fun r t h1 => up2_at (Or.inr h1)
  obtain ⟨⟨k0, k1, k2⟩, ⟨b0, b1, b2, bD⟩, ⟨td, t1, t2, t3⟩, ⟨w, w1, w2, w3, w4⟩, h5, h6, h7, h8, h9⟩ := h
  refine ⟨⟨?_, ?_, ?_⟩, ⟨b0, b1, b2, bD⟩, ⟨td, t1, ?_, ?_⟩, ⟨w, w1, w2, ?_, ?_⟩, fun j hj => ?_, fun j hj => ?_, fun i hi => ?_, fun i hi => ?_, fun d hd2 => ?_⟩
  · rw [u 0 (by omega)]; exact k0
  · rw [u 1 (by omega)]; exact k1
  · rw [u 2 (by omega)]; exact k2
  · rw [u 3 (by omega)]; exact t2
  · rw [m _ _ (by decide)]; exact t3
  · rw [u 4 (by omega)]; exact w3
  · rw [m _ _ (by decide)]; exact w4
  · rw [u _ (by omega), m _ _ (by decide)]; exact h5 j hj
  · rw [u _ (by omega), m _ _ (by decide)]; exact h6 j hj
  · rw [u _ (by omega), m _ _ (by decide)]; exact h7 i hi
  · exact (h8 i hi).to (fun x x1 x2 => u x (by omega)) (fun r r1 r2 => m r _ (by omega)) (Nat.le_refl _)
  · by_cases e : d = d0
    · subst e
      obtain ⟨g0, g1, g2, g3, g4, -, g6, y2, y3, y4⟩ := h9 d hd
      refine ⟨?_, ?_, ?_, ?_, ?_, ⟨c, hc, ?_, ?_⟩, fun _ => ?_, y2, ?_, y4⟩
      · rw [u _ (by omega), m _ _ (by decide)]; exact g0
      · rw [u _ (by omega), m _ _ (by decide)]; exact g1
      · rw [u _ (by omega), m _ _ (by decide)]; exact g2
      · rw [u _ (by omega), m _ _ (by decide)]; exact g3
      · rw [u _ (by omega), m _ _ (by decide)]; exact g4
      · rw [eF, upd_s]
      · rw [up2_s]; exact hy
      · rw [u _ (by omega), u _ (by omega), u _ (by omega), m _ _ (by decide), m _ _ (by decide), m _ _ (by decide)]; exact g6 hw
      · rw [m _ _ (by decide)]; exact y3
    · exact (h9 d hd2).to (fun x x1 x2 => u x (by omega)) (fun r r1 r2 => up2_at (Or.inl e)) (Nat.le_refl _)
/-- cells of the deed that is not counted yet -/
theorem NL.free (h : NL f μ K D) {x : Nat} (h1 : 200 + 10 * K 2 ≤ x) (y : Int32) : NL (upd f x y) μ K D := by
  obtain ⟨F, eF⟩ : ∃ F, F = upd f x y := ⟨_, rfl⟩
  rw [← eF]
  have u : ∀ z, z ≠ x → F z = f z := fun z h1 => by rw [eF, upd_n _ _ h1]
  obtain ⟨⟨k0, k1, k2⟩, ⟨b0, b1, b2, bD⟩, ⟨td, t1, t2, t3⟩, ⟨w, w1, w2, w3, w4⟩, h5, h6, h7, h8, h9⟩ := h
  refine ⟨⟨?_, ?_, ?_⟩, ⟨b0, b1, b2, bD⟩, ⟨td, t1, ?_, t3⟩, ⟨w, w1, w2, ?_, w4⟩, fun j hj => ?_, fun j hj => ?_, fun i hi => ?_, fun i hi => ?_, fun d hd => ?_⟩
  · rw [u 0 (by omega)]; exact k0
  · rw [u 1 (by omega)]; exact k1
  · rw [u 2 (by omega)]; exact k2
  · rw [u 3 (by omega)]; exact t2
  · rw [u 4 (by omega)]; exact w3
  · rw [u _ (by omega)]; exact h5 j hj
  · rw [u _ (by omega)]; exact h6 j hj
  · rw [u _ (by omega)]; exact h7 i hi
  · exact (h8 i hi).to (fun x x1 x2 => u x (by omega)) (fun r r1 r2 => rfl) (Nat.le_refl _)
  · exact (h9 d hd).to (fun x x1 x2 => u x (by omega)) (fun r r1 r2 => rfl) (Nat.le_refl _)
/-- a deed more -/
theorem NL.deed (h : NL f μ K D) (hK : K 2 < 24) {i j k a pa S : Int32} {np : Nat} {x6 x7 x8 : Int32} {cs : Nat} (hcs : cs < 4)
    (u : ∀ z, z ≠ 2 → (z < 200 + 10 * K 2 ∨ 208 + 10 * K 2 < z) → F z = f z) (v2 : F 2 = nI (K 2 + 1)) (v0 : F (200 + 10 * K 2) = k) (v1 : F (201 + 10 * K 2) = a) (v3 : F (202 + 10 * K 2) = pa) (v4 : F (203 + 10 * K 2) = f 3) (v5 : F (204 + 10 * K 2) = S) (v6 : F (205 + 10 * K 2) = nI cs) (v7 : F (206 + 10 * K 2) = x6) (v8 : F (207 + 10 * K 2) = x7) (v9 : F (208 + 10 * K 2) = x8)
    (hst : mSig μ np (K 2) i j k a pa S 17 (K 2) = stc (nI cs)) (hlk : ¬ mSig μ np (K 2) i j k a pa S 17 (K 2) = 115 → mSig μ np (K 2) i j k a pa S 18 (K 2) = lch x6 ∧ x7 = mSig μ np (K 2) i j k a pa S 15 (K 2) ∧ (¬ mSig μ np (K 2) i j k a pa S 15 (K 2) < 0 → x8 = mSig μ np (K 2) i j k a pa S 16 (K 2))) :
    NL F (mSig μ np (K 2) i j k a pa S) (updN K 2 (K 2 + 1)) D := by
  obtain ⟨s0, s1, s2, s3, s4⟩ := mSig_d (μ := μ) (np := np) (d := K 2) (i := i) (j := j) (k := k) (a := a) (pa := pa) (S := S)
  have m : ∀ {r t}, t ≠ K 2 ∨ r < 10 ∨ 18 < r → mSig μ np (K 2) i j k a pa S r t = μ r t := fun h => mSig_o h
  obtain ⟨⟨k0, k1, k2⟩, ⟨b0, b1, b2, bD⟩, ⟨td, t1, t2, t3⟩, ⟨w, w1, w2, w3, w4⟩, h5, h6, h7, h8, h9⟩ := h
  refine ⟨⟨?_, ?_, v2⟩, ⟨b0, b1, (show K 2 + 1 ≤ 24 by omega), bD⟩, ⟨td, t1, ?_, ?_⟩, ⟨w, w1, w2, ?_, ?_⟩, fun j hj => ?_, fun j hj => ?_, fun i hi => ?_, fun i hi => ?_, fun d hd => ?_⟩
  · rw [u 0 (by omega) (by omega)]; exact k0
  · rw [u 1 (by omega) (by omega)]; exact k1
  · rw [u 3 (by omega) (by omega)]; exact t2
  · rw [m (by omega)]; exact t3
  · rw [u 4 (by omega) (by omega)]; exact w3
  · rw [m (by omega)]; exact w4
  · rw [u _ (by omega) (by omega), m (by omega)]; exact h5 j hj
  · have hj2 : j < K 0 := hj
    rw [u _ (by omega) (by omega), m (by omega)]; exact h6 j hj2
  · rw [u _ (by omega) (by omega), m (by omega)]; exact h7 i hi
  · have hi2 : i < K 1 := hi
    exact (h8 i hi2).to (fun x x1 x2 => u x (by omega) (by omega)) (fun r r1 r2 => m (by omega)) (Nat.le_refl _)
  · by_cases e : d = K 2
    · subst e
      refine ⟨v0.trans s0.symm, v1.trans s1.symm, v3.trans s2.symm, ?_, v5.trans s4.symm, ⟨cs, hcs, v6, hst⟩, fun z => ?_, td, ?_, t1⟩
      · rw [v4, s3, t2, t3]
      · rw [v7, v8, v9]; exact hlk z
      · rw [s3, t3]
    · have hd2 : d < K 2 := by have hd3 : d < K 2 + 1 := hd
                               omega
      exact (h9 d hd2).to (fun x x1 x2 => u x (by omega) (by omega)) (fun r r1 r2 => m (Or.inl e)) (Nat.le_refl _)
end NETW
