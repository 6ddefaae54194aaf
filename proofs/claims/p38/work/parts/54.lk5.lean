/-! deeds signed, ratified, annulled; the start -/
theorem fAdd_pos {w : F2} {an : Nat → Prop} {td wd k pa a : Int32} (ha : 1 ≤ a ∧ a ≤ 9999) : ∀ n, n ≤ 24 → (∀ t, t < n → 1 ≤ w 1 t ∧ w 1 t ≤ 9999) → 1 ≤ (fAdd w an td wd k pa n a).toInt ∧ (fAdd w an td wd k pa n a).toInt ≤ 9999 * (n + 1) := by
  have e1 : (1 : Int32).toInt = 1 := by decide
  have e9 : (9999 : Int32).toInt = 9999 := by decide
  intro n
  induction n with
  | zero =>
    intro _ _
    have a1 := ha.1
    have a2 := ha.2
    rw [Int32.le_iff_toInt_le] at a1 a2
    show 1 ≤ a.toInt ∧ a.toInt ≤ _
    omega
  | succ n ih =>
    intro hn ht
    obtain ⟨i1, i2⟩ := ih (by omega) (fun t h => ht t (by omega))
    obtain ⟨b1, b2⟩ := ht n (by omega)
    rw [Int32.le_iff_toInt_le] at b1 b2
    by_cases c : w 0 n = k ∧ w 2 n = pa ∧ ¬ an n ∧ td - w 3 n < wd
    · have e : fAdd w an td wd k pa (n + 1) a = fAdd w an td wd k pa n a + w 1 n := cif_pos c
      rw [e, Int32.toInt_add, Int.bmod_eq_of_le (by omega) (by omega)]
      omega
    · have e : fAdd w an td wd k pa (n + 1) a = fAdd w an td wd k pa n a := cif_neg c
      rw [e]
      omega
theorem fLk_107 (v : F2) (td i j k s : Int32) (n : Nat) (hn : n < 2 ^ 31) : (fLk v td i j k s n).2.1 < 0 ↔ (fLk v td i j k s n).1 = 107 := by
  induction n with
  | zero => exact ⟨fun _ => rfl, fun _ => by show (-1 : Int32) < 0; decide⟩
  | succ n ih =>
    by_cases c : v 6 n = k ∧ (fAct v i (v 5 n) ∨ (0 ≤ j ∧ fAct v j (v 5 n))) ∧ fOrd (fLk v td i j k s n).1 < fOrd (if fl v td s n = 45 then 104 else fl v td s n)
    · have e : fLk v td i j k s (n + 1) = _ := cif_pos c
      rw [e]
      refine ⟨fun z => absurd z (nI_pos (by omega)), fun z => ?_⟩
      simp only at z
      rcases fl_is v td s n with h | h | h | h
      · rw [if_neg (by rw [h]; decide), h] at z
        exact absurd z (by decide)
      · rw [if_neg (by rw [h]; decide), h] at z
        exact absurd z (by decide)
      · rw [if_neg (by rw [h]; decide), h] at z
        exact absurd z (by decide)
      · rw [if_pos h] at z
        exact absurd z (by decide)
    · have e : fLk v td i j k s (n + 1) = _ := cif_neg c
      rw [e]
      exact ih (by omega)
theorem up2_at {f : F2} {k i r t : Nat} {x : Int32} (h : t ≠ i ∨ r ≠ k) : up2 f k i x r t = f r t := by
  by_cases e : r = k
  · subst e
    rw [up2_k, if_neg (by omega)]
  · exact up2_o e
theorem up2_r {f : F2} {k i r : Nat} {x : Int32} (h : r ≠ k) : up2 f k i x r = f r := funext (fun _ => up2_o h)
theorem up2_s {f : F2} {k i : Nat} {x : Int32} : up2 f k i x k i = x := by rw [up2_k, if_pos rfl]
theorem upd_at {f : Nat → Int32} {i t : Nat} {x : Int32} (h : t ≠ i) : upd f i x t = f t := if_neg h
section SG
variable {μ : F2} {np d : Nat} {i j k a pa S td : Int32}
theorem mRow_o {r t : Nat} (h : t ≠ d ∨ r < 10 ∨ 14 < r) : mRow μ d k a pa td S r t = μ r t := by
  unfold mRow
  rw [up2_at (by omega), up2_at (by omega), up2_at (by omega), up2_at (by omega), up2_at (by omega)]
theorem mLack_o {L : Int32 × Int32 × Int32} {r t : Nat} (h : t ≠ d ∨ r < 15 ∨ r = 17 ∨ 18 < r) : mLack μ d L r t = μ r t := by
  unfold mLack upA
  by_cases c16 : r = 16
  · subst c16
    rw [if_pos rfl]
    exact upd_at (by omega)
  · rw [if_neg c16]
    by_cases c15 : r = 15
    · subst c15
      rw [if_pos rfl]
      exact upd_at (by omega)
    · rw [if_neg c15]
      by_cases c18 : r = 18
      · subst c18
        rw [if_pos rfl]
        exact upd_at (by omega)
      · rw [if_neg c18]
theorem mLack_18 {L : Int32 × Int32 × Int32} : mLack μ d L 18 d = L.1 := by
  unfold mLack upA
  rw [if_neg (by decide), if_neg (by decide), if_pos rfl]
  exact if_pos rfl
theorem mLack_15 {L : Int32 × Int32 × Int32} : mLack μ d L 15 d = L.2.1 := by
  unfold mLack upA
  rw [if_neg (by decide), if_pos rfl]
  exact if_pos rfl
theorem mLack_16 {L : Int32 × Int32 × Int32} : mLack μ d L 16 d = L.2.2 := by
  unfold mLack upA
  rw [if_pos rfl]
  exact if_pos rfl
theorem mSig_o {r t : Nat} (h : t ≠ d ∨ r < 10 ∨ 18 < r) : mSig μ np d i j k a pa S r t = μ r t := by
  unfold mSig
  by_cases c : mOk (mv μ) np (μ 22 0) i j k S
  · rw [cif_pos c, up2_at (by omega), mRow_o (by omega)]
  · rw [cif_neg c, mLack_o (by omega), up2_at (by omega), mRow_o (by omega)]
theorem mSig_d : mSig μ np d i j k a pa S 10 d = k ∧ mSig μ np d i j k a pa S 11 d = a ∧ mSig μ np d i j k a pa S 12 d = pa ∧ mSig μ np d i j k a pa S 13 d = μ 22 0 ∧ mSig μ np d i j k a pa S 14 d = S := by
  have e : ∀ r, 10 ≤ r → r < 15 → mSig μ np d i j k a pa S r d = mRow μ d k a pa (μ 22 0) S r d := fun r h1 h2 => by
    unfold mSig
    by_cases c : mOk (mv μ) np (μ 22 0) i j k S
    · rw [cif_pos c, up2_at (by omega)]
    · rw [cif_neg c, mLack_o (by omega), up2_at (by omega)]
  rw [e 10 (by omega) (by omega), e 11 (by omega) (by omega), e 12 (by omega) (by omega), e 13 (by omega) (by omega), e 14 (by omega) (by omega)]
  unfold mRow
  refine ⟨?_, ?_, ?_, ?_, up2_s⟩
  · rw [up2_at (by omega), up2_at (by omega), up2_at (by omega), up2_at (by omega), up2_s]
  · rw [up2_at (by omega), up2_at (by omega), up2_at (by omega), up2_s]
  · rw [up2_at (by omega), up2_at (by omega), up2_s]
  · rw [up2_at (by omega), up2_s]
end SG
section LKS
variable {ξ m : F2} {M : Nat → F2} {N : Nat → Nat} {μ : F2} {K : Nat → Nat}
theorem LK.sum (h : LK ξ (M 0) N μ K) (δ : Nat → Int32) : kSum ξ M N δ = mSum μ K (δ 3) (δ 4) (δ 5) := by
  unfold kSum mSum
  rw [h.td, h.wd, h.n1]
  exact fAdd_congr (fun t ht => by
    obtain ⟨⟨e13, e14, e15, e16, -, -⟩, e3, -⟩ := h.dl t ht
    exact ⟨e13, e14, e15, e16, by rw [e3]; exact Classical.not_not⟩)
theorem LK.sign (h : LK ξ (M 0) N μ K) {i j k a pa : Int32} (hj : j = -1 ∨ ¬ j < 0) (hd : isDl k a pa) (hK : K 2 < 24) : LK (deedX ξ (N 1) (kDeed ξ M N (ddV i j k a pa))) (M 0) (updN N 1 (N 1 + 1)) (mSig μ (K 1) (K 2) i j k a pa (mSum μ K k a pa)) (updN K 2 (K 2 + 1)) := by
  obtain ⟨k0, k1, k2, ks, kh, kt⟩ := h.mi
  have n1 := h.n1
  have hS : kSum ξ M N (ddV i j k a pa) = mSum μ K k a pa := h.sum _
  obtain ⟨S, eS⟩ : ∃ S, S = mSum μ K k a pa := ⟨_, rfl⟩
  have hL : fLk (xv ξ (M 0)) (M 0 5 0) i j k S (N 0) = fLk (mv μ) (μ 22 0) i j k S (K 1) := by
    rw [fLk_eq h.we _ (Nat.le_refl _), h.td, h.n0]
  have hpos : 1 ≤ S := by
    rw [eS, Int32.le_iff_toInt_le]
    have e1 : (1 : Int32).toInt = 1 := by decide
    rw [e1]
    exact (fAdd_pos hd.2.2 (K 2) (by omega) (fun t ht => (h.dl t ht).2.2.1)).1
  -- the deed
  obtain ⟨δ, eδ⟩ : ∃ δ, δ = kDeed ξ M N (ddV i j k a pa) := ⟨_, rfl⟩
  have hok := h.ok (i := i) (j := j) (k := k) (s := S)
  have hδ : (mOk (mv μ) (K 1) (μ 22 0) i j k S ∧ δ = upd (kRow M N (ddV i j k a pa) S) 9 115) ∨ (¬ mOk (mv μ) (K 1) (μ 22 0) i j k S ∧ δ = dL (upd (kRow M N (ddV i j k a pa) S) 9 119) (fLk (mv μ) (μ 22 0) i j k S (K 1))) := by
    have e : kDeed ξ M N (ddV i j k a pa) = cif (mOk (xv ξ (M 0)) (N 0) (M 0 5 0) i j k (kSum ξ M N (ddV i j k a pa))) (upd (kRow M N (ddV i j k a pa) (kSum ξ M N (ddV i j k a pa))) 9 115) (dL (upd (kRow M N (ddV i j k a pa) (kSum ξ M N (ddV i j k a pa))) 9 119) (fLk (xv ξ (M 0)) (M 0 5 0) i j k (kSum ξ M N (ddV i j k a pa)) (N 0))) := rfl
    rw [hS, ← eS] at e
    by_cases c : mOk (mv μ) (K 1) (μ 22 0) i j k S
    · rw [cif_pos (hok.mpr c)] at e
      exact Or.inl ⟨c, eδ.trans e⟩
    · rw [cif_neg (fun z => c (hok.mp z)), hL] at e
      exact Or.inr ⟨c, eδ.trans e⟩
  have hδr : δ 1 = i ∧ δ 2 = j ∧ δ 3 = k ∧ δ 4 = a ∧ δ 5 = pa ∧ δ 6 = M 0 5 0 ∧ δ 7 = nI (N 2) ∧ δ 8 = S ∧ δ 13 = -1 := by
    rcases hδ with ⟨-, e⟩ | ⟨-, e⟩ <;> rw [e] <;> exact ⟨rfl, rfl, rfl, rfl, rfl, rfl, rfl, rfl, rfl⟩
  obtain ⟨d1, d2, d3, d4, d5, d6, d7, d8, d13⟩ := hδr
  rw [← eδ, ← eS]
  have xo : ∀ r t, t ≠ N 1 ∨ r < 11 ∨ 26 ≤ r → deedX ξ (N 1) δ r t = ξ r t := deedX_n
  have xr : ∀ r, r < 11 ∨ 26 ≤ r → deedX ξ (N 1) δ r = ξ r := fun r hr => funext (fun t => xo r t (by omega))
  have xn : ∀ r, 1 ≤ r → r < 16 → deedX ξ (N 1) δ (10 + r) (N 1) = δ r := deedX_v
  have x11 := xn 1 (by omega) (by omega)
  have x12 := xn 2 (by omega) (by omega)
  have x13 := xn 3 (by omega) (by omega)
  have x14 := xn 4 (by omega) (by omega)
  have x15 := xn 5 (by omega) (by omega)
  have x16 := xn 6 (by omega) (by omega)
  have x17 := xn 7 (by omega) (by omega)
  have x18 := xn 8 (by omega) (by omega)
  have x19 := xn 9 (by omega) (by omega)
  have x20 := xn 10 (by omega) (by omega)
  have x21 := xn 11 (by omega) (by omega)
  have x22 := xn 12 (by omega) (by omega)
  have x23 := xn 13 (by omega) (by omega)
  have μo : ∀ r t, t ≠ K 2 ∨ r < 10 ∨ 18 < r → mSig μ (K 1) (K 2) i j k a pa S r t = μ r t := fun r t hh => mSig_o hh
  have μr : ∀ r, r < 10 ∨ 18 < r → mSig μ (K 1) (K 2) i j k a pa S r = μ r := fun r hr => funext (fun t => μo r t (Or.inr hr))
  obtain ⟨m10, m11, m12, m13, m14⟩ := mSig_d (μ := μ) (np := K 1) (d := K 2) (i := i) (j := j) (k := k) (a := a) (pa := pa) (S := S)
  have ek : updN K 2 (K 2 + 1) 2 = K 2 + 1 := updN_s
  have en : updN N 1 (N 1 + 1) 1 = N 1 + 1 := updN_s
  have en2 : updN N 1 (N 1 + 1) 2 = N 2 := updN_n (by decide)
  have en0 : updN N 1 (N 1 + 1) 0 = N 0 := updN_n (by decide)
  have hmv : mv (mSig μ (K 1) (K 2) i j k a pa S) = mv μ := mv_congr (fun r hr => μr r (by omega))
  have hxv : ∀ mm, xv (deedX ξ (N 1) δ) mm = xv ξ mm := fun mm => by
    funext r
    unfold xv
    split <;> first | rfl | exact xr _ (by omega)
  have hrp : ∀ dy q, rp (deedX ξ (N 1) δ) dy q = rp ξ dy q := fun dy q => rp_eq (fun t _ => ⟨xo 30 t (by omega), xo 31 t (by omega), xo 32 t (by omega)⟩)
  refine ⟨⟨h.n0, by rw [ek, en, n1], h.n3⟩, ⟨k0, k1, by rw [ek]; omega, by rw [hmv]; exact ks, fun t ht => ?_, by rw [μo 22 0 (by omega)]; exact kt⟩, ⟨by rw [μo 22 0 (by omega)]; exact h.td, by rw [μo 23 0 (by omega)]; exact h.wd⟩, fun t ht => ?_, fun t ht => ?_, fun t ht => ?_, fun t => ?_, fun t ht => ?_, fun t ht => ?_, fun t ht => ?_, fun t ht => ?_, ?_, fun t ht => ?_⟩
  · rw [μr 3 (by omega)]
    exact kh t ht
  · unfold PL
    rw [μr 5 (by omega), μr 1 (by omega), μr 6 (by omega), μr 7 (by omega), μr 8 (by omega), μr 3 (by omega), μr 4 (by omega), μr 9 (by omega), xr 4 (by omega), xr 5 (by omega), xr 6 (by omega), xr 1 (by omega), xr 2 (by omega), xr 3 (by omega)]
    exact h.pl t ht
  · rw [μr 1 (by omega)]
    exact h.p1 t ht
  · show QL _ _ (K 0) t
    unfold QL
    rw [μr 0 (by omega), μr 2 (by omega)]
    exact h.ql t ht
  · rw [μr 1 (by omega)]
    exact h.r1 t
  · rw [ek] at ht
    rw [μo 16 t (by omega), μo 18 t (by omega)]
    exact h.z16 t (by omega)
  · rw [ek] at ht
    exact h.z3 t (by omega)
  · rw [ek] at ht
    by_cases e : t = K 2
    · subst e
      rw [n1] at x13 x14 x15 x16 x18 x19 x20 x21 x22
      rw [n1]
      have hz3 := h.z3 (K 2) (Nat.le_refl _)
      obtain ⟨z16, z18⟩ := h.z16 (K 2) (Nat.le_refl _)
      unfold DL
      rw [x13, x14, x15, x16, x18, x19, x20, x21, x22, m10, m11, m12, m13, m14]
      rcases hδ with ⟨c, e⟩ | ⟨c, e⟩
      · have e17 : mSig μ (K 1) (K 2) i j k a pa S 17 (K 2) = 115 := by
          unfold mSig
          rw [cif_pos c, up2_s]
        have e18 : mSig μ (K 1) (K 2) i j k a pa S 18 (K 2) = 0 := by
          unfold mSig
          rw [cif_pos c, up2_at (by omega), mRow_o (by omega)]
          exact z18
        have d9 : δ 9 = 115 := by rw [e]; rfl
        have d10 : δ 10 = 45 := by rw [e]; rfl
        rw [e17, e18, d9, d10]
        exact ⟨⟨d3, d4, d5, d6.trans h.td, d8, rfl⟩, ⟨fun _ => by decide, fun _ => hz3⟩, hd.2.2, Or.inl rfl, Or.inl rfl, fun z => absurd rfl z, rfl⟩
      · have e17 : mSig μ (K 1) (K 2) i j k a pa S 17 (K 2) = 119 := by
          unfold mSig
          rw [cif_neg c, mLack_o (by omega), up2_s]
        have e18 : mSig μ (K 1) (K 2) i j k a pa S 18 (K 2) = (fLk (mv μ) (μ 22 0) i j k S (K 1)).1 := by
          unfold mSig
          rw [cif_neg c, mLack_18]
        have e15 : mSig μ (K 1) (K 2) i j k a pa S 15 (K 2) = (fLk (mv μ) (μ 22 0) i j k S (K 1)).2.1 := by
          unfold mSig
          rw [cif_neg c, mLack_15]
        have e16 : mSig μ (K 1) (K 2) i j k a pa S 16 (K 2) = (fLk (mv μ) (μ 22 0) i j k S (K 1)).2.2 := by
          unfold mSig
          rw [cif_neg c, mLack_16]
        have d9 : δ 9 = 119 := by rw [e]; rfl
        have d10 : δ 10 = (fLk (mv μ) (μ 22 0) i j k S (K 1)).1 := by rw [e]; rfl
        have d11 : δ 11 = (fLk (mv μ) (μ 22 0) i j k S (K 1)).2.1 := by rw [e]; rfl
        have d12 : δ 12 = (fLk (mv μ) (μ 22 0) i j k S (K 1)).2.2 := by rw [e]; rfl
        have hin := fLk_in (mv μ) (μ 22 0) i j k S (K 1)
        rw [e17, e18, e15, e16, d9, d10, d11, d12]
        refine ⟨⟨d3, d4, d5, d6.trans h.td, d8, rfl⟩, ⟨fun _ => by decide, fun _ => hz3⟩, hd.2.2, Or.inr (Or.inl rfl), Or.inr hin, fun _ => ⟨rfl, rfl, rfl, fLk_107 _ _ _ _ _ _ _ (by omega)⟩, ?_⟩
        rcases hin with z | z | z | z | z <;> rw [z] <;> rfl
    · have ht2 : t < K 2 := by omega
      unfold DL
      rw [xo 13 t (by omega), xo 14 t (by omega), xo 15 t (by omega), xo 16 t (by omega), xo 18 t (by omega), xo 19 t (by omega), xo 20 t (by omega), xo 21 t (by omega), xo 22 t (by omega), μo 10 t (by omega), μo 11 t (by omega), μo 12 t (by omega), μo 13 t (by omega), μo 14 t (by omega), μo 17 t (by omega), μo 18 t (by omega), μo 15 t (by omega), μo 16 t (by omega)]
      exact h.dl t ht2
  · rw [en2] at ht
    rw [xo 30 t (by omega), xo 31 t (by omega), en0]
    exact h.pp t ht
  · rw [en2, hrp]
    exact h.rpe
  · rw [en] at ht
    rw [en0, en2]
    by_cases e : t = N 1
    · subst e
      have hsum : S = pSum (deedX ξ (N 1) δ) (N 2) (N 1) := by
        unfold pSum
        rw [x16, x13, x15, x14, d6, d3, d5, d4, hrp, ← h.rpe, eS, ← hS]
        unfold kSum
        exact fAdd_congr (fun t ht => ⟨(xo 13 t (by omega)).symm, (xo 14 t (by omega)).symm, (xo 15 t (by omega)).symm, (xo 16 t (by omega)).symm, Iff.rfl⟩)
      refine ⟨N 2, Nat.le_refl _, x17.trans d7, by rw [x18, d8]; exact hsum, by rw [x18, d8]; exact hpos, ?_, ?_, ?_, fun z => absurd (x23.trans d13) z⟩
      · rw [x20, x16, x11, x12, x13, x18, d6, d1, d2, d3, d8, hrp, ← h.rpe, hxv, hok]
        rcases hδ with ⟨c, e⟩ | ⟨c, e⟩
        · rw [e]
          exact ⟨fun _ => c, fun _ => rfl⟩
        · rw [e]
          refine ⟨fun z => ?_, fun z => absurd z c⟩
          have hin := fLk_in (mv μ) (μ 22 0) i j k S (K 1)
          have z2 : (fLk (mv μ) (μ 22 0) i j k S (K 1)).1 = 45 := z
          rcases hin with w | w | w | w | w <;> (rw [w] at z2; exact absurd z2 (by decide))
      · rw [x19, x20]
        rcases hδ with ⟨c, e⟩ | ⟨c, e⟩
        · rw [e]
          exact ⟨fun _ => rfl, fun _ => rfl⟩
        · rw [e]
          refine ⟨fun z => absurd (show (119 : Int32) = 115 from z) (by decide), fun z => ?_⟩
          have hin := fLk_in (mv μ) (μ 22 0) i j k S (K 1)
          have z2 : (fLk (mv μ) (μ 22 0) i j k S (K 1)).1 = 45 := z
          rcases hin with w | w | w | w | w <;> (rw [w] at z2; exact absurd z2 (by decide))
      · rw [x19, x23, d13]
        rcases hδ with ⟨c, e⟩ | ⟨c, e⟩
        · rw [e]
          exact ⟨fun z => absurd (show (115 : Int32) = 114 from z) (by decide), fun z => absurd rfl z⟩
        · rw [e]
          exact ⟨fun z => absurd (show (119 : Int32) = 114 from z) (by decide), fun z => absurd rfl z⟩
    · have n0 := h.n0
      exact (h.hd t (by omega)).grow (Nat.le_refl _) (Nat.le_refl _) (by omega) (fun r h1 h2 => xo r t (by omega)) (fun u hu => ⟨xo 13 u (by omega), xo 14 u (by omega), xo 15 u (by omega), xo 16 u (by omega)⟩) (fun u hu => ⟨xo 30 u (by omega), xo 31 u (by omega), xo 32 u (by omega)⟩) (fun u hu r h1 h2 => xo r u (by omega)) h.hsr (by rw [xr 6 (by omega)]; exact h.hsr) h.hh h.pp
theorem lk_sign (h : LK ξ (M 0) N μ K) (p k a pa : Int32) : kSign (N 3) (N 1) p k a pa = kSign (K 0) (K 2) p k a pa ∧ (kSign (K 0) (K 2) p k a pa = 0 → nI (N 1) = nI (K 2) ∧ LK (deedX ξ (N 1) (kDeed ξ M N (ddV p (-1) k a pa))) (M 0) (updN N 1 (N 1 + 1)) (mSig μ (K 1) (K 2) p (-1) k a pa (mSum μ K k a pa)) (updN K 2 (K 2 + 1))) := by
  refine ⟨by rw [h.n3, h.n1], fun c => ⟨by rw [h.n1], ?_⟩⟩
  obtain ⟨c1, c2⟩ := cif_0 (by decide) c
  obtain ⟨c3, c4⟩ := cif_0 (by decide) c2
  have c5 := (cif_0 (by decide) c4).1
  obtain ⟨k0, k1, k2, -⟩ := h.mi
  exact h.sign (Or.inl rfl) (nn c3) (by omega)
theorem lk_signTogether (h : LK ξ (M 0) N μ K) (p o k a pa : Int32) : kSignT (N 3) (N 1) p o k a pa = kSignT (K 0) (K 2) p o k a pa ∧ (kSignT (K 0) (K 2) p o k a pa = 0 → nI (N 1) = nI (K 2) ∧ LK (deedX ξ (N 1) (kDeed ξ M N (ddV p o k a pa))) (M 0) (updN N 1 (N 1 + 1)) (mSig μ (K 1) (K 2) p o k a pa (mSum μ K k a pa)) (updN K 2 (K 2 + 1))) := by
  refine ⟨by rw [h.n3, h.n1], fun c => ⟨by rw [h.n1], ?_⟩⟩
  obtain ⟨c1, c2⟩ := cif_0 (by decide) c
  obtain ⟨c3, c4⟩ := cif_0 (by decide) c2
  obtain ⟨c5, c6⟩ := cif_0 (by decide) c4
  have c7 := (cif_0 (by decide) c6).1
  obtain ⟨k0, k1, k2, -⟩ := h.mi
  have ho : isP (K 0) o := nn (fun z => c1 (Or.inr z))
  exact h.sign (Or.inr (Int32.not_lt.mpr ho.1)) (nn c3) (by omega)
/-- what a paper more needs -/
def LH (ξ m : F2) (N K : Nat → Nat) : Prop := (N 0 = K 1 ∧ N 1 = K 2 ∧ N 3 = K 0) ∧ N 0 ≤ 20 ∧ (∀ t, t < N 2 → ξ 30 t = 0 → isP (N 0) (ξ 31 t)) ∧ m = rp ξ (m 5 0) (N 2) ∧ (∀ d, d < N 1 → HD ξ (N 0) (N 2) d) ∧ fSrc (fun _ => ξ 6) (N 0) ∧ ∀ i, i < N 0 → ∃ j, j < 8 ∧ ξ 1 i = nI j
theorem LH.paper (h : LH ξ m N K) {a b v : Int32} (hl : a = 0 → isP (N 0) b) {μ' : F2} (hmi : MI μ' K) (htd : tk m a b v 5 0 = μ' 22 0 ∧ tk m a b v 4 0 = μ' 23 0) (hpl : ∀ i, i < K 1 → PL ξ (tk m a b v) μ' i) (hp1 : ∀ i, K 1 ≤ i → tk m a b v 1 i = 0 ∧ μ' 1 i = 0) (hql : ∀ j, j < 8 → QL (tk m a b v) μ' (K 0) j)
    (hr1 : ∀ i, μ' 1 i = 0 ∨ μ' 1 i = 1) (hz : ∀ d, K 2 ≤ d → μ' 16 d = 0 ∧ μ' 18 d = 0) (hz3 : ∀ d, K 2 ≤ d → tk m a b v 3 d = 0) (hdl : ∀ d, d < K 2 → DL ξ (tk m a b v) μ' d) : LK (papX ξ (N 2) a b v) (tk m a b v) (updN N 2 (N 2 + 1)) μ' K := by
  obtain ⟨hn, h20, hpp, hrp, hhd, hsr, hhh⟩ := h
  have e2 : updN N 2 (N 2 + 1) 2 = N 2 + 1 := updN_s
  refine ⟨hn, hmi, htd, hpl, hp1, hql, hr1, hz, hz3, hdl, fun t ht => ?_, ?_, fun d hd => ?_⟩
  · rw [e2] at ht
    by_cases c : t = N 2
    · subst c
      rw [papX_30, papX_31]
      exact hl
    · rw [papX_o c, papX_o c]
      exact hpp t (by omega)
  · rw [e2, tk_5]
    show _ = tk (rp (papX ξ (N 2) a b v) (m 5 0) (N 2)) (papX ξ (N 2) a b v 30 (N 2)) (papX ξ (N 2) a b v 31 (N 2)) (papX ξ (N 2) a b v 32 (N 2))
    rw [papX_30, papX_31, papX_32, rp_eq (ξ := papX ξ (N 2) a b v) (ξ' := ξ) (fun t ht => ⟨papX_o (by omega), papX_o (by omega), papX_o (by omega)⟩), ← hrp]
  · rw [e2]
    exact (hhd d hd).grow (Nat.le_refl _) (by omega) h20 (fun r h1 h2 => congrFun (papX_r (by omega)) d) (fun t ht => ⟨congrFun (papX_r (by omega)) t, congrFun (papX_r (by omega)) t, congrFun (papX_r (by omega)) t, congrFun (papX_r (by omega)) t⟩)
      (fun t ht => ⟨papX_o (by omega), papX_o (by omega), papX_o (by omega)⟩) (fun i hi r h1 h2 => congrFun (papX_r (by omega)) i) hsr hsr hhh hpp
/-- only rows of the status and the ratifier differ, at one deed that waited -/
theorem HD.st {ξ' : F2} {n0 n2 d : Nat} (h : HD ξ n0 n2 d) (hr : ∀ r, r ≠ 19 → r < 23 ∨ 25 < r → ξ' r = ξ r) (hw : ξ 19 d = 119) (h15 : ¬ ξ' 19 d = 115) (h14 : ξ' 19 d = 114 ↔ ¬ ξ' 23 d = -1)
    (hp : ¬ ξ' 23 d = -1 → ∃ pr, pr ≤ n2 ∧ ξ' 25 d = nI pr ∧ fHas (xv ξ (rp ξ (ξ' 24 d) pr)) n0 (ξ' 24 d) (ξ' 23 d) (ξ 13 d) 115 (ξ 18 d)) : HD ξ' n0 n2 d := by
  have hrp : ∀ dy q, rp ξ' dy q = rp ξ dy q := fun dy q => rp_eq (fun t _ => ⟨congrFun (hr 30 (by decide) (by decide)) t, congrFun (hr 31 (by decide) (by decide)) t, congrFun (hr 32 (by decide) (by decide)) t⟩)
  have hxv : ∀ mm, xv ξ' mm = xv ξ mm := fun mm => by
    funext r
    unfold xv
    split <;> first | rfl | exact hr _ (by decide) (by decide)
  have hps : ∀ pk, pSum ξ' pk d = pSum ξ pk d := fun pk => by
    unfold pSum
    rw [hr 16 (by decide) (by decide), hr 13 (by decide) (by decide), hr 15 (by decide) (by decide), hr 14 (by decide) (by decide), hrp]
    exact fAdd_congr (fun t _ => ⟨congrFun (hr 13 (by decide) (by decide)) t, congrFun (hr 14 (by decide) (by decide)) t, congrFun (hr 15 (by decide) (by decide)) t, congrFun (hr 16 (by decide) (by decide)) t, Iff.rfl⟩)
  obtain ⟨pk, a1, a2, a3, a4, a5, a6, a7, a8⟩ := h
  have e20 : ¬ ξ 20 d = 45 := fun z => absurd (a6.mpr z) (by rw [hw]; decide)
  refine ⟨pk, a1, by rw [hr 17 (by decide) (by decide)]; exact a2, by rw [hr 18 (by decide) (by decide), hps]; exact a3, by rw [hr 18 (by decide) (by decide)]; exact a4, ?_, ?_, h14, fun z => ?_⟩
  · rw [hr 20 (by decide) (by decide), hr 16 (by decide) (by decide), hr 11 (by decide) (by decide), hr 12 (by decide) (by decide), hr 13 (by decide) (by decide), hr 18 (by decide) (by decide), hrp, hxv]
    exact a5
  · rw [hr 20 (by decide) (by decide)]
    exact ⟨fun z => absurd z h15, fun z => absurd z e20⟩
  · obtain ⟨pr, b1, b2, b3⟩ := hp z
    refine ⟨pr, b1, b2, ?_⟩
    rw [hr 13 (by decide) (by decide), hr 18 (by decide) (by decide), hrp, hxv]
    exact b3
theorem lk_ratify (h : LK ξ m N μ K) (d p : Int32) : kRat (xv ξ m) (xw ξ) (m 5 0) (N 0) (N 1) (N 3) d p = kRat (mv μ) (mw μ) (μ 22 0) (K 1) (K 2) (K 0) d p ∧ (kRat (mv μ) (mw μ) (μ 22 0) (K 1) (K 2) (K 0) d p = 0 → ξ 18 (ix d) = μ 14 (ix d) ∧ LK (up2 (up2 (up2 (up2 ξ 19 (ix d) 114) 23 (ix d) p) 24 (ix d) (m 5 0)) 25 (ix d) (nI (N 2))) m N (up2 μ 17 (ix d) 114) K) := by
  obtain ⟨k0, k1, k2, ks, kh, kt⟩ := h.mi
  refine ⟨?_, fun c => ?_⟩
  · unfold kRat
    rw [h.n1, h.n3]
    refine cif_c (fun c => ?_)
    obtain ⟨e1, e2⟩ := h.ix2 (nn (fun z => c (Or.inl z)))
    obtain ⟨⟨e13, -, -, -, e18, e19⟩, -⟩ := h.dl _ e1
    show cif (ξ 19 (ix d) ≠ 119) 2 (cif (¬ fHas (xv ξ m) (N 0) (m 5 0) p (ξ 13 (ix d)) 115 (ξ 18 (ix d))) 3 0) = cif (μ 17 (ix d) ≠ 119) 2 (cif (¬ fHas (mv μ) (K 1) (μ 22 0) p (μ 10 (ix d)) 115 (μ 14 (ix d))) 3 0)
    rw [e13, e18, e19, cif_iff (P := ¬ fHas (xv ξ m) (N 0) (m 5 0) p (μ 10 (ix d)) 115 (μ 14 (ix d))) (not_congr h.has)]
  · obtain ⟨c1, c2⟩ := cif_0 (by decide) c
    obtain ⟨c3, c4⟩ := cif_0 (by decide) c2
    have c5 := nn (cif_0 (by decide) c4).1
    have c3 : μ 17 (ix d) = 119 := nn c3
    obtain ⟨e1, e2⟩ := h.ix2 (nn (fun z => c1 (Or.inl z)))
    have hp : isP (K 0) p := nn (fun z => c1 (Or.inr z))
    have hdl := h.dl _ e1
    obtain ⟨⟨e13, e14, e15, e16, e18, e19⟩, -⟩ := hdl
    refine ⟨e18, ?_⟩
    obtain ⟨ξ', eξ⟩ : ∃ ξ', ξ' = up2 (up2 (up2 (up2 ξ 19 (ix d) 114) 23 (ix d) p) 24 (ix d) (m 5 0)) 25 (ix d) (nI (N 2)) := ⟨_, rfl⟩
    rw [← eξ]
    have xr : ∀ r, r ≠ 19 → r < 23 ∨ 25 < r → ξ' r = ξ r := fun r h1 h2 => by rw [eξ, up2_r (by omega), up2_r (by omega), up2_r (by omega), up2_r h1]
    have xo : ∀ r t, t ≠ ix d → ξ' r t = ξ r t := fun r t ht => by rw [eξ, up2_at (Or.inl ht), up2_at (Or.inl ht), up2_at (Or.inl ht), up2_at (Or.inl ht)]
    have x19 : ξ' 19 (ix d) = 114 := by rw [eξ, up2_at (by omega), up2_at (by omega), up2_at (by omega), up2_s]
    have x23 : ξ' 23 (ix d) = p := by rw [eξ, up2_at (by omega), up2_at (by omega), up2_s]
    have x24 : ξ' 24 (ix d) = m 5 0 := by rw [eξ, up2_at (by omega), up2_s]
    have x25 : ξ' 25 (ix d) = nI (N 2) := by rw [eξ, up2_s]
    have hp1 : ¬ p = -1 := fun z => absurd hp.1 (by rw [z]; decide)
    refine ⟨h.1, ⟨k0, k1, k2, ks, kh, kt⟩, ⟨h.td, h.wd⟩, fun i hi => ?_, h.p1, h.ql, h.r1, h.z16, h.z3, fun t ht => ?_, fun t ht => ?_, ?_, fun t ht => ?_⟩
    · unfold PL
      rw [xr 4 (by decide) (by decide), xr 5 (by decide) (by decide), xr 6 (by decide) (by decide), xr 1 (by decide) (by decide), xr 2 (by decide) (by decide), xr 3 (by decide) (by decide)]
      exact h.pl i hi
    · have z := h.dl t ht
      unfold DL at z ⊢
      rw [xr 13 (by decide) (by decide), xr 14 (by decide) (by decide), xr 15 (by decide) (by decide), xr 16 (by decide) (by decide), xr 18 (by decide) (by decide), xr 20 (by decide) (by decide), xr 21 (by decide) (by decide), xr 22 (by decide) (by decide), up2_r (f := μ) (r := 10) (by decide), up2_r (f := μ) (r := 11) (by decide), up2_r (f := μ) (r := 12) (by decide), up2_r (f := μ) (r := 13) (by decide), up2_r (f := μ) (r := 14) (by decide), up2_r (f := μ) (r := 18) (by decide), up2_r (f := μ) (r := 15) (by decide), up2_r (f := μ) (r := 16) (by decide)]
      by_cases e : t = ix d
      · subst e
        rw [up2_s, x19]
        obtain ⟨⟨z1, z2, z3, z4, z5, z6⟩, z7, z8, z9, z10⟩ := z
        exact ⟨⟨z1, z2, z3, z4, z5, rfl⟩, ⟨fun _ => by decide, fun _ => z7.mpr (by rw [c3]; decide)⟩, z8, Or.inr (Or.inr (Or.inl rfl)), z10⟩
      · rw [up2_at (Or.inl e), xo 19 t e]
        exact z
    · rw [xr 30 (by decide) (by decide), xr 31 (by decide) (by decide)]
      exact h.pp t ht
    · rw [rp_eq (ξ := ξ') (ξ' := ξ) (fun u _ => ⟨congrFun (xr 30 (by decide) (by decide)) u, congrFun (xr 31 (by decide) (by decide)) u, congrFun (xr 32 (by decide) (by decide)) u⟩)]
      exact h.rpe
    · by_cases e : t = ix d
      · subst e
        refine (h.hd _ ht).st xr (e19.trans c3) (by rw [x19]; decide) (by rw [x19, x23]; exact ⟨fun _ => hp1, fun _ => rfl⟩) (fun _ => ⟨N 2, Nat.le_refl _, x25, ?_⟩)
        rw [x24, x23, ← h.rpe, e13, e18]
        exact h.has.mpr c5
      · have n0 := h.n0
        exact (h.hd t ht).grow (Nat.le_refl _) (Nat.le_refl _) (by omega) (fun r h1 h2 => xo r t e) (fun u hu => ⟨congrFun (xr 13 (by decide) (by decide)) u, congrFun (xr 14 (by decide) (by decide)) u, congrFun (xr 15 (by decide) (by decide)) u, congrFun (xr 16 (by decide) (by decide)) u⟩) (fun u hu => ⟨congrFun (xr 30 (by decide) (by decide)) u, congrFun (xr 31 (by decide) (by decide)) u, congrFun (xr 32 (by decide) (by decide)) u⟩) (fun u hu r h1 h2 => congrFun (xr r (by omega) (by omega)) u) h.hsr (by rw [xr 6 (by decide) (by decide)]; exact h.hsr) h.hh h.pp
theorem lk_annul (h : LK ξ m N μ K) (d : Int32) : kAnnul (xw ξ) (N 1) d = kAnnul (mw μ) (K 2) d ∧ (kAnnul (mw μ) (K 2) d = 0 → nI (fCnt (fun t => upd (ξ 19) (ix d) 110 t = 119) (N 1)) = nI (fCnt (fun t => upd (μ 17) (ix d) 110 t = 119) (K 2)) ∧ LK (papX (up2 ξ 19 (ix d) 110) (N 2) 4 d (-1)) (tk m 4 d (-1)) (updN N 2 (N 2 + 1)) (up2 μ 17 (ix d) 110) K) := by
  obtain ⟨k0, k1, k2, ks, kh, kt⟩ := h.mi
  refine ⟨?_, fun c => ?_⟩
  · unfold kAnnul
    rw [h.n1]
    refine cif_c (fun c => ?_)
    obtain ⟨e1, e2⟩ := h.ix2 (nn c)
    rw [show xw ξ 5 (ix d) = mw μ 5 (ix d) from (h.dl _ e1).1.2.2.2.2.2]
  · obtain ⟨c1, c2⟩ := cif_0 (by decide) c
    have c3 : μ 17 (ix d) = 119 := nn (cif_0 (by decide) c2).1
    have hd := nn c1
    obtain ⟨e1, e2⟩ := h.ix2 hd
    obtain ⟨⟨e13, e14, e15, e16, e18, e19⟩, -⟩ := h.dl _ e1
    refine ⟨?_, ?_⟩
    · rw [h.n1]
      refine congrArg nI (fCnt_congr (fun t ht => ?_))
      by_cases e : t = ix d
      · subst e
        rw [pk_us, pk_us]
      · rw [pk_un e, pk_un e, (h.dl t ht).1.2.2.2.2.2]
    · have ht : tk m 4 d (-1) = up2 m 3 (ix d) 1 := tk_4 (isP_le hd k2 (by omega))
      have xr : ∀ r, r ≠ 19 → up2 ξ 19 (ix d) 110 r = ξ r := fun r h1 => up2_r h1
      have hH : LH (up2 ξ 19 (ix d) 110) m N K := by
        have n0 := h.n0
        refine ⟨h.1, by omega, fun t ht => ?_, ?_, fun t ht => ?_, by rw [xr 6 (by decide)]; exact h.hsr, by rw [xr 1 (by decide)]; exact h.hh⟩
        · rw [xr 30 (by decide), xr 31 (by decide)]
          exact h.pp t ht
        · rw [rp_eq (ξ := up2 ξ 19 (ix d) 110) (ξ' := ξ) (fun u _ => ⟨congrFun (xr 30 (by decide)) u, congrFun (xr 31 (by decide)) u, congrFun (xr 32 (by decide)) u⟩)]
          exact h.rpe
        · by_cases e : t = ix d
          · subst e
            obtain ⟨pk, -, -, -, -, -, -, a7, -⟩ := h.hd _ ht
            have h23 : ξ 23 (ix d) = -1 := nn (fun z => absurd (a7.mpr z) (by rw [e19, c3]; decide))
            refine (h.hd _ ht).st (fun r h1 _ => xr r h1) (e19.trans c3) (by rw [up2_s]; decide) ?_ (fun z => absurd (by rw [xr 23 (by decide)]; exact h23) z)
            rw [up2_s, xr 23 (by decide)]
            exact ⟨fun z => absurd z (by decide), fun z => absurd h23 z⟩
          · exact (h.hd t ht).grow (Nat.le_refl _) (Nat.le_refl _) (by omega) (fun r h1 h2 => up2_at (Or.inl e)) (fun u hu => ⟨congrFun (xr 13 (by decide)) u, congrFun (xr 14 (by decide)) u, congrFun (xr 15 (by decide)) u, congrFun (xr 16 (by decide)) u⟩) (fun u hu => ⟨congrFun (xr 30 (by decide)) u, congrFun (xr 31 (by decide)) u, congrFun (xr 32 (by decide)) u⟩) (fun u hu r h1 h2 => congrFun (xr r (by omega)) u) h.hsr (by rw [xr 6 (by decide)]; exact h.hsr) h.hh h.pp
      refine hH.paper (fun z => absurd z (by decide)) ⟨k0, k1, k2, ks, kh, kt⟩ ?_ ?_ ?_ ?_ h.r1 h.z16 ?_ ?_ <;> rw [ht]
      · exact ⟨h.td, h.wd⟩
      · intro i hi
        unfold PL
        rw [xr 4 (by decide), xr 5 (by decide), xr 6 (by decide), xr 1 (by decide), xr 2 (by decide), xr 3 (by decide)]
        exact h.pl i hi
      · exact h.p1
      · exact h.ql
      · intro t ht
        rw [up2_at (by omega)]
        exact h.z3 t ht
      · intro t ht
        have z := h.dl t ht
        unfold DL at z ⊢
        rw [xr 13 (by decide), xr 14 (by decide), xr 15 (by decide), xr 16 (by decide), xr 18 (by decide), xr 20 (by decide), xr 21 (by decide), xr 22 (by decide), up2_r (f := μ) (r := 10) (by decide), up2_r (f := μ) (r := 11) (by decide), up2_r (f := μ) (r := 12) (by decide), up2_r (f := μ) (r := 13) (by decide), up2_r (f := μ) (r := 14) (by decide), up2_r (f := μ) (r := 18) (by decide), up2_r (f := μ) (r := 15) (by decide), up2_r (f := μ) (r := 16) (by decide)]
        by_cases e : t = ix d
        · subst e
          rw [up2_s, up2_s, up2_s]
          obtain ⟨⟨z1, z2, z3, z4, z5, z6⟩, z7, z8, z9, z10⟩ := z
          exact ⟨⟨z1, z2, z3, z4, z5, rfl⟩, ⟨fun w => absurd w (by decide), fun w => absurd rfl w⟩, z8, Or.inr (Or.inr (Or.inr rfl)), z10⟩
        · rw [up2_at (f := ξ) (Or.inl e), up2_at (f := μ) (Or.inl e), up2_at (f := m) (Or.inl e)]
          exact z
end LKS
theorem lk_new : LK fZ mZ nZ mu0 nZ := by
  refine ⟨⟨rfl, rfl, rfl⟩, ⟨by decide, by decide, by decide, fun i hi => absurd hi (Nat.not_lt_zero i), fun i hi => absurd hi (Nat.not_lt_zero i), by decide⟩, ⟨rfl, rfl⟩, fun i hi => absurd hi (Nat.not_lt_zero i), fun i _ => ⟨rfl, rfl⟩, fun j _ => ⟨rfl, fun z => absurd z (Nat.not_lt_zero j), by show ¬ (0 : Int32) = -2; decide, fun _ => rfl⟩, fun i => Or.inl rfl, fun d _ => ⟨rfl, rfl⟩, fun d _ => rfl, fun d hd => absurd hd (Nat.not_lt_zero d), fun t ht => absurd ht (Nat.not_lt_zero t), ?_, fun d hd => absurd hd (Nat.not_lt_zero d)⟩
  funext r i
  show mZ r i = up2 mZ 5 0 (mZ 5 0) r i
  by_cases c : r = 5
  · subst c
    rw [up2_k]
    split <;> rfl
  · rw [up2_o c]
