/-! A DEED MORE: both ends -/
section DEEDS
variable {D : Nat} {f F : Nat → Int32} {μ : F2} {K : Nat → Nat} {i j k a pa S : Int32}
theorem NL.deedA (h : NL f μ K D) (hK : K 2 < 24) (hok : mOk (mv μ) (K 1) (μ 22 0) i j k S) (u : ∀ z, z ≠ 2 → (z < 200 + 10 * K 2 ∨ 208 + 10 * K 2 < z) → F z = f z) (v2 : F 2 = nI (K 2 + 1)) (v0 : F (200 + 10 * K 2) = k) (v1 : F (201 + 10 * K 2) = a) (v3 : F (202 + 10 * K 2) = pa) (v4 : F (203 + 10 * K 2) = f 3) (v5 : F (204 + 10 * K 2) = S) (v6 : F (205 + 10 * K 2) = 0) :
    NL F (mSig μ (K 1) (K 2) i j k a pa S) (updN K 2 (K 2 + 1)) D := by
  have e : mSig μ (K 1) (K 2) i j k a pa S 17 (K 2) = 115 := by
    unfold mSig
    rw [cif_pos hok, up2_s]
  exact h.deed hK (cs := 0) (by omega) u v2 v0 v1 v3 v4 v5 v6 rfl rfl rfl (e.trans (by decide)) (fun z => absurd e z)
theorem NL.deedB (h : NL f μ K D) (hU : PU μ K) (hK : K 2 < 24) (hok : ¬ mOk (mv μ) (K 1) (μ 22 0) i j k S) (u : ∀ z, z ≠ 2 → (z < 200 + 10 * K 2 ∨ 208 + 10 * K 2 < z) → F z = f z) (v2 : F 2 = nI (K 2 + 1)) (v0 : F (200 + 10 * K 2) = k) (v1 : F (201 + 10 * K 2) = a) (v3 : F (202 + 10 * K 2) = pa) (v4 : F (203 + 10 * K 2) = f 3) (v5 : F (204 + 10 * K 2) = S) (v6 : F (205 + 10 * K 2) = 1)
    (hc : Ch (mv μ) (μ 22 0) i j k S 0 (K 1) (F (206 + 10 * K 2)) (F (207 + 10 * K 2)) (F (208 + 10 * K 2))) :
    NL F (mSig μ (K 1) (K 2) i j k a pa S) (updN K 2 (K 2 + 1)) D := by
  have hb1 := h.b1
  have e : mSig μ (K 1) (K 2) i j k a pa S = mLack (up2 (mRow μ (K 2) k a pa (μ 22 0) S) 17 (K 2) 119) (K 2) (fLk (mv μ) (μ 22 0) i j k S (K 1)) := by
    unfold mSig
    rw [cif_neg hok]
  have e17 : mSig μ (K 1) (K 2) i j k a pa S 17 (K 2) = 119 := by
    rw [e, mLack_o (by omega), up2_s]
  obtain ⟨g1, g2, g3⟩ := hc.fin hU.fs (by omega)
  refine h.deed hK (cs := 1) (by omega) u v2 v0 v1 v3 v4 v5 v6 rfl rfl rfl (e17.trans (by decide)) (fun _ => ?_)
  rw [e, mLack_18, mLack_15, mLack_16]
  exact ⟨g1, g2, g3⟩
end DEEDS
