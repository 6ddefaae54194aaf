/-! LACKS, as the law lays them: from the last power down -/
def rLk (v : F2) (i j k : Int32) (t : Nat) : Prop := v 6 t = k ∧ (fAct v i (v 5 t) ∨ (0 ≤ j ∧ fAct v j (v 5 t)))
def cLk (v : F2) (td s : Int32) (t : Nat) : Nat := if fl v td s t = 45 then 4 else fCd (fl v td s t)
def yLk (v : F2) (td s : Int32) (t : Nat) : Int32 := if fl v td s t = 45 then 0 else nI (dpt v td s t)
def xLk (v : F2) (td s : Int32) (t : Nat) : Int32 := if fl v td s t = 45 then 104 else fl v td s t
def Ch (v : F2) (td i j k s : Int32) (lo hi : Nat) (l x y : Int32) : Prop :=
  (l = 0 ∧ x = -1 ∧ ∀ t, lo ≤ t → t < hi → ¬ rLk v i j k t) ∨ ∃ t, lo ≤ t ∧ t < hi ∧ rLk v i j k t ∧ l = nI (cLk v td s t) ∧ x = nI t ∧ y = yLk v td s t ∧ ∀ u, lo ≤ u → u < hi → rLk v i j k u → cLk v td s u ≤ cLk v td s t ∧ (u < t → cLk v td s u < cLk v td s t)
section CHS
variable {v : F2} {td i j k s : Int32} {lo hi : Nat} {l x y : Int32}
theorem cLk_b (t : Nat) : 1 ≤ cLk v td s t ∧ cLk v td s t ≤ 4 := by
  have := fCd_b (fl v td s t)
  unfold cLk
  split <;> omega
theorem Ch.ltr (h : Ch v td i j k s lo hi l x y) : ∃ q : Nat, q ≤ 4 ∧ l = nI q := by
  rcases h with ⟨h, -⟩ | ⟨t, -, -, -, h, -⟩
  · exact ⟨0, by omega, h⟩
  · exact ⟨_, (cLk_b t).2, h⟩
theorem Ch.skip {q : Nat} (hq : q ≤ 4) (hl : l = nI q) (h : Ch v td i j k s (lo + 1) hi l x y) (hn : ¬ rLk v i j k lo ∨ cLk v td s lo < q) : Ch v td i j k s lo hi l x y := by
  rcases h with ⟨h1, h2, h3⟩ | ⟨t, h1, h2, h3, h4, h5, h6, h7⟩
  · refine Or.inl ⟨h1, h2, fun t t1 t2 => ?_⟩
    by_cases c : t = lo
    · subst c
      rcases hn with hn | hn
      · exact hn
      · have e : q = 0 := (nI_eq (by omega) (by omega)).mp (hl.symm.trans h1)
        omega
    · exact h3 t (by omega) t2
  · refine Or.inr ⟨t, by omega, h2, h3, h4, h5, h6, fun u u1 u2 u3 => ?_⟩
    by_cases c : u = lo
    · subst c
      rcases hn with hn | hn
      · exact absurd u3 hn
      · have hb := (cLk_b (v := v) (td := td) (s := s) t).2
        have e : q = cLk v td s t := (nI_eq (by omega) (by omega)).mp (hl.symm.trans h4)
        omega
    · exact h7 u (by omega) u2 u3
theorem Ch.take {q : Nat} (hq : q ≤ 4) (hl : l = nI q) (h : Ch v td i j k s (lo + 1) hi l x y) (hlo : lo < hi) (hr : rLk v i j k lo) (hc : q ≤ cLk v td s lo) {l' x' y' : Int32} (h1 : l' = nI (cLk v td s lo)) (h2 : x' = nI lo) (h3 : y' = yLk v td s lo) : Ch v td i j k s lo hi l' x' y' := by
  refine Or.inr ⟨lo, Nat.le_refl _, hlo, hr, h1, h2, h3, fun u u1 u2 u3 => ⟨?_, fun z => by omega⟩⟩
  by_cases c : u = lo
  · subst c
    exact Nat.le_refl _
  · rcases h with ⟨g1, g2, g3⟩ | ⟨t, g1, g2, g3, g4, g5, g6, g7⟩
    · exact absurd u3 (g3 u (by omega) u2)
    · have hb := (cLk_b (v := v) (td := td) (s := s) t).2
      have e : q = cLk v td s t := (nI_eq (by omega) (by omega)).mp (hl.symm.trans g4)
      have := (g7 u (by omega) u2 u3).1
      omega
theorem fl_set {n p : Nat} (hs : fSrc v n) (hn : n < 2 ^ 31) : p < n → fl v td s p = 45 ∨ fl v td s p = 100 ∨ fl v td s p = 118 ∨ fl v td s p = 108 := by
  induction p using Nat.strongRecOn with
  | ind p ih =>
    intro hp
    have ho : fOwn v td s p = 45 ∨ fOwn v td s p = 100 ∨ fOwn v td s p = 118 ∨ fOwn v td s p = 108 := by
      unfold fOwn
      (repeat' split) <;> simp
    rcases hs p hp with c | ⟨q, hq, c⟩
    · rw [fl_0 c]; exact ho
    · rw [fl_s hs hn hp hq c]
      split
      · exact ih q hq (by omega)
      · exact ho
theorem ord_c {n p : Nat} (hs : fSrc v n) (hn : n < 2 ^ 31) (hp : p < n) : fOrd (xLk v td s p) = nI (cLk v td s p) ∧ xLk v td s p = lch (nI (cLk v td s p)) := by
  unfold xLk cLk
  rcases fl_set (td := td) (s := s) hs hn hp with e | e | e | e <;> rw [e] <;> exact ⟨by decide, by decide⟩
theorem fLk_ch {n0 : Nat} (hs : fSrc v n0) (hn0 : n0 < 2 ^ 31) : ∀ n, n ≤ n0 → (fLk v td i j k s n = (107, -1, 0) ∧ ∀ t, t < n → ¬ rLk v i j k t) ∨ ∃ t, t < n ∧ rLk v i j k t ∧ fLk v td i j k s n = (xLk v td s t, nI t, yLk v td s t) ∧ ∀ u, u < n → rLk v i j k u → cLk v td s u ≤ cLk v td s t ∧ (u < t → cLk v td s u < cLk v td s t) := by
  intro n
  induction n with
  | zero => intro _; exact Or.inl ⟨rfl, fun t h => absurd h (Nat.not_lt_zero t)⟩
  | succ n ih =>
    intro hn
    have hc := (ord_c (td := td) (s := s) hs hn0 (show n < n0 by omega)).1
    have hb := cLk_b (v := v) (td := td) (s := s) n
    have e : fLk v td i j k s (n + 1) = cif (rLk v i j k n ∧ fOrd (fLk v td i j k s n).1 < fOrd (xLk v td s n)) (xLk v td s n, nI n, yLk v td s n) (fLk v td i j k s n) := by
      show cif (v 6 n = k ∧ (fAct v i (v 5 n) ∨ (0 ≤ j ∧ fAct v j (v 5 n))) ∧ _) _ _ = _
      unfold rLk
      by_cases c : (v 6 n = k ∧ (fAct v i (v 5 n) ∨ (0 ≤ j ∧ fAct v j (v 5 n)))) ∧ fOrd (fLk v td i j k s n).1 < fOrd (xLk v td s n)
      · rw [cif_pos c, cif_pos ⟨c.1.1, c.1.2, c.2⟩]; rfl
      · rw [cif_neg c, cif_neg (fun z => c ⟨⟨z.1, z.2.1⟩, z.2.2⟩)]
    rcases ih (by omega) with ⟨h1, h2⟩ | ⟨t, h1, h2, h3, h4⟩
    · by_cases c : rLk v i j k n
      · refine Or.inr ⟨n, by omega, c, ?_, fun u u1 u2 => ?_⟩
        · have hlt : fOrd (fLk v td i j k s n).1 < fOrd (xLk v td s n) := by
            rw [h1, hc]
            exact nI_lt (a := 0) (by omega) (by omega)
          rw [e, cif_pos ⟨c, hlt⟩]
        · by_cases d : u = n
          · subst d; exact ⟨Nat.le_refl _, fun z => by omega⟩
          · exact absurd u2 (h2 u (by omega))
      · refine Or.inl ⟨by rw [e, cif_neg (fun z => c z.1), h1], fun u u1 => ?_⟩
        by_cases d : u = n
        · subst d; exact c
        · exact h2 u (by omega)
    · have hb2 := cLk_b (v := v) (td := td) (s := s) t
      have hc2 := (ord_c (td := td) (s := s) hs hn0 (show t < n0 by omega)).1
      have e1 : fOrd (fLk v td i j k s n).1 = nI (cLk v td s t) := by rw [h3]; exact hc2
      by_cases c : rLk v i j k n ∧ cLk v td s t < cLk v td s n
      · refine Or.inr ⟨n, by omega, c.1, ?_, fun u u1 u2 => ?_⟩
        · have hlt : fOrd (fLk v td i j k s n).1 < fOrd (xLk v td s n) := by
            rw [e1, hc]
            exact nI_lt c.2 (by omega)
          rw [e, cif_pos ⟨c.1, hlt⟩]
        · by_cases d : u = n
          · subst d; exact ⟨Nat.le_refl _, fun z => by omega⟩
          · have := (h4 u (by omega) u2).1
            exact ⟨by omega, fun z => by omega⟩
      · refine Or.inr ⟨t, by omega, h2, ?_, fun u u1 u2 => ?_⟩
        · have hnl : ¬ (rLk v i j k n ∧ fOrd (fLk v td i j k s n).1 < fOrd (xLk v td s n)) := fun z => c ⟨z.1, by
            have z2 := z.2
            rw [e1, hc] at z2
            exact (nI_ltI (by omega) (by omega)).mp z2⟩
          rw [e, cif_neg hnl, h3]
        · by_cases d : u = n
          · subst d
            exact ⟨Nat.not_lt.mp (fun z => c ⟨u2, z⟩), fun z => by omega⟩
          · exact h4 u (by omega) u2
/-- both say the same -/
theorem Ch.fin {n : Nat} (hs : fSrc v n) (hn : n < 2 ^ 31) (h : Ch v td i j k s 0 n l x y) : (fLk v td i j k s n).1 = lch l ∧ x = (fLk v td i j k s n).2.1 ∧ (¬ (fLk v td i j k s n).2.1 < 0 → y = (fLk v td i j k s n).2.2) := by
  rcases fLk_ch (td := td) (i := i) (j := j) (k := k) (s := s) hs hn n (Nat.le_refl _) with ⟨g1, g2⟩ | ⟨t, g1, g2, g3, g4⟩
  · rcases h with ⟨h1, h2, h3⟩ | ⟨u, h1, h2, h3, -⟩
    · rw [g1, h1, h2]
      exact ⟨by decide, rfl, fun z => absurd (by decide) z⟩
    · exact absurd h3 (g2 u h2)
  · rcases h with ⟨h1, h2, h3⟩ | ⟨u, h1, h2, h3, h4, h5, h6, h7⟩
    · exact absurd g2 (h3 t (Nat.zero_le _) g1)
    · have e : t = u := by
        have a1 := h7 t (Nat.zero_le _) g1 g2
        have a2 := g4 u h2 h3
        rcases Nat.lt_trichotomy t u with c | c | c
        · have := a1.2 c; omega
        · exact c
        · have := a2.2 c; omega
      subst e
      rw [g3, h4, h5, h6]
      exact ⟨(ord_c hs hn g1).2, rfl, fun _ => rfl⟩
end CHS
theorem SI.netk {E : gV} {nb a0 n : Nat} {μ : F2} {K : Nat → Nat} {H H1 : Heap} (h : SI E nb a0 μ K n H) (hnb : E.2.1.heap.size ≤ nb) (hz : H.size ≤ H1.size) (ho : ∀ q : Nat, q < H.size → ¬ nB nb q → H1[q]? = H[q]?) : SI E nb a0 μ K n H1 := by
  obtain ⟨α, ξ, M, N, h1, h2, h3, h4⟩ := h
  exact ⟨α, ξ, M, N, h1.keepB (fun q hq => by rw [hq]; exact hnb) hz (fun q hq hb => ho q hq hb), h2, h3, h4⟩
