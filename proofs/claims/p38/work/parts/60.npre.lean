/-! THE LAW'S NET: an array f of 450 ints, beside the words μ, K of the link -/
def hch (x : Int32) : Int32 := if x = 0 then 115 else if x = 1 then 97 else 98
def stc (x : Int32) : Int32 := if x = 0 then 115 else if x = 1 then 119 else if x = 2 then 114 else 110
def lch (x : Int32) : Int32 := if x = 0 then 107 else if x = 1 then 100 else if x = 2 then 118 else if x = 3 then 108 else 104
def NP (f : Nat → Int32) (μ : F2) (D i : Nat) : Prop :=
  f (30 + 8 * i) = μ 3 i ∧ f (31 + 8 * i) = μ 4 i ∧ (∃ h : Nat, h < 3 ∧ f (32 + 8 * i) = nI h ∧ μ 9 i = hch (nI h)) ∧ f (33 + 8 * i) = μ 5 i ∧ f (34 + 8 * i) = μ 6 i ∧ f (35 + 8 * i) = μ 7 i ∧ f (36 + 8 * i) = μ 8 i ∧ ∃ a b : Nat, μ 6 i = nI a ∧ μ 7 i = nI b ∧ a ≤ b ∧ b ≤ D + 60
def NQ (f : Nat → Int32) (μ : F2) (D d : Nat) : Prop :=
  f (200 + 10 * d) = μ 10 d ∧ f (201 + 10 * d) = μ 11 d ∧ f (202 + 10 * d) = μ 12 d ∧ f (203 + 10 * d) = μ 13 d ∧ f (204 + 10 * d) = μ 14 d ∧ (∃ c : Nat, c < 4 ∧ f (205 + 10 * d) = nI c ∧ μ 17 d = stc (nI c)) ∧
  (¬ μ 17 d = 115 → μ 18 d = lch (f (206 + 10 * d)) ∧ f (207 + 10 * d) = μ 15 d ∧ (¬ μ 15 d < 0 → f (208 + 10 * d) = μ 16 d)) ∧ ∃ y : Nat, μ 13 d = nI y ∧ y ≤ D
def NL (f : Nat → Int32) (μ : F2) (K : Nat → Nat) (D : Nat) : Prop :=
  (f 0 = nI (K 0) ∧ f 1 = nI (K 1) ∧ f 2 = nI (K 2)) ∧ (K 0 ≤ 6 ∧ K 1 ≤ 20 ∧ K 2 ≤ 24 ∧ D ≤ 400) ∧
  (∃ td : Nat, td ≤ D ∧ f 3 = nI td ∧ μ 22 0 = nI td) ∧ (∃ w : Nat, 1 ≤ w ∧ w ≤ 99 ∧ f 4 = nI w ∧ μ 23 0 = nI w) ∧
  (∀ j, j < 8 → f (10 + 2 * j) = μ 0 j ∧ (μ 0 j = 0 ∨ μ 0 j = 1)) ∧ (∀ j, j < K 0 → f (11 + 2 * j) = μ 2 j) ∧ (∀ i, i < 20 → f (37 + 8 * i) = μ 1 i) ∧
  (∀ i, i < K 1 → NP f μ D i) ∧ ∀ d, d < K 2 → NQ f μ D d
/-- what the link says of the words alone -/
def PU (μ : F2) (K : Nat → Nat) : Prop := MI μ K ∧ (∀ i, i < K 1 → (1 ≤ μ 5 i ∧ μ 5 i ≤ 99999) ∧ isHd (μ 9 i) ∧ (μ 8 i < 0 → μ 8 i = -1)) ∧ (∀ d, d < K 2 → (1 ≤ μ 11 d ∧ μ 11 d ≤ 9999) ∧ (¬ μ 17 d = 115 → (μ 15 d < 0 ↔ μ 18 d = 107))) ∧ (∀ j, j < 8 → ¬ μ 2 j = -2 ∧ (j < K 0 → μ 0 j = 0 → μ 2 j = -1)) ∧ (∀ i, μ 1 i = 0 ∨ μ 1 i = 1) ∧ (∀ i, K 1 ≤ i → μ 1 i = 0) ∧ ∀ j, K 0 ≤ j → j < 8 → μ 0 j = 0
theorem LK.pu {ξ m μ : F2} {N K : Nat → Nat} (h : LK ξ m N μ K) : PU μ K := by
  refine ⟨h.mi, fun i hi => ⟨(h.pl i hi).2.2.1, (h.pl i hi).2.2.2.2, (h.pl i hi).2.2.2.1⟩, fun d hd => ⟨(h.dl d hd).2.2.1, fun c => ?_⟩, fun j hj => ⟨(h.ql j hj).2.2.1, (h.ql j hj).2.1⟩, h.r1, fun i hi => (h.p1 i hi).2, fun j hj hj8 => (h.ql j hj8).2.2.2 hj⟩
  have h45 : ¬ ξ 20 d = 45 := fun z => c ((h.lk45 hd).mp z)
  obtain ⟨e1, -, -, e4⟩ := (h.dl d hd).2.2.2.2.2.1 h45
  rw [e4, e1]
def gNet (E : gV) (nb : Nat) (f : Nat → Int32) (H : Heap) : Prop := gA E nb (.inl (E.2.2.2 0, 450, .inl f)) H
/-- the class's object, as the law sees it: the words μ, K, at most n papers -/
def SI (E : gV) (nb a0 : Nat) (μ : F2) (K : Nat → Nat) (n : Nat) (H : Heap) : Prop := ∃ (α : Nat → Nat → Nat) (ξ : F2) (M : Nat → F2) (N : Nat → Nat), RB E (fun q => q = nb) α ξ M N H ∧ α 3 0 = a0 ∧ LK ξ (M 0) N μ K ∧ N 2 ≤ n
def NS (E : gV) (nb a0 : Nat) (f : Nat → Int32) (μ : F2) (K : Nat → Nat) (D n : Nat) (H : Heap) : Prop := SI E nb a0 μ K n H ∧ gNet E nb f H ∧ NL f μ K D
/-- behind a step: whatever the words are now -/
def NJ (E : gV) (nb a0 D n c1 : Nat) (H : Heap) : Prop := ∃ (f : Nat → Int32) (μ : F2) (K : Nat → Nat), NS E nb a0 f μ K D n H ∧ 2 ≤ K 0 ∧ c1 ≤ K 1
section NETR
variable {E : gV} {nb a0 n D : Nat} {f : Nat → Int32} {μ : F2} {K : Nat → Nat} {H H1 : Heap}
theorem SI.frz (h : SI E nb a0 μ K n H) : gFz E H := by
  obtain ⟨α, ξ, M, N, hRB, -⟩ := h
  exact hRB.1.frz
theorem SI.pu (h : SI E nb a0 μ K n H) : PU μ K := by
  obtain ⟨α, ξ, M, N, -, -, hK, -⟩ := h
  exact hK.pu
theorem SI.mono (h : SI E nb a0 μ K n H) {n' : Nat} (hn : n ≤ n') : SI E nb a0 μ K n' H := by
  obtain ⟨α, ξ, M, N, h1, h2, h3, h4⟩ := h
  exact ⟨α, ξ, M, N, h1, h2, h3, by omega⟩
theorem SI.netw (h : SI E nb a0 μ K n H) (hnb : E.2.1.heap.size ≤ nb) (hz : H1.size = H.size) (ho : ∀ q : Nat, q ≠ nb → H1[q]? = H[q]?) : SI E nb a0 μ K n H1 := by
  obtain ⟨α, ξ, M, N, h1, h2, h3, h4⟩ := h
  exact ⟨α, ξ, M, N, h1.keepB (fun q hq => by rw [hq]; exact hnb) (by omega) (fun q _ hb => ho q hb), h2, h3, h4⟩
theorem gNet.kept (h : gNet E nb f H) (hq : H1[nb]? = H[nb]?) : gNet E nb f H1 := gA.kept h hq
theorem gNet.lt (h : gNet E nb f H) : nb < H.size := gA.lt h
theorem NL.k0 (h : NL f μ K D) : f 0 = nI (K 0) := h.1.1
theorem NL.k1 (h : NL f μ K D) : f 1 = nI (K 1) := h.1.2.1
theorem NL.k2 (h : NL f μ K D) : f 2 = nI (K 2) := h.1.2.2
theorem NL.b0 (h : NL f μ K D) : K 0 ≤ 6 := h.2.1.1
theorem NL.b1 (h : NL f μ K D) : K 1 ≤ 20 := h.2.1.2.1
theorem NL.b2 (h : NL f μ K D) : K 2 ≤ 24 := h.2.1.2.2.1
theorem NL.bD (h : NL f μ K D) : D ≤ 400 := h.2.1.2.2.2
theorem NL.day (h : NL f μ K D) : ∃ td : Nat, td ≤ D ∧ f 3 = nI td ∧ μ 22 0 = nI td := h.2.2.1
theorem NL.win (h : NL f μ K D) : ∃ w : Nat, 1 ≤ w ∧ w ≤ 99 ∧ f 4 = nI w ∧ μ 23 0 = nI w := h.2.2.2.1
theorem NL.ab (h : NL f μ K D) {j x : Nat} (hj : j < 8) (hx : x = 10 + 2 * j) : f x = μ 0 j := by rw [hx]; exact (h.2.2.2.2.1 j hj).1
theorem NL.ab1 (h : NL f μ K D) {j : Nat} (hj : j < 8) : μ 0 j = 0 ∨ μ 0 j = 1 := (h.2.2.2.2.1 j hj).2
theorem NL.sb (h : NL f μ K D) {j x : Nat} (hj : j < K 0) (hx : x = 11 + 2 * j) : f x = μ 2 j := by rw [hx]; exact h.2.2.2.2.2.1 j hj
theorem NL.rv (h : NL f μ K D) {i x : Nat} (hi : i < 20) (hx : x = 37 + 8 * i) : f x = μ 1 i := by rw [hx]; exact h.2.2.2.2.2.2.1 i hi
theorem NL.pw (h : NL f μ K D) {i : Nat} (hi : i < K 1) : NP f μ D i := h.2.2.2.2.2.2.2.1 i hi
theorem NL.dd (h : NL f μ K D) {d : Nat} (hd : d < K 2) : NQ f μ D d := h.2.2.2.2.2.2.2.2 d hd
theorem NL.p3 (h : NL f μ K D) {i x : Nat} (hi : i < K 1) (hx : x = 30 + 8 * i) : f x = μ 3 i := by rw [hx]; exact (h.pw hi).1
theorem NL.p4 (h : NL f μ K D) {i x : Nat} (hi : i < K 1) (hx : x = 31 + 8 * i) : f x = μ 4 i := by rw [hx]; exact (h.pw hi).2.1
theorem NL.p5 (h : NL f μ K D) {i x : Nat} (hi : i < K 1) (hx : x = 33 + 8 * i) : f x = μ 5 i := by rw [hx]; exact (h.pw hi).2.2.2.1
theorem NL.p6 (h : NL f μ K D) {i x : Nat} (hi : i < K 1) (hx : x = 34 + 8 * i) : f x = μ 6 i := by rw [hx]; exact (h.pw hi).2.2.2.2.1
theorem NL.p7 (h : NL f μ K D) {i x : Nat} (hi : i < K 1) (hx : x = 35 + 8 * i) : f x = μ 7 i := by rw [hx]; exact (h.pw hi).2.2.2.2.2.1
theorem NL.p8 (h : NL f μ K D) {i x : Nat} (hi : i < K 1) (hx : x = 36 + 8 * i) : f x = μ 8 i := by rw [hx]; exact (h.pw hi).2.2.2.2.2.2.1
theorem NL.hand (h : NL f μ K D) {i : Nat} (hi : i < K 1) : ∃ q : Nat, q < 3 ∧ f (32 + 8 * i) = nI q ∧ μ 9 i = hch (nI q) := (h.pw hi).2.2.1
theorem NL.days (h : NL f μ K D) {i : Nat} (hi : i < K 1) : ∃ a b : Nat, μ 6 i = nI a ∧ μ 7 i = nI b ∧ a ≤ b ∧ b ≤ D + 60 := (h.pw hi).2.2.2.2.2.2.2
theorem NL.d10 (h : NL f μ K D) {d x : Nat} (hd : d < K 2) (hx : x = 200 + 10 * d) : f x = μ 10 d := by rw [hx]; exact (h.dd hd).1
theorem NL.d11 (h : NL f μ K D) {d x : Nat} (hd : d < K 2) (hx : x = 201 + 10 * d) : f x = μ 11 d := by rw [hx]; exact (h.dd hd).2.1
theorem NL.d12 (h : NL f μ K D) {d x : Nat} (hd : d < K 2) (hx : x = 202 + 10 * d) : f x = μ 12 d := by rw [hx]; exact (h.dd hd).2.2.1
theorem NL.d13 (h : NL f μ K D) {d x : Nat} (hd : d < K 2) (hx : x = 203 + 10 * d) : f x = μ 13 d := by rw [hx]; exact (h.dd hd).2.2.2.1
theorem NL.d14 (h : NL f μ K D) {d x : Nat} (hd : d < K 2) (hx : x = 204 + 10 * d) : f x = μ 14 d := by rw [hx]; exact (h.dd hd).2.2.2.2.1
theorem NL.st (h : NL f μ K D) {d : Nat} (hd : d < K 2) : ∃ c : Nat, c < 4 ∧ f (205 + 10 * d) = nI c ∧ μ 17 d = stc (nI c) := (h.dd hd).2.2.2.2.2.1
theorem NL.lk (h : NL f μ K D) {d : Nat} (hd : d < K 2) : ¬ μ 17 d = 115 → μ 18 d = lch (f (206 + 10 * d)) ∧ f (207 + 10 * d) = μ 15 d ∧ (¬ μ 15 d < 0 → f (208 + 10 * d) = μ 16 d) := (h.dd hd).2.2.2.2.2.2.1
theorem NL.dy (h : NL f μ K D) {d : Nat} (hd : d < K 2) : ∃ y : Nat, μ 13 d = nI y ∧ y ≤ D := (h.dd hd).2.2.2.2.2.2.2
/-- the limit as a number -/
theorem PU.lim (h : PU μ K) {i : Nat} (hi : i < K 1) : ∃ q : Nat, 1 ≤ q ∧ q ≤ 99999 ∧ μ 5 i = nI q := by
  obtain ⟨⟨h1, h2⟩, -⟩ := h.2.1 i hi
  have h0 : ¬ μ 5 i < 0 := fun z => by rw [Int32.lt_iff_toInt_lt] at z; rw [Int32.le_iff_toInt_le] at h1; have e1 : (1 : Int32).toInt = 1 := by decide
                                       have e0 : (0 : Int32).toInt = 0 := by decide
                                       omega
  obtain ⟨q, hq, e⟩ := nI_of h0
  rw [e] at h1 h2 ⊢
  refine ⟨q, ?_, ?_, rfl⟩
  · exact (nI_leI (a := 1) (by omega) hq).mp h1
  · exact (nI_leI (b := 99999) hq (by omega)).mp h2
/-- the holder as a number -/
theorem PU.hol (h : PU μ K) {i : Nat} (hi : i < K 1) : ∃ j, j < K 0 ∧ μ 3 i = nI j := h.1.2.2.2.2.1 i hi
theorem PU.src (h : PU μ K) {i : Nat} (hi : i < K 1) : μ 8 i < 0 ∨ ∃ j, j < i ∧ μ 8 i = nI j := h.1.2.2.2.1 i hi
/-- the source's number and 1, or 0 -/
theorem PU.srz (h : PU μ K) {i : Nat} (hi : i < K 1) : ∃ z : Nat, z ≤ i ∧ μ 8 i = nI z - 1 := by
  rcases h.src hi with c | ⟨j, hj, e⟩
  · exact ⟨0, by omega, (h.2.1 i hi).2.2 c⟩
  · exact ⟨j + 1, by omega, by rw [nI_pred]; exact e⟩
theorem PU.fs (h : PU μ K) : fSrc (mv μ) (K 1) := h.1.2.2.2.1
theorem PU.amt (h : PU μ K) {d : Nat} (hd : d < K 2) : ∃ q : Nat, 1 ≤ q ∧ q ≤ 9999 ∧ μ 11 d = nI q := by
  obtain ⟨⟨h1, h2⟩, -⟩ := h.2.2.1 d hd
  have h0 : ¬ μ 11 d < 0 := fun z => by rw [Int32.lt_iff_toInt_lt] at z; rw [Int32.le_iff_toInt_le] at h1; have e1 : (1 : Int32).toInt = 1 := by decide
                                        have e0 : (0 : Int32).toInt = 0 := by decide
                                        omega
  obtain ⟨q, hq, e⟩ := nI_of h0
  rw [e] at h1 h2 ⊢
  refine ⟨q, ?_, ?_, rfl⟩
  · exact (nI_leI (a := 1) (by omega) hq).mp h1
  · exact (nI_leI (b := 9999) hq (by omega)).mp h2
end NETR
