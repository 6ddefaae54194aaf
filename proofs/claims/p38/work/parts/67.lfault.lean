/-! FAULTS, as the law counts them -/
def fCd (x : Int32) : Nat := if x = 100 then 1 else if x = 118 then 2 else 3
def fTl (v : F2) (td s t : Int32) (k q : Nat) : Int32 := if fl v td s q = 45 then t else nI (fCd (fl v td s q) + 10 * (k + dpt v td s q))
def fInv (v : F2) (td s : Int32) (n : Nat) (TT t : Int32) (k z : Nat) : Prop := (z = 0 ∧ TT = t) ∨ ∃ q, z = q + 1 ∧ q < n ∧ k + q ≤ 20 ∧ TT = fTl v td s t k q
theorem fInv.next {v : F2} {td s : Int32} {n : Nat} {TT t t' : Int32} {k q z2 : Nat} (hs : fSrc v n) (hn : n < 2 ^ 31) (hq : q < n) (hk : k + q ≤ 20) (h : TT = fTl v td s t k q) {o : Int32} (ho : fOwn v td s q = o) (ht : t' = if o = 45 then t else nI (fCd o + 10 * k)) (hz : z2 ≤ q) (e : v 4 q = nI z2 - 1) : fInv v td s n TT t' (k + 1) z2 := by
  rcases z2 with _ | j
  · refine Or.inl ⟨rfl, ?_⟩
    have c : v 4 q < 0 := by rw [e]; decide
    rw [h, ht]
    unfold fTl
    rw [fl_0 c, dpt_0 c, ho]
    rfl
  · refine Or.inr ⟨j, rfl, by omega, by omega, ?_⟩
    rw [nI_pred] at e
    rw [h, ht]
    unfold fTl
    rw [fl_s hs hn hq (by omega) e, dpt_s hs hn hq (by omega) e, ho]
    by_cases c : fl v td s j = 45
    · have c2 : ¬ (fl v td s j ≠ 45) := fun z => z c
      rw [if_neg c2, if_neg c2, if_pos c]
      rfl
    · rw [if_pos c, if_pos c, if_neg c, if_neg c]
      exact congrArg nI (by omega)
theorem fTl_0 {v : F2} {td s : Int32} {n p : Nat} (hs : fSrc v n) (hn : n ≤ 20) (hp : p < n) : (fl v td s p = 45 ∧ fTl v td s 0 0 p = 0) ∨ (¬ fl v td s p = 45 ∧ fTl v td s 0 0 p = nI (fCd (fl v td s p) + 10 * dpt v td s p) ∧ dpt v td s p ≤ 20) := by
  have hd := dpt_le (td := td) (s := s) hs (by omega) p hp
  unfold fTl
  by_cases c : fl v td s p = 45
  · exact Or.inl ⟨c, if_pos c⟩
  · refine Or.inr ⟨c, ?_, by omega⟩
    rw [if_neg c, Nat.zero_add]
theorem fCd_b (x : Int32) : 1 ≤ fCd x ∧ fCd x ≤ 3 := by unfold fCd; (repeat' split) <;> omega
theorem fTl_z {v : F2} {td s : Int32} {n p : Nat} (hs : fSrc v n) (hn : n ≤ 20) (hp : p < n) : fTl v td s 0 0 p = 0 ↔ fl v td s p = 45 := by
  rcases fTl_0 (td := td) (s := s) hs hn hp with ⟨h1, h2⟩ | ⟨h1, h2, h3⟩
  · exact ⟨fun _ => h1, fun _ => h2⟩
  · have hb := fCd_b (fl v td s p)
    exact ⟨fun z => absurd (h2.symm.trans z) (nI_ne0 (by omega) (by omega)), fun z => absurd z h1⟩
theorem hch_inj {a b : Nat} (ha : a < 3) (hb : b < 3) : hch (nI a) = hch (nI b) ↔ a = b := by
  rcases (by omega : a = 0 ∨ a = 1 ∨ a = 2) with rfl | rfl | rfl <;> rcases (by omega : b = 0 ∨ b = 1 ∨ b = 2) with rfl | rfl | rfl <;> decide
theorem hch_0 : hch (nI 0) = 115 := by decide
theorem hch_1 : hch (nI 1) = 97 := by decide
theorem hch_2 : hch (nI 2) = 98 := by decide
theorem stc_110 {c : Nat} (hc : c < 4) : stc (nI c) = 110 ↔ c = 3 := by
  rcases (by omega : c = 0 ∨ c = 1 ∨ c = 2 ∨ c = 3) with rfl | rfl | rfl | rfl <;> decide
theorem stc_115 {c : Nat} (hc : c < 4) : stc (nI c) = 115 ↔ c = 0 := by
  rcases (by omega : c = 0 ∨ c = 1 ∨ c = 2 ∨ c = 3) with rfl | rfl | rfl | rfl <;> decide
theorem stc_119 {c : Nat} (hc : c < 4) : stc (nI c) = 119 ↔ c = 1 := by
  rcases (by omega : c = 0 ∨ c = 1 ∨ c = 2 ∨ c = 3) with rfl | rfl | rfl | rfl <;> decide
theorem stc_st {c : Nat} (hc : c < 4) : (stc (nI c) = 115 ∨ stc (nI c) = 114) ↔ c % 2 = 0 := by
  rcases (by omega : c = 0 ∨ c = 1 ∨ c = 2 ∨ c = 3) with rfl | rfl | rfl | rfl <;> decide
theorem dy_lt {td y w : Nat} (h1 : td < 2 ^ 20) (h2 : y < 2 ^ 20) (h3 : w < 2 ^ 20) : nI td - nI y < nI w ↔ td < y + w := by
  rw [Int32.lt_iff_toInt_lt, pk_sub_toInt (by omega) (by omega), nI_toInt (by omega)]
  omega
theorem fAdd_t {w : F2} {an : Nat → Prop} {td wd k pa a : Int32} {n : Nat} (h : w 0 n = k ∧ w 2 n = pa ∧ ¬ an n ∧ td - w 3 n < wd) : fAdd w an td wd k pa (n + 1) a = fAdd w an td wd k pa n a + w 1 n := cif_pos h
theorem fAdd_f {w : F2} {an : Nat → Prop} {td wd k pa a : Int32} {n : Nat} (h : ¬ (w 0 n = k ∧ w 2 n = pa ∧ ¬ an n ∧ td - w 3 n < wd)) : fAdd w an td wd k pa (n + 1) a = fAdd w an td wd k pa n a + 0 := (cif_neg h).trans (Int32.add_zero _).symm
