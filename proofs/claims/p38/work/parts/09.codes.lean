/-! WHICH EXCEPTION: 0 none, k the k-th of the method's list -/
noncomputable def cif {α : Type} (P : Prop) (a b : α) : α := @ite α P (Classical.propDecidable P) a b
theorem cif_pos {α : Type} {P : Prop} {a b : α} (h : P) : cif P a b = a := by unfold cif; exact if_pos h
theorem cif_neg {α : Type} {P : Prop} {a b : α} (h : ¬ P) : cif P a b = b := by unfold cif; exact if_neg h
abbrev ix (p : Int32) : Nat := p.toNatClampNeg
abbrev isPw (li fi la : Int32) : Prop := (1 ≤ li ∧ li ≤ 99999) ∧ 0 ≤ fi ∧ fi ≤ la ∧ la ≤ 999
abbrev isSm (s : Int32) : Prop := 1 ≤ s ∧ s ≤ 99999
abbrev isKd (k : Int32) : Prop := 0 ≤ k ∧ k ≤ 3
abbrev isHd (h : Int32) : Prop := h = 115 ∨ h = 97 ∨ h = 98
abbrev isDl (k a pa : Int32) : Prop := isKd k ∧ (0 ≤ pa ∧ pa ≤ 9) ∧ (1 ≤ a ∧ a ≤ 9999)
noncomputable def kAdd (n : Nat) : Nat := cif (n = 8) 1 0
noncomputable def kLeave (n : Nat) (p s : Int32) : Nat := cif (¬ isP n p ∨ (s ≠ -1 ∧ ¬ isP n s)) 1 (cif (p = s) 2 0)
noncomputable def kBack (pr : Prop) (n : Nat) (p : Int32) : Nat := cif (¬ isP n p) 1 (cif pr 2 0)
noncomputable def kActs (n : Nat) (p o : Int32) : Nat := cif (¬ isP n p ∨ ¬ isP n o) 1 0
noncomputable def kGrant (n np : Nat) (h k ha li fi la : Int32) : Nat := cif (¬ isP n h) 1 (cif (¬ isKd k ∨ ¬ isHd ha ∨ ¬ isPw li fi la) 2 (cif (np = 20) 3 0))
noncomputable def kDel (v : F2) (n np : Nat) (p h li fi la : Int32) : Nat := cif (¬ isP np p ∨ ¬ isP n h) 1 (cif (¬ isPw li fi la) 2 (cif (h = v 5 (ix p) ∨ v 0 (ix p) < li ∨ fi < v 2 (ix p) ∨ v 3 (ix p) < la) 3 (cif (v 1 (ix p) ≠ 0 ∨ np = 20) 4 0)))
noncomputable def kLower (v : F2) (np : Nat) (p li : Int32) : Nat := cif (¬ isP np p) 1 (cif (¬ (1 ≤ li ∧ li ≤ v 0 (ix p))) 2 0)
noncomputable def kRevoke (v : F2) (np : Nat) (p : Int32) : Nat := cif (¬ isP np p) 1 (cif (v 1 (ix p) ≠ 0) 2 0)
noncomputable def kPow (np : Nat) (p : Int32) : Nat := cif (¬ isP np p) 1 0
noncomputable def kFault (np : Nat) (p s : Int32) : Nat := cif (¬ isP np p) 1 (cif (¬ isSm s) 2 0)
noncomputable def kDepth (v : F2) (td : Int32) (np : Nat) (p s : Int32) : Nat := cif (¬ isP np p) 1 (cif (¬ isSm s) 2 (cif (fl v td s (ix p) = 45) 3 0))
noncomputable def kCan (n : Nat) (p k s : Int32) : Nat := cif (¬ isP n p) 1 (cif (¬ isKd k ∨ ¬ isSm s) 2 0)
noncomputable def kTog (n : Nat) (p o k s : Int32) : Nat := cif (¬ isP n p ∨ ¬ isP n o) 1 (cif (¬ isKd k ∨ ¬ isSm s) 2 (cif (p = o) 3 0))
noncomputable def kAsk (k s : Int32) : Nat := cif (¬ isKd k ∨ ¬ isSm s) 1 0
noncomputable def kSign (n nd : Nat) (p k a pa : Int32) : Nat := cif (¬ isP n p) 1 (cif (¬ isDl k a pa) 2 (cif (nd = 24) 3 0))
noncomputable def kSignT (n nd : Nat) (p o k a pa : Int32) : Nat := cif (¬ isP n p ∨ ¬ isP n o) 1 (cif (¬ isDl k a pa) 2 (cif (p = o) 3 (cif (nd = 24) 4 0)))
/-- a deeds' view w: rows 0 kind, 1 amount, 2 party, 3 day, 4 sum, 5 status -/
noncomputable def kRat (v w : F2) (td : Int32) (np nd n : Nat) (d p : Int32) : Nat := cif (¬ isP nd d ∨ ¬ isP n p) 1 (cif (w 5 (ix d) ≠ 119) 2 (cif (¬ fHas v np td p (w 0 (ix d)) 115 (w 4 (ix d))) 3 0))
noncomputable def kAnnul (w : F2) (nd : Nat) (d : Int32) : Nat := cif (¬ isP nd d) 1 (cif (w 5 (ix d) ≠ 119) 2 0)
noncomputable def kLack (w : F2) (nd : Nat) (d : Int32) : Nat := cif (¬ isP nd d) 1 (cif (w 5 (ix d) = 115) 2 0)
noncomputable def kLackP (w : F2) (lp : Nat → Int32) (nd : Nat) (d : Int32) : Nat := cif (¬ isP nd d) 1 (cif (w 5 (ix d) = 115 ∨ lp (ix d) < 0) 2 0)
noncomputable def kWin (d : Int32) : Nat := cif (¬ (1 ≤ d ∧ d ≤ 99)) 1 0
noncomputable def kPass (td d : Int32) : Nat := cif (¬ (1 ≤ d ∧ d ≤ 99) ∨ 999 < td + d) 1 0
noncomputable def kShare (nd : Nat) : Nat := cif (nd = 0) 1 0
-- the model's ends
def mPost (E : gV) (β : Nat → Nat) (μ : F2) (K : Nat → Nat) (code : Nat) (μ' : F2) (K' : Nat → Nat) (Pv : Prop) (H : Heap) : Prop := ∃ dp' : Int32, RM E β (if code = 0 then μ' else μ) (if code = 0 then K' else K) dp' (nI code) H ∧ (code = 0 → Pv)
theorem mPost_0 {E : gV} {β : Nat → Nat} {μ μ' μ2 : F2} {K K' K2 : Nat → Nat} {code : Nat} {Pv : Prop} {H : Heap} {dp : Int32} (hk : code = 0) (hR : RM E β μ2 K2 dp 0 H) (hμ : μ2 = μ') (hK : K2 = K') (hv : Pv) : mPost E β μ K code μ' K' Pv H := by
  subst hk hμ hK
  exact ⟨dp, by rw [if_pos rfl, if_pos rfl]; exact hR, fun _ => hv⟩
theorem mPost_k {E : gV} {β : Nat → Nat} {μ μ' : F2} {K K' : Nat → Nat} {code : Nat} {Pv : Prop} {H : Heap} {dp th : Int32} (k : Nat) (hk : code = k) (h0 : k ≠ 0) (ht : th = nI k) (hR : RM E β μ K dp th H) : mPost E β μ K code μ' K' Pv H := by
  subst hk ht
  exact ⟨dp, by rw [if_neg h0, if_neg h0]; exact hR, fun q => absurd q h0⟩
theorem bzE_1 {C : Nat → Prop} {q : Nat} {r : Int32} (h : bz (∃ t, t < q ∧ C t) r) (hc : C q) : bz (∃ t, t < q + 1 ∧ C t) (r ||| 1) := by
  refine Or.inl ⟨?_, q, by omega, hc⟩
  rcases h with ⟨rfl, -⟩ | ⟨rfl, -⟩ <;> decide
theorem bzE_0 {C : Nat → Prop} {q : Nat} {r : Int32} (h : bz (∃ t, t < q ∧ C t) r) (hc : ¬ C q) : bz (∃ t, t < q + 1 ∧ C t) (r ||| 0) := by
  rcases h with ⟨rfl, t, h1, h2⟩ | ⟨rfl, h1⟩
  · exact Or.inl ⟨by decide, t, by omega, h2⟩
  · refine Or.inr ⟨by decide, fun ⟨t, h2, h3⟩ => ?_⟩
    by_cases e : t = q
    · subst e; exact hc h3
    · exact h1 ⟨t, by omega, h3⟩
theorem bzE_z {C : Nat → Prop} : bz (∃ t, t < 0 ∧ C t) 0 := Or.inr ⟨rfl, fun ⟨t, h, _⟩ => by omega⟩
theorem nI_cnt_t {P : Nat → Prop} {n : Nat} (h : P n) : nI (fCnt P n) + 1 = nI (fCnt P (n + 1)) := by rw [nI_1, fCnt_t h]
theorem nI_cnt_f {P : Nat → Prop} {n : Nat} (h : ¬ P n) : nI (fCnt P n) + 0 = nI (fCnt P (n + 1)) := by rw [fCnt_f h]; exact Int32.add_zero _
theorem not_le_nI {i n : Nat} (hn : n < 2 ^ 31) (hi : i < 2 ^ 31) (h : ¬ nI n ≤ nI i) : i < n := by
  rcases Nat.lt_or_ge i n with q | q
  · exact q
  · exact absurd (nI_le q hi) h
theorem le_nI {i n : Nat} (hn : n < 2 ^ 31) (hi : i < 2 ^ 31) (h : nI n ≤ nI i) : n ≤ i := (nI_leI hn hi).mp h
-- the model's deeds' view
def mw (μ : F2) : F2 := fun k => match k with
  | 0 => μ 10
  | 1 => μ 11
  | 2 => μ 12
  | 3 => μ 13
  | 4 => μ 14
  | 5 => μ 17
  | _ => fun _ => 0
/-- the sum of the earlier deeds' amounts -/
noncomputable def fAdd (w : F2) (an : Nat → Prop) (td wd k pa : Int32) : Nat → Int32 → Int32
  | 0, a => a
  | n + 1, a => cif (w 0 n = k ∧ w 2 n = pa ∧ ¬ an n ∧ td - w 3 n < wd) (fAdd w an td wd k pa n a + w 1 n) (fAdd w an td wd k pa n a)
/-- the greatest sum without a fault: the least of the chain -/
def mR1 (v : F2) (td : Int32) (p : Nat) : Int32 := if v 2 p ≤ td ∧ td ≤ v 3 p ∧ v 1 p = 0 then v 0 p else 0
def mRe (v : F2) (td : Int32) : Nat → Nat → Int32 → Int32
  | 0, p, a => if mR1 v td p < a then mR1 v td p else a
  | n + 1, p, a => if v 4 p < 0 then (if mR1 v td p < a then mR1 v td p else a) else mRe v td n (v 4 p).toNatClampNeg (if mR1 v td p < a then mR1 v td p else a)
noncomputable def fBd (w : F2) : Nat → Int64
  | 0 => 0
  | n + 1 => cif (w 5 n = 115 ∨ w 5 n = 114) (fBd w n + (w 1 n).toInt64) (fBd w n)
noncomputable def fPr (C : Nat → Nat → Prop) : Nat → Nat
  | 0 => 0
  | n + 1 => fPr C n + fCnt (C n) n
def mAdds (μ : F2) (d : Nat) (h k ha li fi la src : Int32) : F2 := up2 (up2 (up2 (up2 (up2 (up2 (up2 μ 3 d h) 4 d k) 9 d ha) 5 d li) 6 d fi) 7 d la) 8 d src
def mLack (μ : F2) (d : Nat) (L : Int32 × Int32 × Int32) : F2 := upA (upA (upA μ 18 (upd (μ 18) d L.1)) 15 (upd (μ 15) d L.2.1)) 16 (upd (μ 16) d L.2.2)
/-- rank of a lack's letter -/
def fOrd (x : Int32) : Int32 := if x = 107 then 0 else if x = 100 then 1 else if x = 118 then 2 else if x = 108 then 3 else 4
/-- the lack, its power, its depth: found from the powers below n -/
noncomputable def fLk (v : F2) (td i j k s : Int32) : Nat → Int32 × Int32 × Int32
  | 0 => (107, -1, 0)
  | n + 1 => cif (v 6 n = k ∧ (fAct v i (v 5 n) ∨ (0 ≤ j ∧ fAct v j (v 5 n))) ∧ fOrd (fLk v td i j k s n).1 < fOrd (if fl v td s n = 45 then 104 else fl v td s n))
      ((if fl v td s n = 45 then 104 else fl v td s n), nI n, if fl v td s n = 45 then 0 else nI (dpt v td s n)) (fLk v td i j k s n)
def isGd (x : Int32) : Prop := x = 115 ∨ x = 114
def mOk (v : F2) (np : Nat) (td i j k s : Int32) : Prop := (j < 0 ∧ fHas v np td i k 115 s) ∨ (¬ j < 0 ∧ fTog v np td i j k s)
def mRow (μ : F2) (d : Nat) (k a pa td S : Int32) : F2 := up2 (up2 (up2 (up2 (up2 μ 10 d k) 11 d a) 12 d pa) 13 d td) 14 d S
noncomputable def mSig (μ : F2) (np d : Nat) (i j k a pa S : Int32) : F2 := cif (mOk (mv μ) np (μ 22 0) i j k S) (up2 (mRow μ d k a pa (μ 22 0) S) 17 d 115) (mLack (up2 (mRow μ d k a pa (μ 22 0) S) 17 d 119) d (fLk (mv μ) (μ 22 0) i j k S np))
noncomputable def mSum (μ : F2) (K : Nat → Nat) (k a pa : Int32) : Int32 := fAdd (mw μ) (fun t => μ 17 t = 110) (μ 22 0) (μ 23 0) k pa (K 2) a
