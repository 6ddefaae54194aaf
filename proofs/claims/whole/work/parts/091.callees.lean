/-! SMALL RULES, FACTS OF LETTERS -/
section SMALL
variable {p : Program} {l : Launch} {e : Env} {R : Room} {s : State} {m : MethodId} {args : Array Value} {below : List Frame} {meth : Method} {c : Code} {H : Heap} {locs : List Loc} {cells slots : Nat} {Q : State → Prop} {cc : ByteArray} {pc : Nat} {ls : Array Slot} {rest : List Value}
theorem g_iadd1 {x : Nat} (hexec : p.tables.exec = Jvm.exec) (hb : c.code = cc) (hdg : decode cc pc = .ok (.iadd, 1)) (kk : W p l e R s m args below meth c H locs cells slots Q (F0 m (pc + 1) ls (.int (nI (x + 1)) :: rest))) : W p l e R s m args below meth c H locs cells slots Q (F0 m pc ls (.int 1 :: .int (nI x) :: rest)) :=
  lv_iadd hexec hb hdg (by rw [nI_1]; exact kk)
theorem g_isub1 {x : Nat} (hexec : p.tables.exec = Jvm.exec) (hb : c.code = cc) (hdg : decode cc pc = .ok (.isub, 1)) (kk : W p l e R s m args below meth c H locs cells slots Q (F0 m (pc + 1) ls (.int (nI x) :: rest))) : W p l e R s m args below meth c H locs cells slots Q (F0 m pc ls (.int 1 :: .int (nI (x + 1)) :: rest)) :=
  lv_isub hexec hb hdg (by rw [nI_pred]; exact kk)
end SMALL
theorem nI_m2 (j : Nat) (h : j < 8) : nI j ≠ -2 := by
  intro q
  have := congrArg Int32.toInt q
  rw [nI_toInt (by omega)] at this
  have h2 : (-2 : Int32).toInt = -2 := by decide
  omega
theorem fOwn_is (v : F2) (td s : Int32) (p : Nat) : fOwn v td s p = 100 ∨ fOwn v td s p = 118 ∨ fOwn v td s p = 108 ∨ fOwn v td s p = 45 := by
  unfold fOwn
  split
  · split
    · exact Or.inr (Or.inl rfl)
    · split
      · exact Or.inr (Or.inr (Or.inl rfl))
      · exact Or.inr (Or.inr (Or.inr rfl))
  · exact Or.inl rfl
theorem fFl_is (v : F2) (td s : Int32) : ∀ n p, fFl v td s n p = 100 ∨ fFl v td s n p = 118 ∨ fFl v td s n p = 108 ∨ fFl v td s n p = 45 := by
  intro n
  induction n with
  | zero => intro p; exact fOwn_is v td s p
  | succ n ih =>
    intro p
    show (if _ then _ else _) = _ ∨ (if _ then _ else _) = _ ∨ (if _ then _ else _) = _ ∨ (if _ then _ else _) = _
    by_cases h : v 4 p < 0
    · rw [if_pos h]; exact fOwn_is v td s p
    · rw [if_neg h]
      by_cases h2 : fFl v td s n (v 4 p).toNatClampNeg ≠ 45
      · rw [if_pos h2]; exact ih _
      · rw [if_neg h2]; exact fOwn_is v td s p
theorem fl_is (v : F2) (td s : Int32) (p : Nat) : fl v td s p = 100 ∨ fl v td s p = 118 ∨ fl v td s p = 108 ∨ fl v td s p = 45 := fFl_is v td s p p
theorem fl_nar (v : F2) (td s : Int32) (p : Nat) : narrow .char (.int (fl v td s p)) = .int (fl v td s p) := by
  rcases fl_is v td s p with h | h | h | h <;> rw [h] <;> rfl
theorem fCome_r {v : F2} {p o : Nat} (h : p = o) : fCome v p o := by
  unfold fCome
  cases p with
  | zero => exact h
  | succ n => exact Or.inl h
theorem fCm_congr {v v' : F2} (h : ∀ i, v 4 i = v' 4 i) : ∀ n p o, fCm v n p o ↔ fCm v' n p o := by
  intro n
  induction n with
  | zero => intro p o; exact Iff.rfl
  | succ n ih => intro p o; show (_ ∨ _) ↔ (_ ∨ _); rw [h p, ih]
theorem fCome_congr {v v' : F2} (h : ∀ i, v 4 i = v' 4 i) (p o : Nat) : fCome v p o ↔ fCome v' p o := fCm_congr h p p o
theorem mRe_fuel {v : F2} {td : Int32} {np : Nat} (hs : fSrc v np) (hn : np < 2 ^ 31) : ∀ (q n m : Nat) (a : Int32), q < np → q ≤ n → q ≤ m → mRe v td n q a = mRe v td m q a := by
  intro q
  induction q using Nat.strongRecOn with
  | ind q ih =>
    intro n m a hq h1 h2
    rcases hs q hq with h | ⟨j, hj, h⟩
    · have e1 : ∀ n, mRe v td n q a = if mR1 v td q < a then mR1 v td q else a := fun n => by cases n with
        | zero => rfl
        | succ n => exact if_pos h
      rw [e1, e1]
    · obtain ⟨n, rfl⟩ : ∃ k, n = k + 1 := ⟨n - 1, by omega⟩
      obtain ⟨m, rfl⟩ : ∃ k, m = k + 1 := ⟨m - 1, by omega⟩
      have hc : (v 4 q).toNatClampNeg = j := by rw [h]; exact nI_clamp (by omega)
      simp only [mRe, hc]
      rw [ih j hj n m _ (by omega) (by omega) (by omega)]
theorem mRe_0 {v : F2} {td a : Int32} {p : Nat} (h : v 4 p < 0) : mRe v td p p a = if mR1 v td p < a then mR1 v td p else a := by
  cases p with
  | zero => rfl
  | succ n => exact if_pos h
theorem mRe_s {v : F2} {td a : Int32} {np p q : Nat} (hs : fSrc v np) (hn : np < 2 ^ 31) (hp : p < np) (hq : q < p) (h : v 4 p = nI q) : mRe v td p p a = mRe v td q q (if mR1 v td p < a then mR1 v td p else a) := by
  obtain ⟨k, rfl⟩ : ∃ k, p = k + 1 := ⟨p - 1, by omega⟩
  have hc : (v 4 (k + 1)).toNatClampNeg = q := by rw [h]; exact nI_clamp (by omega)
  have h0 : ¬ v 4 (k + 1) < 0 := by rw [h]; exact nI_pos (by omega)
  show (if v 4 (k + 1) < 0 then _ else _) = _
  rw [if_neg h0, hc]
  exact mRe_fuel hs hn q k q _ (by omega) (by omega) (Nat.le_refl _)
theorem mv_congr {μ μ' : F2} (h : ∀ k, k < 10 → μ' k = μ k) : mv μ' = mv μ := by
  funext k
  match k with
  | 0 => exact h 5 (by omega)
  | 1 => exact h 1 (by omega)
  | 2 => exact h 6 (by omega)
  | 3 => exact h 7 (by omega)
  | 4 => exact h 8 (by omega)
  | 5 => exact h 3 (by omega)
  | 6 => exact h 4 (by omega)
  | 7 => show (fun j => if μ' 0 j ≠ 0 then μ' 2 j else -2) = (fun j => if μ 0 j ≠ 0 then μ 2 j else -2); rw [h 0 (by omega), h 2 (by omega)]
  | 8 => exact h 9 (by omega)
  | n + 9 => rfl
theorem mv_lack (μ : F2) (d : Nat) (L : Int32 × Int32 × Int32) : mv (mLack μ d L) = mv μ := mv_congr (fun k hk => by unfold mLack; rw [upA_n _ _ (by omega), upA_n _ _ (by omega), upA_n _ _ (by omega)])
theorem upd_self (f : Nat → Int32) (d : Nat) : upd f d (f d) = f := by funext i; unfold upd; split <;> simp_all
theorem upd_upd (f : Nat → Int32) (d : Nat) (x y : Int32) : upd (upd f d x) d y = upd f d y := by funext i; unfold upd; split <;> rfl
theorem mLack_0 {μ : F2} {d : Nat} (h : μ 16 d = 0) : mLack μ d (107, -1, 0) = up2 (up2 μ 18 d 107) 15 d (-1) := by
  funext k
  unfold mLack up2
  by_cases h16 : k = 16
  · subst h16
    rw [upA_s, upA_n _ _ (by decide), upA_n _ _ (by decide), ← h, upd_self]
  · rw [upA_n _ _ h16]
    by_cases h15 : k = 15
    · subst h15
      rw [upA_s, upA_s, upA_n _ _ (by decide)]
    · rw [upA_n _ _ h15, upA_n _ _ h15]
theorem mLack_s (μ : F2) (d : Nat) (L : Int32 × Int32 × Int32) (x y z : Int32) : up2 (up2 (up2 (mLack μ d L) 18 d x) 15 d y) 16 d z = mLack μ d (x, y, z) := by
  funext k
  unfold mLack up2
  by_cases h16 : k = 16
  · subst h16
    rw [upA_s, upA_s, upA_n _ _ (by decide), upA_n _ _ (by decide), upA_s, upd_upd]
  · rw [upA_n _ _ h16, upA_n _ _ h16]
    by_cases h15 : k = 15
    · subst h15
      rw [upA_s, upA_s, upA_n _ _ (by decide), upA_n _ _ (by decide), upA_s, upd_upd]
    · rw [upA_n _ _ h15, upA_n _ _ h15]
      by_cases h18 : k = 18
      · subst h18
        rw [upA_s, upA_s, upA_n _ _ (by decide), upA_n _ _ (by decide), upA_s, upd_upd]
      · rw [upA_n _ _ h18, upA_n _ _ h18, upA_n _ _ h16, upA_n _ _ h15, upA_n _ _ h18]
theorem fAdd_congr {w w' : F2} {an an' : Nat → Prop} {td wd k pa a : Int32} : ∀ {n : Nat}, (∀ i, i < n → w 0 i = w' 0 i ∧ w 1 i = w' 1 i ∧ w 2 i = w' 2 i ∧ w 3 i = w' 3 i ∧ (an i ↔ an' i)) → fAdd w an td wd k pa n a = fAdd w' an' td wd k pa n a := by
  intro n
  induction n with
  | zero => intro _; rfl
  | succ n ih =>
    intro h
    obtain ⟨h0, h1, h2, h3, h4⟩ := h n (by omega)
    have e := ih (fun i hi => h i (by omega))
    show cif _ _ _ = cif _ _ _
    rw [h0, h1, h2, h3, e]
    by_cases c : w' 0 n = k ∧ w' 2 n = pa ∧ ¬ an n ∧ td - w' 3 n < wd
    · rw [cif_pos c, cif_pos ⟨c.1, c.2.1, fun z => c.2.2.1 (h4.mpr z), c.2.2.2⟩]
    · rw [cif_neg c, cif_neg (fun z => c ⟨z.1, z.2.1, fun q => z.2.2.1 (h4.mp q), z.2.2.2⟩)]
theorem nI_cntA_t {C : Nat → Prop} {n a : Nat} (h : C n) : nI (a + fCnt C n) + 1 = nI (a + fCnt C (n + 1)) := by rw [nI_1, fCnt_t h]; rfl
theorem nI_cntA_f {C : Nat → Prop} {n a : Nat} (h : ¬ C n) : nI (a + fCnt C n) + 0 = nI (a + fCnt C (n + 1)) := by rw [fCnt_f h]; exact Int32.add_zero _
theorem fp_all : ∀ a : Fin 25, ∀ b : Fin 25, b.val ≠ 0 → (FP.fdiv (FP.i2f (nI a.val)) (FP.i2f (nI b.val)) &&& 0x7fffffff ≤ 0x7f800000) := by decide +kernel
theorem fp_ok {a b : Nat} (ha : a ≤ 24) (hb : b ≤ 24) (h0 : b ≠ 0) : vf_n32 (FP.fdiv (FP.i2f (nI a)) (FP.i2f (nI b))) := fp_all ⟨a, by omega⟩ ⟨b, by omega⟩ h0
theorem Y_J0_checkBoundsBeginEnd_23922 : gY yJ0_checkBoundsBeginEnd_23922 cJ0_checkBoundsBeginEnd_23922 3 none 3 := ⟨k_24, k_830, by decide +kernel⟩
theorem S_J0_checkBoundsBeginEnd_23922 : Cond.static yJ0_checkBoundsBeginEnd_23922 ∈ lw_tbl := k_829
theorem Y_J0_coder_7d493 : gY yJ0_coder_7d493 cJ0_coder_7d493 1 (some .byte) 0 := ⟨k_24, k_801, by decide +kernel⟩
theorem I_J0_coder_7d493 : Cond.instanceMethod yJ0_coder_7d493 ∈ lw_tbl := k_799
theorem V_J0_coder_7d493 : Cond.selects yJ0_coder_7d493.cls yJ0_coder_7d493 yJ0_coder_7d493 ∈ lw_tbl := k_800
theorem Y_J0_indexOf_0f7a4 : gY yJ0_indexOf_0f7a4 cJ0_indexOf_0f7a4 2 (some .int) 1 := ⟨k_24, k_783, by decide +kernel⟩
theorem I_J0_indexOf_0f7a4 : Cond.instanceMethod yJ0_indexOf_0f7a4 ∈ lw_tbl := k_781
theorem V_J0_indexOf_0f7a4 : Cond.selects yJ0_indexOf_0f7a4.cls yJ0_indexOf_0f7a4 yJ0_indexOf_0f7a4 ∈ lw_tbl := k_782
theorem Y_J0_indexOf_7cf53 : gY yJ0_indexOf_7cf53 cJ0_indexOf_7cf53 3 (some .int) 2 := ⟨k_24, k_787, by decide +kernel⟩
theorem I_J0_indexOf_7cf53 : Cond.instanceMethod yJ0_indexOf_7cf53 ∈ lw_tbl := k_785
theorem V_J0_indexOf_7cf53 : Cond.selects yJ0_indexOf_7cf53.cls yJ0_indexOf_7cf53 yJ0_indexOf_7cf53 ∈ lw_tbl := k_786
theorem Y_J0_isLatin1_aae02 : gY yJ0_isLatin1_aae02 cJ0_isLatin1_aae02 1 (some .boolean) 0 := ⟨k_24, k_791, by decide +kernel⟩
theorem I_J0_isLatin1_aae02 : Cond.instanceMethod yJ0_isLatin1_aae02 ∈ lw_tbl := k_789
theorem V_J0_isLatin1_aae02 : Cond.selects yJ0_isLatin1_aae02.cls yJ0_isLatin1_aae02 yJ0_isLatin1_aae02 ∈ lw_tbl := k_790
theorem Y_J0_length_8abf5 : gY yJ0_length_8abf5 cJ0_length_8abf5 1 (some .int) 0 := ⟨k_24, k_797, by decide +kernel⟩
theorem I_J0_length_8abf5 : Cond.instanceMethod yJ0_length_8abf5 ∈ lw_tbl := k_795
theorem V_J0_length_8abf5 : Cond.selects yJ0_length_8abf5.cls yJ0_length_8abf5 yJ0_length_8abf5 ∈ lw_tbl := k_796
theorem Y_J11_highSurrogate_5068e : gY yJ11_highSurrogate_5068e cJ11_highSurrogate_5068e 1 (some .char) 1 := ⟨k_27, k_856, by decide +kernel⟩
theorem S_J11_highSurrogate_5068e : Cond.static yJ11_highSurrogate_5068e ∈ lw_tbl := k_855
theorem Y_J11_isValidCodePoint_9a6ad : gY yJ11_isValidCodePoint_9a6ad cJ11_isValidCodePoint_9a6ad 2 (some .boolean) 1 := ⟨k_27, k_853, by decide +kernel⟩
theorem S_J11_isValidCodePoint_9a6ad : Cond.static yJ11_isValidCodePoint_9a6ad ∈ lw_tbl := k_852
theorem Y_J11_lowSurrogate_5068e : gY yJ11_lowSurrogate_5068e cJ11_lowSurrogate_5068e 1 (some .char) 1 := ⟨k_27, k_860, by decide +kernel⟩
theorem S_J11_lowSurrogate_5068e : Cond.static yJ11_lowSurrogate_5068e ∈ lw_tbl := k_859
theorem Y_J15_checkIndex_7cf53 : gY yJ15_checkIndex_7cf53 cJ15_checkIndex_7cf53 2 (some .int) 2 := ⟨k_19, k_143, by decide +kernel⟩
theorem S_J15_checkIndex_7cf53 : Cond.static yJ15_checkIndex_7cf53 ∈ lw_tbl := k_142
theorem Y_J1_canEncode_9a6ad : gY yJ1_canEncode_9a6ad cJ1_canEncode_9a6ad 1 (some .boolean) 1 := ⟨k_25, k_807, by decide +kernel⟩
theorem S_J1_canEncode_9a6ad : Cond.static yJ1_canEncode_9a6ad ∈ lw_tbl := k_806
theorem Y_J1_indexOfChar_4cfef : gY yJ1_indexOfChar_4cfef cJ1_indexOfChar_4cfef 6 (some .int) 4 := ⟨k_25, k_812, by decide +kernel⟩
theorem S_J1_indexOfChar_4cfef : Cond.static yJ1_indexOfChar_4cfef ∈ lw_tbl := k_811
theorem Y_J1_indexOf_4cfef : gY yJ1_indexOf_4cfef cJ1_indexOf_4cfef 4 (some .int) 4 := ⟨k_25, k_804, by decide +kernel⟩
theorem S_J1_indexOf_4cfef : Cond.static yJ1_indexOf_4cfef ∈ lw_tbl := k_803
theorem Y_J2_checkBoundsBeginEnd_d044e : gY yJ2_checkBoundsBeginEnd_d044e cJ2_checkBoundsBeginEnd_d044e 3 none 3 := ⟨k_26, k_824, by decide +kernel⟩
theorem S_J2_checkBoundsBeginEnd_d044e : Cond.static yJ2_checkBoundsBeginEnd_d044e ∈ lw_tbl := k_823
theorem Y_J2_getChar_3b067 : gY yJ2_getChar_3b067 cJ2_getChar_3b067 2 (some .char) 2 := ⟨k_26, k_841, by decide +kernel⟩
theorem S_J2_getChar_3b067 : Cond.static yJ2_getChar_3b067 ∈ lw_tbl := k_840
theorem Y_J2_indexOfCharUnsafe_4cfef : gY yJ2_indexOfCharUnsafe_4cfef cJ2_indexOfCharUnsafe_4cfef 5 (some .int) 4 := ⟨k_26, k_838, by decide +kernel⟩
theorem S_J2_indexOfCharUnsafe_4cfef : Cond.static yJ2_indexOfCharUnsafe_4cfef ∈ lw_tbl := k_837
theorem Y_J2_indexOfChar_4cfef : gY yJ2_indexOfChar_4cfef cJ2_indexOfChar_4cfef 4 (some .int) 4 := ⟨k_26, k_821, by decide +kernel⟩
theorem S_J2_indexOfChar_4cfef : Cond.static yJ2_indexOfChar_4cfef ∈ lw_tbl := k_820
theorem Y_J2_indexOfSupplementary_4cfef : gY yJ2_indexOfSupplementary_4cfef cJ2_indexOfSupplementary_4cfef 7 (some .int) 4 := ⟨k_26, k_850, by decide +kernel⟩
theorem S_J2_indexOfSupplementary_4cfef : Cond.static yJ2_indexOfSupplementary_4cfef ∈ lw_tbl := k_849
theorem Y_J2_indexOf_4cfef : gY yJ2_indexOf_4cfef cJ2_indexOf_4cfef 4 (some .int) 4 := ⟨k_26, k_815, by decide +kernel⟩
theorem S_J2_indexOf_4cfef : Cond.static yJ2_indexOf_4cfef ∈ lw_tbl := k_814
theorem Y_J2_length_9d52b : gY yJ2_length_9d52b cJ2_length_9d52b 1 (some .int) 1 := ⟨k_26, k_827, by decide +kernel⟩
theorem S_J2_length_9d52b : Cond.static yJ2_length_9d52b ∈ lw_tbl := k_826
theorem Y_J3_checkFromToIndex_8c36e : gY yJ3_checkFromToIndex_8c36e cJ3_checkFromToIndex_8c36e 4 (some .int) 4 := ⟨k_20, k_835, by decide +kernel⟩
theorem S_J3_checkFromToIndex_8c36e : Cond.static yJ3_checkFromToIndex_8c36e ∈ lw_tbl := k_834
theorem Y_J3_checkIndex_8e157 : gY yJ3_checkIndex_8e157 cJ3_checkIndex_8e157 3 (some .int) 3 := ⟨k_20, k_146, by decide +kernel⟩
theorem S_J3_checkIndex_8e157 : Cond.static yJ3_checkIndex_8e157 ∈ lw_tbl := k_145
theorem Y_J7_copyOf_1904c : gY yJ7_copyOf_1904c cJ7_copyOf_1904c 2 (some (.array (.object "java/lang/Object"))) 2 := ⟨k_16, k_347, by decide +kernel⟩
theorem S_J7_copyOf_1904c : Cond.static yJ7_copyOf_1904c ∈ lw_tbl := k_346
theorem Y_J7_copyOf_6403c : gY yJ7_copyOf_6403c cJ7_copyOf_6403c 4 (some (.array (.object "java/lang/Object"))) 3 := ⟨k_16, k_366, by decide +kernel⟩
theorem S_J7_copyOf_6403c : Cond.static yJ7_copyOf_6403c ∈ lw_tbl := k_365
theorem Y_J8_hugeLength_7cf53 : gY yJ8_hugeLength_7cf53 cJ8_hugeLength_7cf53 3 (some .int) 2 := ⟨k_14, k_344, by decide +kernel⟩
theorem S_J8_hugeLength_7cf53 : Cond.static yJ8_hugeLength_7cf53 ∈ lw_tbl := k_343
theorem Y_J8_newLength_cabcc : gY yJ8_newLength_cabcc cJ8_newLength_cabcc 4 (some .int) 3 := ⟨k_14, k_337, by decide +kernel⟩
theorem S_J8_newLength_cabcc : Cond.static yJ8_newLength_cabcc ∈ lw_tbl := k_336
theorem Y_J9_max_7cf53 : gY yJ9_max_7cf53 cJ9_max_7cf53 2 (some .int) 2 := ⟨k_15, k_340, by decide +kernel⟩
theorem S_J9_max_7cf53 : Cond.static yJ9_max_7cf53 ∈ lw_tbl := k_339
theorem Y_J9_min_7cf53 : gY yJ9_min_7cf53 cJ9_min_7cf53 2 (some .int) 2 := ⟨k_15, k_372, by decide +kernel⟩
theorem S_J9_min_7cf53 : Cond.static yJ9_min_7cf53 ∈ lw_tbl := k_371
theorem Y_Jx4a65c_add_72be8 : gY yJx4a65c_add_72be8 cJx4a65c_add_72be8 4 none 3 := ⟨k_4, k_326, by decide +kernel⟩
theorem I_Jx4a65c_add_72be8 : Cond.instanceMethod yJx4a65c_add_72be8 ∈ lw_tbl := k_325
theorem V_Jx4a65c_add_72be8 : Cond.selects yJx4a65c_add_72be8.cls yJx4a65c_add_72be8 yJx4a65c_add_72be8 ∈ lw_tbl := ks_4
theorem Y_Jx4a65c_add_9ea2d : gY yJx4a65c_add_9ea2d cJx4a65c_add_9ea2d 2 (some .boolean) 1 := ⟨k_4, k_322, by decide +kernel⟩
theorem I_Jx4a65c_add_9ea2d : Cond.instanceMethod yJx4a65c_add_9ea2d ∈ lw_tbl := k_320
theorem Y_Jx4a65c_elementData_915e3 : gY yJx4a65c_elementData_915e3 cJx4a65c_elementData_915e3 2 (some (.object "java/lang/Object")) 1 := ⟨k_4, k_150, by decide +kernel⟩
theorem I_Jx4a65c_elementData_915e3 : Cond.instanceMethod yJx4a65c_elementData_915e3 ∈ lw_tbl := k_148
theorem V_Jx4a65c_elementData_915e3 : Cond.selects yJx4a65c_elementData_915e3.cls yJx4a65c_elementData_915e3 yJx4a65c_elementData_915e3 ∈ lw_tbl := k_149
theorem Y_Jx4a65c_get_915e3 : gY yJx4a65c_get_915e3 cJx4a65c_get_915e3 2 (some (.object "java/lang/Object")) 1 := ⟨k_4, k_140, by decide +kernel⟩
theorem I_Jx4a65c_get_915e3 : Cond.instanceMethod yJx4a65c_get_915e3 ∈ lw_tbl := k_138
theorem Y_Jx4a65c_grow_92f84 : gY yJx4a65c_grow_92f84 cJx4a65c_grow_92f84 4 (some (.array (.object "java/lang/Object"))) 1 := ⟨k_4, k_334, by decide +kernel⟩
theorem I_Jx4a65c_grow_92f84 : Cond.instanceMethod yJx4a65c_grow_92f84 ∈ lw_tbl := k_333
theorem V_Jx4a65c_grow_92f84 : Cond.selects yJx4a65c_grow_92f84.cls yJx4a65c_grow_92f84 yJx4a65c_grow_92f84 ∈ lw_tbl := ks_6
theorem Y_Jx4a65c_grow_d5877 : gY yJx4a65c_grow_d5877 cJx4a65c_grow_d5877 1 (some (.array (.object "java/lang/Object"))) 0 := ⟨k_4, k_330, by decide +kernel⟩
theorem I_Jx4a65c_grow_d5877 : Cond.instanceMethod yJx4a65c_grow_d5877 ∈ lw_tbl := k_329
theorem V_Jx4a65c_grow_d5877 : Cond.selects yJx4a65c_grow_d5877.cls yJx4a65c_grow_d5877 yJx4a65c_grow_d5877 ∈ lw_tbl := ks_5
theorem Y_Jx4a65c_init_da8c8 : gY yJx4a65c_init_da8c8 cJx4a65c_init_da8c8 1 none 0 := ⟨k_4, k_40, by decide +kernel⟩
theorem I_Jx4a65c_init_da8c8 : Cond.instanceMethod yJx4a65c_init_da8c8 ∈ lw_tbl := k_39
theorem Y_Jx4a65c_size_8abf5 : gY yJx4a65c_size_8abf5 cJx4a65c_size_8abf5 1 (some .int) 0 := ⟨k_4, k_131, by decide +kernel⟩
theorem I_Jx4a65c_size_8abf5 : Cond.instanceMethod yJx4a65c_size_8abf5 ∈ lw_tbl := k_129
theorem Y_Jxa1e45_init_da8c8 : gY yJxa1e45_init_da8c8 cJxa1e45_init_da8c8 1 none 0 := ⟨k_2, k_46, by decide +kernel⟩
theorem I_Jxa1e45_init_da8c8 : Cond.instanceMethod yJxa1e45_init_da8c8 ∈ lw_tbl := k_45
theorem Y_Jxc12de_init_da8c8 : gY yJxc12de_init_da8c8 cJxc12de_init_da8c8 1 none 0 := ⟨k_3, k_43, by decide +kernel⟩
theorem I_Jxc12de_init_da8c8 : Cond.instanceMethod yJxc12de_init_da8c8 ∈ lw_tbl := k_42
theorem Y_X0_init : gY yX0_init cX0_init 7 none 6 := ⟨k_23, k_689, by decide +kernel⟩
theorem I_X0_init : Cond.instanceMethod yX0_init ∈ lw_tbl := k_688
theorem Y_X0_isStanding : gY yX0_isStanding cX0_isStanding 1 (some .boolean) 0 := ⟨k_23, k_155, by decide +kernel⟩
theorem I_X0_isStanding : Cond.instanceMethod yX0_isStanding ∈ lw_tbl := k_153
theorem V_X0_isStanding : Cond.selects yX0_isStanding.cls yX0_isStanding yX0_isStanding ∈ lw_tbl := k_154
theorem Y_X1_actsByPowersOf : gY yX1_actsByPowersOf cX1_actsByPowersOf 3 (some .boolean) 2 := ⟨k_5, k_400, by decide +kernel⟩
theorem I_X1_actsByPowersOf : Cond.instanceMethod yX1_actsByPowersOf ∈ lw_tbl := k_398
theorem V_X1_actsByPowersOf : Cond.selects yX1_actsByPowersOf.cls yX1_actsByPowersOf yX1_actsByPowersOf ∈ lw_tbl := k_399
theorem Y_X1_faultOf : gY yX1_faultOf cX1_faultOf 6 (some .char) 2 := ⟨k_5, k_563, by decide +kernel⟩
theorem I_X1_faultOf : Cond.instanceMethod yX1_faultOf ∈ lw_tbl := k_561
theorem V_X1_faultOf : Cond.selects yX1_faultOf.cls yX1_faultOf yX1_faultOf ∈ lw_tbl := k_562
theorem Y_X1_forget : gY yX1_forget cX1_forget 2 none 0 := ⟨k_5, k_71, by decide +kernel⟩
theorem I_X1_forget : Cond.instanceMethod yX1_forget ∈ lw_tbl := k_69
theorem V_X1_forget : Cond.selects yX1_forget.cls yX1_forget yX1_forget ∈ lw_tbl := k_70
theorem Y_X1_init : gY yX1_init cX1_init 1 none 0 := ⟨k_5, k_66, by decide +kernel⟩
theorem I_X1_init : Cond.instanceMethod yX1_init ∈ lw_tbl := k_65
theorem Y_X1_isAnnulled : gY yX1_isAnnulled cX1_isAnnulled 2 (some .boolean) 1 := ⟨k_5, k_762, by decide +kernel⟩
theorem I_X1_isAnnulled : Cond.instanceMethod yX1_isAnnulled ∈ lw_tbl := k_760
theorem V_X1_isAnnulled : Cond.selects yX1_isAnnulled.cls yX1_isAnnulled yX1_isAnnulled ∈ lw_tbl := k_761
theorem Y_X1_isRevoked : gY yX1_isRevoked cX1_isRevoked 3 (some .boolean) 1 := ⟨k_5, k_510, by decide +kernel⟩
theorem I_X1_isRevoked : Cond.instanceMethod yX1_isRevoked ∈ lw_tbl := k_508
theorem V_X1_isRevoked : Cond.selects yX1_isRevoked.cls yX1_isRevoked yX1_isRevoked ∈ lw_tbl := k_509
theorem Y_X1_limitOf : gY yX1_limitOf cX1_limitOf 3 (some .int) 1 := ⟨k_5, k_490, by decide +kernel⟩
theorem I_X1_limitOf : Cond.instanceMethod yX1_limitOf ∈ lw_tbl := k_488
theorem V_X1_limitOf : Cond.selects yX1_limitOf.cls yX1_limitOf yX1_limitOf ∈ lw_tbl := k_489
theorem Y_X1_ownFault : gY yX1_ownFault cX1_ownFault 3 (some .char) 2 := ⟨k_5, k_567, by decide +kernel⟩
theorem I_X1_ownFault : Cond.instanceMethod yX1_ownFault ∈ lw_tbl := k_566
theorem V_X1_ownFault : Cond.selects yX1_ownFault.cls yX1_ownFault yX1_ownFault ∈ lw_tbl := ks_11
theorem Y_X1_reachOf : gY yX1_reachOf cX1_reachOf 4 (some .int) 1 := ⟨k_5, k_609, by decide +kernel⟩
theorem I_X1_reachOf : Cond.instanceMethod yX1_reachOf ∈ lw_tbl := k_607
theorem V_X1_reachOf : Cond.selects yX1_reachOf.cls yX1_reachOf yX1_reachOf ∈ lw_tbl := k_608
theorem Y_X1_stepsToFault : gY yX1_stepsToFault cX1_stepsToFault 6 (some .int) 2 := ⟨k_5, k_582, by decide +kernel⟩
theorem I_X1_stepsToFault : Cond.instanceMethod yX1_stepsToFault ∈ lw_tbl := k_580
theorem V_X1_stepsToFault : Cond.selects yX1_stepsToFault.cls yX1_stepsToFault yX1_stepsToFault ∈ lw_tbl := k_581
theorem Y_X1_substituteFor : gY yX1_substituteFor cX1_substituteFor 2 (some .int) 1 := ⟨k_5, k_289, by decide +kernel⟩
theorem I_X1_substituteFor : Cond.instanceMethod yX1_substituteFor ∈ lw_tbl := k_287
theorem V_X1_substituteFor : Cond.selects yX1_substituteFor.cls yX1_substituteFor yX1_substituteFor ∈ lw_tbl := k_288
theorem Y_X1_take : gY yX1_take cX1_take 3 none 1 := ⟨k_5, k_381, by decide +kernel⟩
theorem I_X1_take : Cond.instanceMethod yX1_take ∈ lw_tbl := k_379
theorem V_X1_take : Cond.selects yX1_take.cls yX1_take yX1_take ∈ lw_tbl := k_380
theorem Y_X2_init : gY yX2_init cX2_init 4 none 3 := ⟨k_13, k_299, by decide +kernel⟩
theorem I_X2_init : Cond.instanceMethod yX2_init ∈ lw_tbl := k_298
theorem Y_X3_comesFrom : gY yX3_comesFrom cX3_comesFrom 3 (some .boolean) 1 := ⟨k_18, k_534, by decide +kernel⟩
theorem I_X3_comesFrom : Cond.instanceMethod yX3_comesFrom ∈ lw_tbl := k_532
theorem V_X3_comesFrom : Cond.selects yX3_comesFrom.cls yX3_comesFrom yX3_comesFrom ∈ lw_tbl := k_533
theorem Y_X3_init : gY yX3_init cX3_init 8 none 7 := ⟨k_18, k_435, by decide +kernel⟩
theorem I_X3_init : Cond.instanceMethod yX3_init ∈ lw_tbl := k_434
theorem Y_X4_actsFor : gY yX4_actsFor cX4_actsFor 3 (some .boolean) 2 := ⟨k_1, k_396, by decide +kernel⟩
theorem I_X4_actsFor : Cond.instanceMethod yX4_actsFor ∈ lw_tbl := k_394
theorem V_X4_actsFor : Cond.selects yX4_actsFor.cls yX4_actsFor yX4_actsFor ∈ lw_tbl := k_395
theorem Y_X4_addPerson : gY yX4_addPerson cX4_addPerson 1 (some .int) 0 := ⟨k_1, k_163, by decide +kernel⟩
theorem I_X4_addPerson : Cond.instanceMethod yX4_addPerson ∈ lw_tbl := k_161
theorem V_X4_addPerson : Cond.selects yX4_addPerson.cls yX4_addPerson yX4_addPerson ∈ lw_tbl := k_162
theorem Y_X4_addUp : gY yX4_addUp cX4_addUp 6 (some .int) 2 := ⟨k_1, k_758, by decide +kernel⟩
theorem I_X4_addUp : Cond.instanceMethod yX4_addUp ∈ lw_tbl := k_757
theorem V_X4_addUp : Cond.selects yX4_addUp.cls yX4_addUp yX4_addUp ∈ lw_tbl := ks_17
theorem Y_X4_annul : gY yX4_annul cX4_annul 3 (some .int) 1 := ⟨k_1, k_892, by decide +kernel⟩
theorem I_X4_annul : Cond.instanceMethod yX4_annul ∈ lw_tbl := k_890
theorem V_X4_annul : Cond.selects yX4_annul.cls yX4_annul yX4_annul ∈ lw_tbl := k_891
theorem Y_X4_bitOfHand : gY yX4_bitOfHand cX4_bitOfHand 1 (some .int) 1 := ⟨k_1, k_418, by decide +kernel⟩
theorem S_X4_bitOfHand : Cond.static yX4_bitOfHand ∈ lw_tbl := k_417
theorem Y_X4_bound : gY yX4_bound cX4_bound 5 (some .long) 0 := ⟨k_1, k_121, by decide +kernel⟩
theorem I_X4_bound : Cond.instanceMethod yX4_bound ∈ lw_tbl := k_119
theorem V_X4_bound : Cond.selects yX4_bound.cls yX4_bound yX4_bound ∈ lw_tbl := k_120
theorem Y_X4_canSign : gY yX4_canSign cX4_canSign 4 (some .boolean) 3 := ⟨k_1, k_618, by decide +kernel⟩
theorem I_X4_canSign : Cond.instanceMethod yX4_canSign ∈ lw_tbl := k_616
theorem V_X4_canSign : Cond.selects yX4_canSign.cls yX4_canSign yX4_canSign ∈ lw_tbl := k_617
theorem Y_X4_canSignTogether : gY yX4_canSignTogether cX4_canSignTogether 5 (some .boolean) 4 := ⟨k_1, k_636, by decide +kernel⟩
theorem I_X4_canSignTogether : Cond.instanceMethod yX4_canSignTogether ∈ lw_tbl := k_634
theorem V_X4_canSignTogether : Cond.selects yX4_canSignTogether.cls yX4_canSignTogether yX4_canSignTogether ∈ lw_tbl := k_635
theorem Y_X4_comeBack : gY yX4_comeBack cX4_comeBack 3 (some .int) 1 := ⟨k_1, k_388, by decide +kernel⟩
theorem I_X4_comeBack : Cond.instanceMethod yX4_comeBack ∈ lw_tbl := k_386
theorem V_X4_comeBack : Cond.selects yX4_comeBack.cls yX4_comeBack yX4_comeBack ∈ lw_tbl := k_387
theorem Y_X4_countPowersFrom : gY yX4_countPowersFrom cX4_countPowersFrom 4 (some .int) 1 := ⟨k_1, k_530, by decide +kernel⟩
theorem I_X4_countPowersFrom : Cond.instanceMethod yX4_countPowersFrom ∈ lw_tbl := k_529
theorem V_X4_countPowersFrom : Cond.selects yX4_countPowersFrom.cls yX4_countPowersFrom yX4_countPowersFrom ∈ lw_tbl := ks_10
theorem Y_X4_countWaiting : gY yX4_countWaiting cX4_countWaiting 3 (some .int) 0 := ⟨k_1, k_896, by decide +kernel⟩
theorem I_X4_countWaiting : Cond.instanceMethod yX4_countWaiting ∈ lw_tbl := k_895
theorem V_X4_countWaiting : Cond.selects yX4_countWaiting.cls yX4_countWaiting yX4_countWaiting ∈ lw_tbl := ks_23
theorem Y_X4_delegate : gY yX4_delegate cX4_delegate 7 (some .int) 5 := ⟨k_1, k_481, by decide +kernel⟩
theorem I_X4_delegate : Cond.instanceMethod yX4_delegate ∈ lw_tbl := k_479
theorem V_X4_delegate : Cond.selects yX4_delegate.cls yX4_delegate yX4_delegate ∈ lw_tbl := k_480
theorem Y_X4_fault : gY yX4_fault cX4_fault 4 (some .char) 2 := ⟨k_1, k_555, by decide +kernel⟩
theorem I_X4_fault : Cond.instanceMethod yX4_fault ∈ lw_tbl := k_553
theorem V_X4_fault : Cond.selects yX4_fault.cls yX4_fault yX4_fault ∈ lw_tbl := k_554
theorem Y_X4_faultDepth : gY yX4_faultDepth cX4_faultDepth 5 (some .int) 2 := ⟨k_1, k_578, by decide +kernel⟩
theorem I_X4_faultDepth : Cond.instanceMethod yX4_faultDepth ∈ lw_tbl := k_576
theorem V_X4_faultDepth : Cond.selects yX4_faultDepth.cls yX4_faultDepth yX4_faultDepth ∈ lw_tbl := k_577
theorem Y_X4_findDeed : gY yX4_findDeed cX4_findDeed 2 (some (.object "Signatory$Deed")) 1 := ⟨k_1, k_879, by decide +kernel⟩
theorem I_X4_findDeed : Cond.instanceMethod yX4_findDeed ∈ lw_tbl := k_878
theorem V_X4_findDeed : Cond.selects yX4_findDeed.cls yX4_findDeed yX4_findDeed ∈ lw_tbl := ks_22
theorem Y_X4_findLack : gY yX4_findLack cX4_findLack 4 none 1 := ⟨k_1, k_770, by decide +kernel⟩
theorem I_X4_findLack : Cond.instanceMethod yX4_findLack ∈ lw_tbl := k_769
theorem V_X4_findLack : Cond.selects yX4_findLack.cls yX4_findLack yX4_findLack ∈ lw_tbl := ks_19
theorem Y_X4_findPower : gY yX4_findPower cX4_findPower 2 (some (.object "Signatory$Power")) 1 := ⟨k_1, k_485, by decide +kernel⟩
theorem I_X4_findPower : Cond.instanceMethod yX4_findPower ∈ lw_tbl := k_484
theorem V_X4_findPower : Cond.selects yX4_findPower.cls yX4_findPower yX4_findPower ∈ lw_tbl := ks_9
theorem Y_X4_grant : gY yX4_grant cX4_grant 7 (some .int) 6 := ⟨k_1, k_408, by decide +kernel⟩
theorem I_X4_grant : Cond.instanceMethod yX4_grant ∈ lw_tbl := k_406
theorem V_X4_grant : Cond.selects yX4_grant.cls yX4_grant yX4_grant ∈ lw_tbl := k_407
theorem Y_X4_handsOf : gY yX4_handsOf cX4_handsOf 8 (some .int) 4 := ⟨k_1, k_626, by decide +kernel⟩
theorem I_X4_handsOf : Cond.instanceMethod yX4_handsOf ∈ lw_tbl := k_625
theorem V_X4_handsOf : Cond.selects yX4_handsOf.cls yX4_handsOf yX4_handsOf ∈ lw_tbl := ks_13
theorem Y_X4_init : gY yX4_init cX4_init 1 none 0 := ⟨k_1, k_32, by decide +kernel⟩
theorem I_X4_init : Cond.instanceMethod yX4_init ∈ lw_tbl := k_31
theorem Y_X4_isBetween : gY yX4_isBetween cX4_isBetween 3 (some .boolean) 3 := ⟨k_1, k_414, by decide +kernel⟩
theorem S_X4_isBetween : Cond.static yX4_isBetween ∈ lw_tbl := k_413
theorem Y_X4_isIndex : gY yX4_isIndex cX4_isIndex 2 (some .boolean) 2 := ⟨k_1, k_249, by decide +kernel⟩
theorem S_X4_isIndex : Cond.static yX4_isIndex ∈ lw_tbl := k_248
theorem Y_X4_keepDeed : gY yX4_keepDeed cX4_keepDeed 2 (some .int) 1 := ⟨k_1, k_754, by decide +kernel⟩
theorem I_X4_keepDeed : Cond.instanceMethod yX4_keepDeed ∈ lw_tbl := k_753
theorem V_X4_keepDeed : Cond.selects yX4_keepDeed.cls yX4_keepDeed yX4_keepDeed ∈ lw_tbl := ks_16
theorem Y_X4_keepPower : gY yX4_keepPower cX4_keepPower 3 (some .int) 2 := ⟨k_1, k_473, by decide +kernel⟩
theorem I_X4_keepPower : Cond.instanceMethod yX4_keepPower ∈ lw_tbl := k_472
theorem V_X4_keepPower : Cond.selects yX4_keepPower.cls yX4_keepPower yX4_keepPower ∈ lw_tbl := ks_8
theorem Y_X4_lack : gY yX4_lack cX4_lack 3 (some .char) 1 := ⟨k_1, k_943, by decide +kernel⟩
theorem I_X4_lack : Cond.instanceMethod yX4_lack ∈ lw_tbl := k_941
theorem V_X4_lack : Cond.selects yX4_lack.cls yX4_lack yX4_lack ∈ lw_tbl := k_942
theorem Y_X4_lackDepth : gY yX4_lackDepth cX4_lackDepth 3 (some .int) 1 := ⟨k_1, k_962, by decide +kernel⟩
theorem I_X4_lackDepth : Cond.instanceMethod yX4_lackDepth ∈ lw_tbl := k_960
theorem V_X4_lackDepth : Cond.selects yX4_lackDepth.cls yX4_lackDepth yX4_lackDepth ∈ lw_tbl := k_961
theorem Y_X4_lackPower : gY yX4_lackPower cX4_lackPower 3 (some .int) 1 := ⟨k_1, k_951, by decide +kernel⟩
theorem I_X4_lackPower : Cond.instanceMethod yX4_lackPower ∈ lw_tbl := k_949
theorem V_X4_lackPower : Cond.selects yX4_lackPower.cls yX4_lackPower yX4_lackPower ∈ lw_tbl := k_950
theorem Y_X4_leave : gY yX4_leave cX4_leave 4 (some .int) 2 := ⟨k_1, k_242, by decide +kernel⟩
theorem I_X4_leave : Cond.instanceMethod yX4_leave ∈ lw_tbl := k_240
theorem V_X4_leave : Cond.selects yX4_leave.cls yX4_leave yX4_leave ∈ lw_tbl := k_241
theorem Y_X4_limit : gY yX4_limit cX4_limit 2 (some .int) 1 := ⟨k_1, k_548, by decide +kernel⟩
theorem I_X4_limit : Cond.instanceMethod yX4_limit ∈ lw_tbl := k_546
theorem V_X4_limit : Cond.selects yX4_limit.cls yX4_limit yX4_limit ∈ lw_tbl := k_547
theorem Y_X4_lookBack : gY yX4_lookBack cX4_lookBack 4 none 2 := ⟨k_1, k_921, by decide +kernel⟩
theorem I_X4_lookBack : Cond.instanceMethod yX4_lookBack ∈ lw_tbl := k_920
theorem V_X4_lookBack : Cond.selects yX4_lookBack.cls yX4_lookBack yX4_lookBack ∈ lw_tbl := ks_24
theorem Y_X4_lower : gY yX4_lower cX4_lower 5 (some .int) 2 := ⟨k_1, k_518, by decide +kernel⟩
theorem I_X4_lower : Cond.instanceMethod yX4_lower ∈ lw_tbl := k_516
theorem V_X4_lower : Cond.selects yX4_lower.cls yX4_lower yX4_lower ∈ lw_tbl := k_517
theorem Y_X4_noteLack : gY yX4_noteLack cX4_noteLack 5 none 2 := ⟨k_1, k_778, by decide +kernel⟩
theorem I_X4_noteLack : Cond.instanceMethod yX4_noteLack ∈ lw_tbl := k_777
theorem V_X4_noteLack : Cond.selects yX4_noteLack.cls yX4_noteLack yX4_noteLack ∈ lw_tbl := ks_21
theorem Y_X4_pairs : gY yX4_pairs cX4_pairs 9 (some .int) 2 := ⟨k_1, k_658, by decide +kernel⟩
theorem I_X4_pairs : Cond.instanceMethod yX4_pairs ∈ lw_tbl := k_656
theorem V_X4_pairs : Cond.selects yX4_pairs.cls yX4_pairs yX4_pairs ∈ lw_tbl := k_657
theorem Y_X4_pairsAmong : gY yX4_pairsAmong cX4_pairsAmong 1 (some .int) 1 := ⟨k_1, k_661, by decide +kernel⟩
theorem S_X4_pairsAmong : Cond.static yX4_pairsAmong ∈ lw_tbl := k_660
theorem Y_X4_pairsByTrying : gY yX4_pairsByTrying cX4_pairsByTrying 6 (some .int) 2 := ⟨k_1, k_668, by decide +kernel⟩
theorem I_X4_pairsByTrying : Cond.instanceMethod yX4_pairsByTrying ∈ lw_tbl := k_666
theorem V_X4_pairsByTrying : Cond.selects yX4_pairsByTrying.cls yX4_pairsByTrying yX4_pairsByTrying ∈ lw_tbl := k_667
theorem Y_X4_pass : gY yX4_pass cX4_pass 2 (some .int) 1 := ⟨k_1, k_980, by decide +kernel⟩
theorem I_X4_pass : Cond.instanceMethod yX4_pass ∈ lw_tbl := k_978
theorem V_X4_pass : Cond.selects yX4_pass.cls yX4_pass yX4_pass ∈ lw_tbl := k_979
theorem Y_X4_ratify : gY yX4_ratify cX4_ratify 4 (some .int) 2 := ⟨k_1, k_875, by decide +kernel⟩
theorem I_X4_ratify : Cond.instanceMethod yX4_ratify ∈ lw_tbl := k_873
theorem V_X4_ratify : Cond.selects yX4_ratify.cls yX4_ratify yX4_ratify ∈ lw_tbl := k_874
theorem Y_X4_reach : gY yX4_reach cX4_reach 2 (some .int) 1 := ⟨k_1, k_605, by decide +kernel⟩
theorem I_X4_reach : Cond.instanceMethod yX4_reach ∈ lw_tbl := k_603
theorem V_X4_reach : Cond.selects yX4_reach.cls yX4_reach yX4_reach ∈ lw_tbl := k_604
theorem Y_X4_requireDayCount : gY yX4_requireDayCount cX4_requireDayCount 1 none 1 := ⟨k_1, k_972, by decide +kernel⟩
theorem S_X4_requireDayCount : Cond.static yX4_requireDayCount ∈ lw_tbl := k_971
theorem Y_X4_requireDealing : gY yX4_requireDealing cX4_requireDealing 3 none 3 := ⟨k_1, k_678, by decide +kernel⟩
theorem S_X4_requireDealing : Cond.static yX4_requireDealing ∈ lw_tbl := k_677
theorem Y_X4_requireKind : gY yX4_requireKind cX4_requireKind 1 none 1 := ⟨k_1, k_411, by decide +kernel⟩
theorem S_X4_requireKind : Cond.static yX4_requireKind ∈ lw_tbl := k_410
theorem Y_X4_requireLackingPower : gY yX4_requireLackingPower cX4_requireLackingPower 1 none 1 := ⟨k_1, k_954, by decide +kernel⟩
theorem S_X4_requireLackingPower : Cond.static yX4_requireLackingPower ∈ lw_tbl := k_953
theorem Y_X4_requireLimitAndDays : gY yX4_requireLimitAndDays cX4_requireLimitAndDays 3 none 3 := ⟨k_1, k_422, by decide +kernel⟩
theorem S_X4_requireLimitAndDays : Cond.static yX4_requireLimitAndDays ∈ lw_tbl := k_421
theorem Y_X4_requirePerson : gY yX4_requirePerson cX4_requirePerson 2 none 1 := ⟨k_1, k_246, by decide +kernel⟩
theorem I_X4_requirePerson : Cond.instanceMethod yX4_requirePerson ∈ lw_tbl := k_245
theorem V_X4_requirePerson : Cond.selects yX4_requirePerson.cls yX4_requirePerson yX4_requirePerson ∈ lw_tbl := ks_1
theorem Y_X4_requireRoomForDeed : gY yX4_requireRoomForDeed cX4_requireRoomForDeed 1 none 0 := ⟨k_1, k_684, by decide +kernel⟩
theorem I_X4_requireRoomForDeed : Cond.instanceMethod yX4_requireRoomForDeed ∈ lw_tbl := k_683
theorem V_X4_requireRoomForDeed : Cond.selects yX4_requireRoomForDeed.cls yX4_requireRoomForDeed yX4_requireRoomForDeed ∈ lw_tbl := ks_15
theorem Y_X4_requireRoomForPower : gY yX4_requireRoomForPower cX4_requireRoomForPower 1 none 0 := ⟨k_1, k_429, by decide +kernel⟩
theorem I_X4_requireRoomForPower : Cond.instanceMethod yX4_requireRoomForPower ∈ lw_tbl := k_428
theorem V_X4_requireRoomForPower : Cond.selects yX4_requireRoomForPower.cls yX4_requireRoomForPower yX4_requireRoomForPower ∈ lw_tbl := ks_7
theorem Y_X4_requireSum : gY yX4_requireSum cX4_requireSum 1 none 1 := ⟨k_1, k_558, by decide +kernel⟩
theorem S_X4_requireSum : Cond.static yX4_requireSum ∈ lw_tbl := k_557
theorem Y_X4_requireTwo : gY yX4_requireTwo cX4_requireTwo 2 none 2 := ⟨k_1, k_639, by decide +kernel⟩
theorem S_X4_requireTwo : Cond.static yX4_requireTwo ∈ lw_tbl := k_638
theorem Y_X4_requireWaiting : gY yX4_requireWaiting cX4_requireWaiting 1 none 1 := ⟨k_1, k_883, by decide +kernel⟩
theorem S_X4_requireWaiting : Cond.static yX4_requireWaiting ∈ lw_tbl := k_882
theorem Y_X4_revoke : gY yX4_revoke cX4_revoke 3 (some .int) 1 := ⟨k_1, k_526, by decide +kernel⟩
theorem I_X4_revoke : Cond.instanceMethod yX4_revoke ∈ lw_tbl := k_524
theorem V_X4_revoke : Cond.selects yX4_revoke.cls yX4_revoke yX4_revoke ∈ lw_tbl := k_525
theorem Y_X4_setWindow : gY yX4_setWindow cX4_setWindow 3 (some .int) 1 := ⟨k_1, k_969, by decide +kernel⟩
theorem I_X4_setWindow : Cond.instanceMethod yX4_setWindow ∈ lw_tbl := k_967
theorem V_X4_setWindow : Cond.selects yX4_setWindow.cls yX4_setWindow yX4_setWindow ∈ lw_tbl := k_968
theorem Y_X4_sign : gY yX4_sign cX4_sign 5 (some .int) 4 := ⟨k_1, k_675, by decide +kernel⟩
theorem I_X4_sign : Cond.instanceMethod yX4_sign ∈ lw_tbl := k_673
theorem V_X4_sign : Cond.selects yX4_sign.cls yX4_sign yX4_sign ∈ lw_tbl := k_674
theorem Y_X4_signTogether : gY yX4_signTogether cX4_signTogether 6 (some .int) 5 := ⟨k_1, k_868, by decide +kernel⟩
theorem I_X4_signTogether : Cond.instanceMethod yX4_signTogether ∈ lw_tbl := k_866
theorem V_X4_signTogether : Cond.selects yX4_signTogether.cls yX4_signTogether yX4_signTogether ∈ lw_tbl := k_867
theorem Y_X4_signTwo : gY yX4_signTwo cX4_signTwo 5 (some .boolean) 4 := ⟨k_1, k_644, by decide +kernel⟩
theorem I_X4_signTwo : Cond.instanceMethod yX4_signTwo ∈ lw_tbl := k_643
theorem V_X4_signTwo : Cond.selects yX4_signTwo.cls yX4_signTwo yX4_signTwo ∈ lw_tbl := ks_14
theorem Y_X4_signers : gY yX4_signers cX4_signers 5 (some .int) 2 := ⟨k_1, k_651, by decide +kernel⟩
theorem I_X4_signers : Cond.instanceMethod yX4_signers ∈ lw_tbl := k_649
theorem V_X4_signers : Cond.selects yX4_signers.cls yX4_signers yX4_signers ∈ lw_tbl := k_650
theorem Y_X4_signersActBy : gY yX4_signersActBy cX4_signersActBy 3 (some .boolean) 2 := ⟨k_1, k_774, by decide +kernel⟩
theorem I_X4_signersActBy : Cond.instanceMethod yX4_signersActBy ∈ lw_tbl := k_773
theorem V_X4_signersActBy : Cond.selects yX4_signersActBy.cls yX4_signersActBy yX4_signersActBy ∈ lw_tbl := ks_20
theorem Y_X4_signersSuffice : gY yX4_signersSuffice cX4_signersSuffice 6 (some .boolean) 3 := ⟨k_1, k_766, by decide +kernel⟩
theorem I_X4_signersSuffice : Cond.instanceMethod yX4_signersSuffice ∈ lw_tbl := k_765
theorem V_X4_signersSuffice : Cond.selects yX4_signersSuffice.cls yX4_signersSuffice yX4_signersSuffice ∈ lw_tbl := ks_18
theorem Y_X4_signsAlone : gY yX4_signsAlone cX4_signsAlone 5 (some .boolean) 4 := ⟨k_1, k_622, by decide +kernel⟩
theorem I_X4_signsAlone : Cond.instanceMethod yX4_signsAlone ∈ lw_tbl := k_621
theorem V_X4_signsAlone : Cond.selects yX4_signsAlone.cls yX4_signsAlone yX4_signsAlone ∈ lw_tbl := ks_12
theorem Y_X4_source : gY yX4_source cX4_source 3 (some .int) 1 := ⟨k_1, k_541, by decide +kernel⟩
theorem I_X4_source : Cond.instanceMethod yX4_source ∈ lw_tbl := k_539
theorem V_X4_source : Cond.selects yX4_source.cls yX4_source yX4_source ∈ lw_tbl := k_540
theorem Y_X4_standingShare : gY yX4_standingShare cX4_standingShare 4 (some .float) 0 := ⟨k_1, k_988, by decide +kernel⟩
theorem I_X4_standingShare : Cond.instanceMethod yX4_standingShare ∈ lw_tbl := k_986
theorem V_X4_standingShare : Cond.selects yX4_standingShare.cls yX4_standingShare yX4_standingShare ∈ lw_tbl := k_987
theorem Y_X4_stands : gY yX4_stands cX4_stands 2 (some .boolean) 1 := ⟨k_1, k_929, by decide +kernel⟩
theorem I_X4_stands : Cond.instanceMethod yX4_stands ∈ lw_tbl := k_927
theorem V_X4_stands : Cond.selects yX4_stands.cls yX4_stands yX4_stands ∈ lw_tbl := k_928
theorem Y_X4_standsByPapers : gY yX4_standsByPapers cX4_standsByPapers 4 (some .boolean) 1 := ⟨k_1, k_936, by decide +kernel⟩
theorem I_X4_standsByPapers : Cond.instanceMethod yX4_standsByPapers ∈ lw_tbl := k_934
theorem V_X4_standsByPapers : Cond.selects yX4_standsByPapers.cls yX4_standsByPapers yX4_standsByPapers ∈ lw_tbl := k_935
theorem Y_X4_status : gY yX4_status cX4_status 2 (some .char) 1 := ⟨k_1, k_903, by decide +kernel⟩
theorem I_X4_status : Cond.instanceMethod yX4_status ∈ lw_tbl := k_901
theorem V_X4_status : Cond.selects yX4_status.cls yX4_status yX4_status ∈ lw_tbl := k_902
theorem Y_X4_substituteOrNone : gY yX4_substituteOrNone cX4_substituteOrNone 3 (some .int) 1 := ⟨k_1, k_285, by decide +kernel⟩
theorem I_X4_substituteOrNone : Cond.instanceMethod yX4_substituteOrNone ∈ lw_tbl := k_284
theorem V_X4_substituteOrNone : Cond.selects yX4_substituteOrNone.cls yX4_substituteOrNone yX4_substituteOrNone ∈ lw_tbl := ks_2
theorem Y_X4_suffice : gY yX4_suffice cX4_suffice 2 (some .boolean) 2 := ⟨k_1, k_629, by decide +kernel⟩
theorem S_X4_suffice : Cond.static yX4_suffice ∈ lw_tbl := k_628
theorem Y_X4_sum : gY yX4_sum cX4_sum 2 (some .int) 1 := ⟨k_1, k_910, by decide +kernel⟩
theorem I_X4_sum : Cond.instanceMethod yX4_sum ∈ lw_tbl := k_908
theorem V_X4_sum : Cond.selects yX4_sum.cls yX4_sum yX4_sum ∈ lw_tbl := k_909
theorem Y_X4_sumByPapers : gY yX4_sumByPapers cX4_sumByPapers 3 (some .int) 1 := ⟨k_1, k_917, by decide +kernel⟩
theorem I_X4_sumByPapers : Cond.instanceMethod yX4_sumByPapers ∈ lw_tbl := k_915
theorem V_X4_sumByPapers : Cond.selects yX4_sumByPapers.cls yX4_sumByPapers yX4_sumByPapers ∈ lw_tbl := k_916
theorem Y_X4_tell : gY yX4_tell cX4_tell 5 none 3 := ⟨k_1, k_294, by decide +kernel⟩
theorem I_X4_tell : Cond.instanceMethod yX4_tell ∈ lw_tbl := k_293
theorem V_X4_tell : Cond.selects yX4_tell.cls yX4_tell yX4_tell ∈ lw_tbl := ks_3
theorem Y_X4_today : gY yX4_today cX4_today 1 (some .int) 0 := ⟨k_1, k_117, by decide +kernel⟩
theorem I_X4_today : Cond.instanceMethod yX4_today ∈ lw_tbl := k_115
theorem V_X4_today : Cond.selects yX4_today.cls yX4_today yX4_today ∈ lw_tbl := k_116
theorem Y_X5_acts : gY yX5_acts cX5_acts 3 (some .boolean) 2 := ⟨k_6, k_1110, by decide +kernel⟩
theorem I_X5_acts : Cond.instanceMethod yX5_acts ∈ lw_tbl := k_1109
theorem V_X5_acts : Cond.selects yX5_acts.cls yX5_acts yX5_acts ∈ lw_tbl := ks_27
theorem Y_X5_actsFor : gY yX5_actsFor cX5_actsFor 3 (some .boolean) 2 := ⟨k_6, k_1106, by decide +kernel⟩
theorem I_X5_actsFor : Cond.instanceMethod yX5_actsFor ∈ lw_tbl := k_1104
theorem V_X5_actsFor : Cond.selects yX5_actsFor.cls yX5_actsFor yX5_actsFor ∈ lw_tbl := k_1105
theorem Y_X5_addPerson : gY yX5_addPerson cX5_addPerson 1 (some .int) 0 := ⟨k_6, k_1083, by decide +kernel⟩
theorem I_X5_addPerson : Cond.instanceMethod yX5_addPerson ∈ lw_tbl := k_1081
theorem V_X5_addPerson : Cond.selects yX5_addPerson.cls yX5_addPerson yX5_addPerson ∈ lw_tbl := k_1082
theorem Y_X5_added : gY yX5_added cX5_added 6 (some .int) 3 := ⟨k_6, k_1220, by decide +kernel⟩
theorem I_X5_added : Cond.instanceMethod yX5_added ∈ lw_tbl := k_1219
theorem V_X5_added : Cond.selects yX5_added.cls yX5_added yX5_added ∈ lw_tbl := ks_38
theorem Y_X5_adds : gY yX5_adds cX5_adds 8 (some .int) 7 := ⟨k_6, k_1122, by decide +kernel⟩
theorem I_X5_adds : Cond.instanceMethod yX5_adds ∈ lw_tbl := k_1121
theorem V_X5_adds : Cond.selects yX5_adds.cls yX5_adds yX5_adds ∈ lw_tbl := ks_28
theorem Y_X5_annul : gY yX5_annul cX5_annul 4 (some .int) 1 := ⟨k_6, k_1239, by decide +kernel⟩
theorem I_X5_annul : Cond.instanceMethod yX5_annul ∈ lw_tbl := k_1237
theorem V_X5_annul : Cond.selects yX5_annul.cls yX5_annul yX5_annul ∈ lw_tbl := k_1238
theorem Y_X5_bound : gY yX5_bound cX5_bound 4 (some .long) 0 := ⟨k_6, k_1297, by decide +kernel⟩
theorem I_X5_bound : Cond.instanceMethod yX5_bound ∈ lw_tbl := k_1295
theorem V_X5_bound : Cond.selects yX5_bound.cls yX5_bound yX5_bound ∈ lw_tbl := k_1296
theorem Y_X5_canSign : gY yX5_canSign cX5_canSign 4 (some .boolean) 3 := ⟨k_6, k_1175, by decide +kernel⟩
theorem I_X5_canSign : Cond.instanceMethod yX5_canSign ∈ lw_tbl := k_1173
theorem V_X5_canSign : Cond.selects yX5_canSign.cls yX5_canSign yX5_canSign ∈ lw_tbl := k_1174
theorem Y_X5_canSignTogether : gY yX5_canSignTogether cX5_canSignTogether 5 (some .boolean) 4 := ⟨k_6, k_1187, by decide +kernel⟩
theorem I_X5_canSignTogether : Cond.instanceMethod yX5_canSignTogether ∈ lw_tbl := k_1185
theorem V_X5_canSignTogether : Cond.selects yX5_canSignTogether.cls yX5_canSignTogether yX5_canSignTogether ∈ lw_tbl := k_1186
theorem Y_X5_canTogether : gY yX5_canTogether cX5_canTogether 6 (some .boolean) 4 := ⟨k_6, k_1191, by decide +kernel⟩
theorem I_X5_canTogether : Cond.instanceMethod yX5_canTogether ∈ lw_tbl := k_1190
theorem V_X5_canTogether : Cond.selects yX5_canTogether.cls yX5_canTogether yX5_canTogether ∈ lw_tbl := ks_35
theorem Y_X5_comeBack : gY yX5_comeBack cX5_comeBack 3 (some .int) 1 := ⟨k_6, k_1102, by decide +kernel⟩
theorem I_X5_comeBack : Cond.instanceMethod yX5_comeBack ∈ lw_tbl := k_1100
theorem V_X5_comeBack : Cond.selects yX5_comeBack.cls yX5_comeBack yX5_comeBack ∈ lw_tbl := k_1101
theorem Y_X5_comesFrom : gY yX5_comesFrom cX5_comesFrom 3 (some .boolean) 2 := ⟨k_6, k_1142, by decide +kernel⟩
theorem I_X5_comesFrom : Cond.instanceMethod yX5_comesFrom ∈ lw_tbl := k_1141
theorem V_X5_comesFrom : Cond.selects yX5_comesFrom.cls yX5_comesFrom yX5_comesFrom ∈ lw_tbl := ks_30
theorem Y_X5_delegate : gY yX5_delegate cX5_delegate 7 (some .int) 5 := ⟨k_6, k_1126, by decide +kernel⟩
theorem I_X5_delegate : Cond.instanceMethod yX5_delegate ∈ lw_tbl := k_1124
theorem V_X5_delegate : Cond.selects yX5_delegate.cls yX5_delegate yX5_delegate ∈ lw_tbl := k_1125
theorem Y_X5_fault : gY yX5_fault cX5_fault 3 (some .char) 2 := ⟨k_6, k_1154, by decide +kernel⟩
theorem I_X5_fault : Cond.instanceMethod yX5_fault ∈ lw_tbl := k_1152
theorem V_X5_fault : Cond.selects yX5_fault.cls yX5_fault yX5_fault ∈ lw_tbl := k_1153
theorem Y_X5_faultDepth : gY yX5_faultDepth cX5_faultDepth 3 (some .int) 2 := ⟨k_6, k_1166, by decide +kernel⟩
theorem I_X5_faultDepth : Cond.instanceMethod yX5_faultDepth ∈ lw_tbl := k_1164
theorem V_X5_faultDepth : Cond.selects yX5_faultDepth.cls yX5_faultDepth yX5_faultDepth ∈ lw_tbl := k_1165
theorem Y_X5_faulty : gY yX5_faulty cX5_faulty 4 (some .char) 2 := ⟨k_6, k_1162, by decide +kernel⟩
theorem I_X5_faulty : Cond.instanceMethod yX5_faulty ∈ lw_tbl := k_1161
theorem V_X5_faulty : Cond.selects yX5_faulty.cls yX5_faulty yX5_faulty ∈ lw_tbl := ks_32
theorem Y_X5_grant : gY yX5_grant cX5_grant 8 (some .int) 6 := ⟨k_6, k_1114, by decide +kernel⟩
theorem I_X5_grant : Cond.instanceMethod yX5_grant ∈ lw_tbl := k_1112
theorem V_X5_grant : Cond.selects yX5_grant.cls yX5_grant yX5_grant ∈ lw_tbl := k_1113
theorem Y_X5_has : gY yX5_has cX5_has 7 (some .boolean) 4 := ⟨k_6, k_1183, by decide +kernel⟩
theorem I_X5_has : Cond.instanceMethod yX5_has ∈ lw_tbl := k_1182
theorem V_X5_has : Cond.selects yX5_has.cls yX5_has yX5_has ∈ lw_tbl := ks_34
theorem Y_X5_init : gY yX5_init cX5_init 1 none 0 := ⟨k_6, k_994, by decide +kernel⟩
theorem I_X5_init : Cond.instanceMethod yX5_init ∈ lw_tbl := k_993
theorem Y_X5_isGood : gY yX5_isGood cX5_isGood 2 (some .boolean) 1 := ⟨k_6, k_1264, by decide +kernel⟩
theorem I_X5_isGood : Cond.instanceMethod yX5_isGood ∈ lw_tbl := k_1263
theorem V_X5_isGood : Cond.selects yX5_isGood.cls yX5_isGood yX5_isGood ∈ lw_tbl := ks_41
theorem Y_X5_isIn : gY yX5_isIn cX5_isIn 3 (some .boolean) 3 := ⟨k_6, k_1098, by decide +kernel⟩
theorem S_X5_isIn : Cond.static yX5_isIn ∈ lw_tbl := k_1097
theorem Y_X5_isNoAsk : gY yX5_isNoAsk cX5_isNoAsk 4 (some .boolean) 3 := ⟨k_6, k_1179, by decide +kernel⟩
theorem I_X5_isNoAsk : Cond.instanceMethod yX5_isNoAsk ∈ lw_tbl := k_1178
theorem V_X5_isNoAsk : Cond.selects yX5_isNoAsk.cls yX5_isNoAsk yX5_isNoAsk ∈ lw_tbl := ks_33
theorem Y_X5_isNoDeed : gY yX5_isNoDeed cX5_isNoDeed 2 (some .boolean) 1 := ⟨k_6, k_1243, by decide +kernel⟩
theorem I_X5_isNoDeed : Cond.instanceMethod yX5_isNoDeed ∈ lw_tbl := k_1242
theorem V_X5_isNoDeed : Cond.selects yX5_isNoDeed.cls yX5_isNoDeed yX5_isNoDeed ∈ lw_tbl := ks_40
theorem Y_X5_isNoDeed_ : gY yX5_isNoDeed_ cX5_isNoDeed_ 4 (some .boolean) 3 := ⟨k_6, k_1212, by decide +kernel⟩
theorem I_X5_isNoDeed_ : Cond.instanceMethod yX5_isNoDeed_ ∈ lw_tbl := k_1211
theorem V_X5_isNoDeed_ : Cond.selects yX5_isNoDeed_.cls yX5_isNoDeed_ yX5_isNoDeed_ ∈ lw_tbl := ks_36
theorem Y_X5_isNoPower : gY yX5_isNoPower cX5_isNoPower 2 (some .boolean) 1 := ⟨k_6, k_1134, by decide +kernel⟩
theorem I_X5_isNoPower : Cond.instanceMethod yX5_isNoPower ∈ lw_tbl := k_1133
theorem V_X5_isNoPower : Cond.selects yX5_isNoPower.cls yX5_isNoPower yX5_isNoPower ∈ lw_tbl := ks_29
theorem Y_X5_isNoSum : gY yX5_isNoSum cX5_isNoSum 3 (some .boolean) 2 := ⟨k_6, k_1158, by decide +kernel⟩
theorem I_X5_isNoSum : Cond.instanceMethod yX5_isNoSum ∈ lw_tbl := k_1157
theorem V_X5_isNoSum : Cond.selects yX5_isNoSum.cls yX5_isNoSum yX5_isNoSum ∈ lw_tbl := ks_31
theorem Y_X5_isNobody : gY yX5_isNobody cX5_isNobody 2 (some .boolean) 1 := ⟨k_6, k_1095, by decide +kernel⟩
theorem I_X5_isNobody : Cond.instanceMethod yX5_isNobody ∈ lw_tbl := k_1094
theorem V_X5_isNobody : Cond.selects yX5_isNobody.cls yX5_isNobody yX5_isNobody ∈ lw_tbl := ks_26
theorem Y_X5_isPower : gY yX5_isPower cX5_isPower 3 (some .boolean) 3 := ⟨k_6, k_1117, by decide +kernel⟩
theorem S_X5_isPower : Cond.static yX5_isPower ∈ lw_tbl := k_1116
theorem Y_X5_isThrown : gY yX5_isThrown cX5_isThrown 3 (some .boolean) 2 := ⟨k_6, k_1087, by decide +kernel⟩
theorem I_X5_isThrown : Cond.instanceMethod yX5_isThrown ∈ lw_tbl := k_1086
theorem V_X5_isThrown : Cond.selects yX5_isThrown.cls yX5_isThrown yX5_isThrown ∈ lw_tbl := ks_25
theorem Y_X5_lack : gY yX5_lack cX5_lack 2 (some .char) 1 := ⟨k_6, k_1273, by decide +kernel⟩
theorem I_X5_lack : Cond.instanceMethod yX5_lack ∈ lw_tbl := k_1271
theorem V_X5_lack : Cond.selects yX5_lack.cls yX5_lack yX5_lack ∈ lw_tbl := k_1272
theorem Y_X5_lackDepth : gY yX5_lackDepth cX5_lackDepth 2 (some .int) 1 := ⟨k_6, k_1281, by decide +kernel⟩
theorem I_X5_lackDepth : Cond.instanceMethod yX5_lackDepth ∈ lw_tbl := k_1279
theorem V_X5_lackDepth : Cond.selects yX5_lackDepth.cls yX5_lackDepth yX5_lackDepth ∈ lw_tbl := k_1280
theorem Y_X5_lackPower : gY yX5_lackPower cX5_lackPower 2 (some .int) 1 := ⟨k_6, k_1277, by decide +kernel⟩
theorem I_X5_lackPower : Cond.instanceMethod yX5_lackPower ∈ lw_tbl := k_1275
theorem V_X5_lackPower : Cond.selects yX5_lackPower.cls yX5_lackPower yX5_lackPower ∈ lw_tbl := k_1276
theorem Y_X5_lacks : gY yX5_lacks cX5_lacks 7 none 3 := ⟨k_6, k_1224, by decide +kernel⟩
theorem I_X5_lacks : Cond.instanceMethod yX5_lacks ∈ lw_tbl := k_1223
theorem V_X5_lacks : Cond.selects yX5_lacks.cls yX5_lacks yX5_lacks ∈ lw_tbl := ks_39
theorem Y_X5_leave : gY yX5_leave cX5_leave 4 (some .int) 2 := ⟨k_6, k_1091, by decide +kernel⟩
theorem I_X5_leave : Cond.instanceMethod yX5_leave ∈ lw_tbl := k_1089
theorem V_X5_leave : Cond.selects yX5_leave.cls yX5_leave yX5_leave ∈ lw_tbl := k_1090
theorem Y_X5_limit : gY yX5_limit cX5_limit 2 (some .int) 1 := ⟨k_6, k_1150, by decide +kernel⟩
theorem I_X5_limit : Cond.instanceMethod yX5_limit ∈ lw_tbl := k_1148
theorem V_X5_limit : Cond.selects yX5_limit.cls yX5_limit yX5_limit ∈ lw_tbl := k_1149
theorem Y_X5_lower : gY yX5_lower cX5_lower 4 (some .int) 2 := ⟨k_6, k_1130, by decide +kernel⟩
theorem I_X5_lower : Cond.instanceMethod yX5_lower ∈ lw_tbl := k_1128
theorem V_X5_lower : Cond.selects yX5_lower.cls yX5_lower yX5_lower ∈ lw_tbl := k_1129
theorem Y_X5_order : gY yX5_order cX5_order 1 (some .int) 1 := ⟨k_6, k_1227, by decide +kernel⟩
theorem S_X5_order : Cond.static yX5_order ∈ lw_tbl := k_1226
theorem Y_X5_pairs : gY yX5_pairs cX5_pairs 6 (some .int) 2 := ⟨k_6, k_1199, by decide +kernel⟩
theorem I_X5_pairs : Cond.instanceMethod yX5_pairs ∈ lw_tbl := k_1197
theorem V_X5_pairs : Cond.selects yX5_pairs.cls yX5_pairs yX5_pairs ∈ lw_tbl := k_1198
theorem Y_X5_pairsByTrying : gY yX5_pairsByTrying cX5_pairsByTrying 3 (some .int) 2 := ⟨k_6, k_1203, by decide +kernel⟩
theorem I_X5_pairsByTrying : Cond.instanceMethod yX5_pairsByTrying ∈ lw_tbl := k_1201
theorem V_X5_pairsByTrying : Cond.selects yX5_pairsByTrying.cls yX5_pairsByTrying yX5_pairsByTrying ∈ lw_tbl := k_1202
theorem Y_X5_pass : gY yX5_pass cX5_pass 2 (some .int) 1 := ⟨k_6, k_1289, by decide +kernel⟩
theorem I_X5_pass : Cond.instanceMethod yX5_pass ∈ lw_tbl := k_1287
theorem V_X5_pass : Cond.selects yX5_pass.cls yX5_pass yX5_pass ∈ lw_tbl := k_1288
theorem Y_X5_ratify : gY yX5_ratify cX5_ratify 3 (some .int) 2 := ⟨k_6, k_1235, by decide +kernel⟩
theorem I_X5_ratify : Cond.instanceMethod yX5_ratify ∈ lw_tbl := k_1233
theorem V_X5_ratify : Cond.selects yX5_ratify.cls yX5_ratify yX5_ratify ∈ lw_tbl := k_1234
theorem Y_X5_reach : gY yX5_reach cX5_reach 4 (some .int) 1 := ⟨k_6, k_1170, by decide +kernel⟩
theorem I_X5_reach : Cond.instanceMethod yX5_reach ∈ lw_tbl := k_1168
theorem V_X5_reach : Cond.selects yX5_reach.cls yX5_reach yX5_reach ∈ lw_tbl := k_1169
theorem Y_X5_revoke : gY yX5_revoke cX5_revoke 4 (some .int) 1 := ⟨k_6, k_1138, by decide +kernel⟩
theorem I_X5_revoke : Cond.instanceMethod yX5_revoke ∈ lw_tbl := k_1136
theorem V_X5_revoke : Cond.selects yX5_revoke.cls yX5_revoke yX5_revoke ∈ lw_tbl := k_1137
theorem Y_X5_setWindow : gY yX5_setWindow cX5_setWindow 3 (some .int) 1 := ⟨k_6, k_1285, by decide +kernel⟩
theorem I_X5_setWindow : Cond.instanceMethod yX5_setWindow ∈ lw_tbl := k_1283
theorem V_X5_setWindow : Cond.selects yX5_setWindow.cls yX5_setWindow yX5_setWindow ∈ lw_tbl := k_1284
theorem Y_X5_sign : gY yX5_sign cX5_sign 5 (some .int) 4 := ⟨k_6, k_1208, by decide +kernel⟩
theorem I_X5_sign : Cond.instanceMethod yX5_sign ∈ lw_tbl := k_1206
theorem V_X5_sign : Cond.selects yX5_sign.cls yX5_sign yX5_sign ∈ lw_tbl := k_1207
theorem Y_X5_signTogether : gY yX5_signTogether cX5_signTogether 6 (some .int) 5 := ⟨k_6, k_1231, by decide +kernel⟩
theorem I_X5_signTogether : Cond.instanceMethod yX5_signTogether ∈ lw_tbl := k_1229
theorem V_X5_signTogether : Cond.selects yX5_signTogether.cls yX5_signTogether yX5_signTogether ∈ lw_tbl := k_1230
theorem Y_X5_signed : gY yX5_signed cX5_signed 8 (some .int) 5 := ⟨k_6, k_1216, by decide +kernel⟩
theorem I_X5_signed : Cond.instanceMethod yX5_signed ∈ lw_tbl := k_1215
theorem V_X5_signed : Cond.selects yX5_signed.cls yX5_signed yX5_signed ∈ lw_tbl := ks_37
theorem Y_X5_signers : gY yX5_signers cX5_signers 5 (some .int) 2 := ⟨k_6, k_1195, by decide +kernel⟩
theorem I_X5_signers : Cond.instanceMethod yX5_signers ∈ lw_tbl := k_1193
theorem V_X5_signers : Cond.selects yX5_signers.cls yX5_signers yX5_signers ∈ lw_tbl := k_1194
theorem Y_X5_source : gY yX5_source cX5_source 2 (some .int) 1 := ⟨k_6, k_1146, by decide +kernel⟩
theorem I_X5_source : Cond.instanceMethod yX5_source ∈ lw_tbl := k_1144
theorem V_X5_source : Cond.selects yX5_source.cls yX5_source yX5_source ∈ lw_tbl := k_1145
theorem Y_X5_standingShare : gY yX5_standingShare cX5_standingShare 3 (some .float) 0 := ⟨k_6, k_1301, by decide +kernel⟩
theorem I_X5_standingShare : Cond.instanceMethod yX5_standingShare ∈ lw_tbl := k_1299
theorem V_X5_standingShare : Cond.selects yX5_standingShare.cls yX5_standingShare yX5_standingShare ∈ lw_tbl := k_1300
theorem Y_X5_stands : gY yX5_stands cX5_stands 2 (some .boolean) 1 := ⟨k_6, k_1260, by decide +kernel⟩
theorem I_X5_stands : Cond.instanceMethod yX5_stands ∈ lw_tbl := k_1258
theorem V_X5_stands : Cond.selects yX5_stands.cls yX5_stands yX5_stands ∈ lw_tbl := k_1259
theorem Y_X5_standsByPapers : gY yX5_standsByPapers cX5_standsByPapers 2 (some .boolean) 1 := ⟨k_6, k_1268, by decide +kernel⟩
theorem I_X5_standsByPapers : Cond.instanceMethod yX5_standsByPapers ∈ lw_tbl := k_1266
theorem V_X5_standsByPapers : Cond.selects yX5_standsByPapers.cls yX5_standsByPapers yX5_standsByPapers ∈ lw_tbl := k_1267
theorem Y_X5_status : gY yX5_status cX5_status 2 (some .char) 1 := ⟨k_6, k_1247, by decide +kernel⟩
theorem I_X5_status : Cond.instanceMethod yX5_status ∈ lw_tbl := k_1245
theorem V_X5_status : Cond.selects yX5_status.cls yX5_status yX5_status ∈ lw_tbl := k_1246
theorem Y_X5_sum : gY yX5_sum cX5_sum 2 (some .int) 1 := ⟨k_6, k_1251, by decide +kernel⟩
theorem I_X5_sum : Cond.instanceMethod yX5_sum ∈ lw_tbl := k_1249
theorem V_X5_sum : Cond.selects yX5_sum.cls yX5_sum yX5_sum ∈ lw_tbl := k_1250
theorem Y_X5_sumByPapers : gY yX5_sumByPapers cX5_sumByPapers 2 (some .int) 1 := ⟨k_6, k_1255, by decide +kernel⟩
theorem I_X5_sumByPapers : Cond.instanceMethod yX5_sumByPapers ∈ lw_tbl := k_1253
theorem V_X5_sumByPapers : Cond.selects yX5_sumByPapers.cls yX5_sumByPapers yX5_sumByPapers ∈ lw_tbl := k_1254
theorem Y_X5_thrown : gY yX5_thrown cX5_thrown 1 (some .int) 0 := ⟨k_6, k_1079, by decide +kernel⟩
theorem I_X5_thrown : Cond.instanceMethod yX5_thrown ∈ lw_tbl := k_1077
theorem V_X5_thrown : Cond.selects yX5_thrown.cls yX5_thrown yX5_thrown ∈ lw_tbl := k_1078
theorem Y_X5_today : gY yX5_today cX5_today 1 (some .int) 0 := ⟨k_6, k_1293, by decide +kernel⟩
theorem I_X5_today : Cond.instanceMethod yX5_today ∈ lw_tbl := k_1291
theorem V_X5_today : Cond.selects yX5_today.cls yX5_today yX5_today ∈ lw_tbl := k_1292
