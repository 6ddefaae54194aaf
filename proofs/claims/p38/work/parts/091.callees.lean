/-! SMALL RULES, FACTS OF LETTERS -/
section SMALL
variable {p : Program} {l : Launch} {e : Env} {R : Room} {s : State} {m : MethodId} {args : Array Value} {below : List Frame} {meth : Method} {c : Code} {H : Heap} {locs : List Loc} {cells slots : Nat} {Q : State → Prop} {cc : ByteArray} {pc : Nat} {ls : Array Slot} {rest : List Value}
theorem g_iadd1 {x : Nat} (hexec : p.tables.exec = Jvm.exec) (hb : c.code = cc) (hdg : decode cc pc = .ok (.iadd, 1)) (kk : W p l e R s m args below meth c H locs cells slots Q (F0 m (pc + 1) ls (.int (nI (x + 1)) :: rest))) : W p l e R s m args below meth c H locs cells slots Q (F0 m pc ls (.int 1 :: .int (nI x) :: rest)) :=
  lv_iadd hexec hb hdg (by rw [nI_1]; exact kk)
theorem g_isub1 {x : Nat} (hexec : p.tables.exec = Jvm.exec) (hb : c.code = cc) (hdg : decode cc pc = .ok (.isub, 1)) (kk : W p l e R s m args below meth c H locs cells slots Q (F0 m (pc + 1) ls (.int (nI x) :: rest))) : W p l e R s m args below meth c H locs cells slots Q (F0 m pc ls (.int 1 :: .int (nI (x + 1)) :: rest)) :=
  lv_isub hexec hb hdg (by rw [nI_pred]; exact kk)
end SMALL
theorem nI_m2 (j : Nat) (h : j < 8) : nI j ≠ -2 := by
  intro q
  have := congrArg Int32.toInt q
  rw [nI_toInt (by omega)] at this
  have h2 : (-2 : Int32).toInt = -2 := by decide
  omega
theorem fOwn_is (v : F2) (td s : Int32) (p : Nat) : fOwn v td s p = 100 ∨ fOwn v td s p = 118 ∨ fOwn v td s p = 108 ∨ fOwn v td s p = 45 := by
  unfold fOwn
  split
  · split
    · exact Or.inr (Or.inl rfl)
    · split
      · exact Or.inr (Or.inr (Or.inl rfl))
      · exact Or.inr (Or.inr (Or.inr rfl))
  · exact Or.inl rfl
theorem fFl_is (v : F2) (td s : Int32) : ∀ n p, fFl v td s n p = 100 ∨ fFl v td s n p = 118 ∨ fFl v td s n p = 108 ∨ fFl v td s n p = 45 := by
  intro n
  induction n with
  | zero => intro p; exact fOwn_is v td s p
  | succ n ih =>
    intro p
    show (if _ then _ else _) = _ ∨ (if _ then _ else _) = _ ∨ (if _ then _ else _) = _ ∨ (if _ then _ else _) = _
    by_cases h : v 4 p < 0
    · rw [if_pos h]; exact fOwn_is v td s p
    · rw [if_neg h]
      by_cases h2 : fFl v td s n (v 4 p).toNatClampNeg ≠ 45
      · rw [if_pos h2]; exact ih _
      · rw [if_neg h2]; exact fOwn_is v td s p
theorem fl_is (v : F2) (td s : Int32) (p : Nat) : fl v td s p = 100 ∨ fl v td s p = 118 ∨ fl v td s p = 108 ∨ fl v td s p = 45 := fFl_is v td s p p
theorem fl_nar (v : F2) (td s : Int32) (p : Nat) : narrow .char (.int (fl v td s p)) = .int (fl v td s p) := by
  rcases fl_is v td s p with h | h | h | h <;> rw [h] <;> rfl
theorem fCome_r {v : F2} {p o : Nat} (h : p = o) : fCome v p o := by
  unfold fCome
  cases p with
  | zero => exact h
  | succ n => exact Or.inl h
theorem fCm_congr {v v' : F2} (h : ∀ i, v 4 i = v' 4 i) : ∀ n p o, fCm v n p o ↔ fCm v' n p o := by
  intro n
  induction n with
  | zero => intro p o; exact Iff.rfl
  | succ n ih => intro p o; show (_ ∨ _) ↔ (_ ∨ _); rw [h p, ih]
theorem fCome_congr {v v' : F2} (h : ∀ i, v 4 i = v' 4 i) (p o : Nat) : fCome v p o ↔ fCome v' p o := fCm_congr h p p o
theorem mRe_fuel {v : F2} {td : Int32} {np : Nat} (hs : fSrc v np) (hn : np < 2 ^ 31) : ∀ (q n m : Nat) (a : Int32), q < np → q ≤ n → q ≤ m → mRe v td n q a = mRe v td m q a := by
  intro q
  induction q using Nat.strongRecOn with
  | ind q ih =>
    intro n m a hq h1 h2
    rcases hs q hq with h | ⟨j, hj, h⟩
    · have e1 : ∀ n, mRe v td n q a = if mR1 v td q < a then mR1 v td q else a := fun n => by cases n with
        | zero => rfl
        | succ n => exact if_pos h
      rw [e1, e1]
    · obtain ⟨n, rfl⟩ : ∃ k, n = k + 1 := ⟨n - 1, by omega⟩
      obtain ⟨m, rfl⟩ : ∃ k, m = k + 1 := ⟨m - 1, by omega⟩
      have hc : (v 4 q).toNatClampNeg = j := by rw [h]; exact nI_clamp (by omega)
      simp only [mRe, hc]
      rw [ih j hj n m _ (by omega) (by omega) (by omega)]
theorem mRe_0 {v : F2} {td a : Int32} {p : Nat} (h : v 4 p < 0) : mRe v td p p a = if mR1 v td p < a then mR1 v td p else a := by
  cases p with
  | zero => rfl
  | succ n => exact if_pos h
theorem mRe_s {v : F2} {td a : Int32} {np p q : Nat} (hs : fSrc v np) (hn : np < 2 ^ 31) (hp : p < np) (hq : q < p) (h : v 4 p = nI q) : mRe v td p p a = mRe v td q q (if mR1 v td p < a then mR1 v td p else a) := by
  obtain ⟨k, rfl⟩ : ∃ k, p = k + 1 := ⟨p - 1, by omega⟩
  have hc : (v 4 (k + 1)).toNatClampNeg = q := by rw [h]; exact nI_clamp (by omega)
  have h0 : ¬ v 4 (k + 1) < 0 := by rw [h]; exact nI_pos (by omega)
  show (if v 4 (k + 1) < 0 then _ else _) = _
  rw [if_neg h0, hc]
  exact mRe_fuel hs hn q k q _ (by omega) (by omega) (Nat.le_refl _)
theorem mv_congr {μ μ' : F2} (h : ∀ k, k < 10 → μ' k = μ k) : mv μ' = mv μ := by
  funext k
  match k with
  | 0 => exact h 5 (by omega)
  | 1 => exact h 1 (by omega)
  | 2 => exact h 6 (by omega)
  | 3 => exact h 7 (by omega)
  | 4 => exact h 8 (by omega)
  | 5 => exact h 3 (by omega)
  | 6 => exact h 4 (by omega)
  | 7 => show (fun j => if μ' 0 j ≠ 0 then μ' 2 j else -2) = (fun j => if μ 0 j ≠ 0 then μ 2 j else -2); rw [h 0 (by omega), h 2 (by omega)]
  | 8 => exact h 9 (by omega)
  | n + 9 => rfl
theorem mv_lack (μ : F2) (d : Nat) (L : Int32 × Int32 × Int32) : mv (mLack μ d L) = mv μ := mv_congr (fun k hk => by unfold mLack; rw [upA_n _ _ (by omega), upA_n _ _ (by omega), upA_n _ _ (by omega)])
theorem upd_self (f : Nat → Int32) (d : Nat) : upd f d (f d) = f := by funext i; unfold upd; split <;> simp_all
theorem upd_upd (f : Nat → Int32) (d : Nat) (x y : Int32) : upd (upd f d x) d y = upd f d y := by funext i; unfold upd; split <;> rfl
theorem mLack_0 {μ : F2} {d : Nat} (h : μ 16 d = 0) : mLack μ d (107, -1, 0) = up2 (up2 μ 18 d 107) 15 d (-1) := by
  funext k
  unfold mLack up2
  by_cases h16 : k = 16
  · subst h16
    rw [upA_s, upA_n _ _ (by decide), upA_n _ _ (by decide), ← h, upd_self]
  · rw [upA_n _ _ h16]
    by_cases h15 : k = 15
    · subst h15
      rw [upA_s, upA_s, upA_n _ _ (by decide)]
    · rw [upA_n _ _ h15, upA_n _ _ h15]
theorem mLack_s (μ : F2) (d : Nat) (L : Int32 × Int32 × Int32) (x y z : Int32) : up2 (up2 (up2 (mLack μ d L) 18 d x) 15 d y) 16 d z = mLack μ d (x, y, z) := by
  funext k
  unfold mLack up2
  by_cases h16 : k = 16
  · subst h16
    rw [upA_s, upA_s, upA_n _ _ (by decide), upA_n _ _ (by decide), upA_s, upd_upd]
  · rw [upA_n _ _ h16, upA_n _ _ h16]
    by_cases h15 : k = 15
    · subst h15
      rw [upA_s, upA_s, upA_n _ _ (by decide), upA_n _ _ (by decide), upA_s, upd_upd]
    · rw [upA_n _ _ h15, upA_n _ _ h15]
      by_cases h18 : k = 18
      · subst h18
        rw [upA_s, upA_s, upA_n _ _ (by decide), upA_n _ _ (by decide), upA_s, upd_upd]
      · rw [upA_n _ _ h18, upA_n _ _ h18, upA_n _ _ h16, upA_n _ _ h15, upA_n _ _ h18]
theorem fAdd_congr {w w' : F2} {an an' : Nat → Prop} {td wd k pa a : Int32} : ∀ {n : Nat}, (∀ i, i < n → w 0 i = w' 0 i ∧ w 1 i = w' 1 i ∧ w 2 i = w' 2 i ∧ w 3 i = w' 3 i ∧ (an i ↔ an' i)) → fAdd w an td wd k pa n a = fAdd w' an' td wd k pa n a := by
  intro n
  induction n with
  | zero => intro _; rfl
  | succ n ih =>
    intro h
    obtain ⟨h0, h1, h2, h3, h4⟩ := h n (by omega)
    have e := ih (fun i hi => h i (by omega))
    show cif _ _ _ = cif _ _ _
    rw [h0, h1, h2, h3, e]
    by_cases c : w' 0 n = k ∧ w' 2 n = pa ∧ ¬ an n ∧ td - w' 3 n < wd
    · rw [cif_pos c, cif_pos ⟨c.1, c.2.1, fun z => c.2.2.1 (h4.mpr z), c.2.2.2⟩]
    · rw [cif_neg c, cif_neg (fun z => c ⟨z.1, z.2.1, fun q => z.2.2.1 (h4.mp q), z.2.2.2⟩)]
theorem nI_cntA_t {C : Nat → Prop} {n a : Nat} (h : C n) : nI (a + fCnt C n) + 1 = nI (a + fCnt C (n + 1)) := by rw [nI_1, fCnt_t h]; rfl
theorem nI_cntA_f {C : Nat → Prop} {n a : Nat} (h : ¬ C n) : nI (a + fCnt C n) + 0 = nI (a + fCnt C (n + 1)) := by rw [fCnt_f h]; exact Int32.add_zero _
theorem fp_all : ∀ a : Fin 25, ∀ b : Fin 25, b.val ≠ 0 → (FP.fdiv (FP.i2f (nI a.val)) (FP.i2f (nI b.val)) &&& 0x7fffffff ≤ 0x7f800000) := by decide +kernel
theorem fp_ok {a b : Nat} (ha : a ≤ 24) (hb : b ≤ 24) (h0 : b ≠ 0) : vf_n32 (FP.fdiv (FP.i2f (nI a)) (FP.i2f (nI b))) := fp_all ⟨a, by omega⟩ ⟨b, by omega⟩ h0
theorem Y_J0_checkBoundsBeginEnd_23922 : gY yJ0_checkBoundsBeginEnd_23922 cJ0_checkBoundsBeginEnd_23922 3 none 3 := ⟨k_23, k_489, by decide +kernel⟩
theorem S_J0_checkBoundsBeginEnd_23922 : Cond.static yJ0_checkBoundsBeginEnd_23922 ∈ lw_tbl := k_488
theorem Y_J0_coder_7d493 : gY yJ0_coder_7d493 cJ0_coder_7d493 1 (some .byte) 0 := ⟨k_23, k_460, by decide +kernel⟩
theorem I_J0_coder_7d493 : Cond.instanceMethod yJ0_coder_7d493 ∈ lw_tbl := k_458
theorem V_J0_coder_7d493 : Cond.selects yJ0_coder_7d493.cls yJ0_coder_7d493 yJ0_coder_7d493 ∈ lw_tbl := k_459
theorem Y_J0_indexOf_0f7a4 : gY yJ0_indexOf_0f7a4 cJ0_indexOf_0f7a4 2 (some .int) 1 := ⟨k_23, k_442, by decide +kernel⟩
theorem I_J0_indexOf_0f7a4 : Cond.instanceMethod yJ0_indexOf_0f7a4 ∈ lw_tbl := k_440
theorem V_J0_indexOf_0f7a4 : Cond.selects yJ0_indexOf_0f7a4.cls yJ0_indexOf_0f7a4 yJ0_indexOf_0f7a4 ∈ lw_tbl := k_441
theorem Y_J0_indexOf_7cf53 : gY yJ0_indexOf_7cf53 cJ0_indexOf_7cf53 3 (some .int) 2 := ⟨k_23, k_446, by decide +kernel⟩
theorem I_J0_indexOf_7cf53 : Cond.instanceMethod yJ0_indexOf_7cf53 ∈ lw_tbl := k_444
theorem V_J0_indexOf_7cf53 : Cond.selects yJ0_indexOf_7cf53.cls yJ0_indexOf_7cf53 yJ0_indexOf_7cf53 ∈ lw_tbl := k_445
theorem Y_J0_isLatin1_aae02 : gY yJ0_isLatin1_aae02 cJ0_isLatin1_aae02 1 (some .boolean) 0 := ⟨k_23, k_450, by decide +kernel⟩
theorem I_J0_isLatin1_aae02 : Cond.instanceMethod yJ0_isLatin1_aae02 ∈ lw_tbl := k_448
theorem V_J0_isLatin1_aae02 : Cond.selects yJ0_isLatin1_aae02.cls yJ0_isLatin1_aae02 yJ0_isLatin1_aae02 ∈ lw_tbl := k_449
theorem Y_J0_length_8abf5 : gY yJ0_length_8abf5 cJ0_length_8abf5 1 (some .int) 0 := ⟨k_23, k_456, by decide +kernel⟩
theorem I_J0_length_8abf5 : Cond.instanceMethod yJ0_length_8abf5 ∈ lw_tbl := k_454
theorem V_J0_length_8abf5 : Cond.selects yJ0_length_8abf5.cls yJ0_length_8abf5 yJ0_length_8abf5 ∈ lw_tbl := k_455
theorem Y_J11_highSurrogate_5068e : gY yJ11_highSurrogate_5068e cJ11_highSurrogate_5068e 1 (some .char) 1 := ⟨k_26, k_515, by decide +kernel⟩
theorem S_J11_highSurrogate_5068e : Cond.static yJ11_highSurrogate_5068e ∈ lw_tbl := k_514
theorem Y_J11_isValidCodePoint_9a6ad : gY yJ11_isValidCodePoint_9a6ad cJ11_isValidCodePoint_9a6ad 2 (some .boolean) 1 := ⟨k_26, k_512, by decide +kernel⟩
theorem S_J11_isValidCodePoint_9a6ad : Cond.static yJ11_isValidCodePoint_9a6ad ∈ lw_tbl := k_511
theorem Y_J11_lowSurrogate_5068e : gY yJ11_lowSurrogate_5068e cJ11_lowSurrogate_5068e 1 (some .char) 1 := ⟨k_26, k_519, by decide +kernel⟩
theorem S_J11_lowSurrogate_5068e : Cond.static yJ11_lowSurrogate_5068e ∈ lw_tbl := k_518
theorem Y_J15_checkIndex_7cf53 : gY yJ15_checkIndex_7cf53 cJ15_checkIndex_7cf53 2 (some .int) 2 := ⟨k_18, k_379, by decide +kernel⟩
theorem S_J15_checkIndex_7cf53 : Cond.static yJ15_checkIndex_7cf53 ∈ lw_tbl := k_378
theorem Y_J1_canEncode_9a6ad : gY yJ1_canEncode_9a6ad cJ1_canEncode_9a6ad 1 (some .boolean) 1 := ⟨k_24, k_466, by decide +kernel⟩
theorem S_J1_canEncode_9a6ad : Cond.static yJ1_canEncode_9a6ad ∈ lw_tbl := k_465
theorem Y_J1_indexOfChar_4cfef : gY yJ1_indexOfChar_4cfef cJ1_indexOfChar_4cfef 6 (some .int) 4 := ⟨k_24, k_471, by decide +kernel⟩
theorem S_J1_indexOfChar_4cfef : Cond.static yJ1_indexOfChar_4cfef ∈ lw_tbl := k_470
theorem Y_J1_indexOf_4cfef : gY yJ1_indexOf_4cfef cJ1_indexOf_4cfef 4 (some .int) 4 := ⟨k_24, k_463, by decide +kernel⟩
theorem S_J1_indexOf_4cfef : Cond.static yJ1_indexOf_4cfef ∈ lw_tbl := k_462
theorem Y_J2_checkBoundsBeginEnd_d044e : gY yJ2_checkBoundsBeginEnd_d044e cJ2_checkBoundsBeginEnd_d044e 3 none 3 := ⟨k_25, k_483, by decide +kernel⟩
theorem S_J2_checkBoundsBeginEnd_d044e : Cond.static yJ2_checkBoundsBeginEnd_d044e ∈ lw_tbl := k_482
theorem Y_J2_getChar_3b067 : gY yJ2_getChar_3b067 cJ2_getChar_3b067 2 (some .char) 2 := ⟨k_25, k_500, by decide +kernel⟩
theorem S_J2_getChar_3b067 : Cond.static yJ2_getChar_3b067 ∈ lw_tbl := k_499
theorem Y_J2_indexOfCharUnsafe_4cfef : gY yJ2_indexOfCharUnsafe_4cfef cJ2_indexOfCharUnsafe_4cfef 5 (some .int) 4 := ⟨k_25, k_497, by decide +kernel⟩
theorem S_J2_indexOfCharUnsafe_4cfef : Cond.static yJ2_indexOfCharUnsafe_4cfef ∈ lw_tbl := k_496
theorem Y_J2_indexOfChar_4cfef : gY yJ2_indexOfChar_4cfef cJ2_indexOfChar_4cfef 4 (some .int) 4 := ⟨k_25, k_480, by decide +kernel⟩
theorem S_J2_indexOfChar_4cfef : Cond.static yJ2_indexOfChar_4cfef ∈ lw_tbl := k_479
theorem Y_J2_indexOfSupplementary_4cfef : gY yJ2_indexOfSupplementary_4cfef cJ2_indexOfSupplementary_4cfef 7 (some .int) 4 := ⟨k_25, k_509, by decide +kernel⟩
theorem S_J2_indexOfSupplementary_4cfef : Cond.static yJ2_indexOfSupplementary_4cfef ∈ lw_tbl := k_508
theorem Y_J2_indexOf_4cfef : gY yJ2_indexOf_4cfef cJ2_indexOf_4cfef 4 (some .int) 4 := ⟨k_25, k_474, by decide +kernel⟩
theorem S_J2_indexOf_4cfef : Cond.static yJ2_indexOf_4cfef ∈ lw_tbl := k_473
theorem Y_J2_length_9d52b : gY yJ2_length_9d52b cJ2_length_9d52b 1 (some .int) 1 := ⟨k_25, k_486, by decide +kernel⟩
theorem S_J2_length_9d52b : Cond.static yJ2_length_9d52b ∈ lw_tbl := k_485
theorem Y_J3_checkFromToIndex_8c36e : gY yJ3_checkFromToIndex_8c36e cJ3_checkFromToIndex_8c36e 4 (some .int) 4 := ⟨k_19, k_494, by decide +kernel⟩
theorem S_J3_checkFromToIndex_8c36e : Cond.static yJ3_checkFromToIndex_8c36e ∈ lw_tbl := k_493
theorem Y_J3_checkIndex_8e157 : gY yJ3_checkIndex_8e157 cJ3_checkIndex_8e157 3 (some .int) 3 := ⟨k_19, k_382, by decide +kernel⟩
theorem S_J3_checkIndex_8e157 : Cond.static yJ3_checkIndex_8e157 ∈ lw_tbl := k_381
theorem Y_J7_copyOf_1904c : gY yJ7_copyOf_1904c cJ7_copyOf_1904c 2 (some (.array (.object "java/lang/Object"))) 2 := ⟨k_15, k_210, by decide +kernel⟩
theorem S_J7_copyOf_1904c : Cond.static yJ7_copyOf_1904c ∈ lw_tbl := k_209
theorem Y_J7_copyOf_6403c : gY yJ7_copyOf_6403c cJ7_copyOf_6403c 4 (some (.array (.object "java/lang/Object"))) 3 := ⟨k_15, k_228, by decide +kernel⟩
theorem S_J7_copyOf_6403c : Cond.static yJ7_copyOf_6403c ∈ lw_tbl := k_227
theorem Y_J8_hugeLength_7cf53 : gY yJ8_hugeLength_7cf53 cJ8_hugeLength_7cf53 3 (some .int) 2 := ⟨k_14, k_207, by decide +kernel⟩
theorem S_J8_hugeLength_7cf53 : Cond.static yJ8_hugeLength_7cf53 ∈ lw_tbl := k_206
theorem Y_J8_newLength_cabcc : gY yJ8_newLength_cabcc cJ8_newLength_cabcc 4 (some .int) 3 := ⟨k_14, k_200, by decide +kernel⟩
theorem S_J8_newLength_cabcc : Cond.static yJ8_newLength_cabcc ∈ lw_tbl := k_199
theorem Y_J9_max_7cf53 : gY yJ9_max_7cf53 cJ9_max_7cf53 2 (some .int) 2 := ⟨k_10, k_203, by decide +kernel⟩
theorem S_J9_max_7cf53 : Cond.static yJ9_max_7cf53 ∈ lw_tbl := k_202
theorem Y_J9_min_7cf53 : gY yJ9_min_7cf53 cJ9_min_7cf53 2 (some .int) 2 := ⟨k_10, k_234, by decide +kernel⟩
theorem S_J9_min_7cf53 : Cond.static yJ9_min_7cf53 ∈ lw_tbl := k_233
theorem Y_Jx4a65c_add_72be8 : gY yJx4a65c_add_72be8 cJx4a65c_add_72be8 4 none 3 := ⟨k_4, k_187, by decide +kernel⟩
theorem I_Jx4a65c_add_72be8 : Cond.instanceMethod yJx4a65c_add_72be8 ∈ lw_tbl := k_185
theorem V_Jx4a65c_add_72be8 : Cond.selects yJx4a65c_add_72be8.cls yJx4a65c_add_72be8 yJx4a65c_add_72be8 ∈ lw_tbl := ks_4
theorem Y_Jx4a65c_add_9ea2d : gY yJx4a65c_add_9ea2d cJx4a65c_add_9ea2d 2 (some .boolean) 1 := ⟨k_4, k_182, by decide +kernel⟩
theorem I_Jx4a65c_add_9ea2d : Cond.instanceMethod yJx4a65c_add_9ea2d ∈ lw_tbl := k_180
theorem Y_Jx4a65c_elementData_915e3 : gY yJx4a65c_elementData_915e3 cJx4a65c_elementData_915e3 2 (some (.object "java/lang/Object")) 1 := ⟨k_4, k_386, by decide +kernel⟩
theorem I_Jx4a65c_elementData_915e3 : Cond.instanceMethod yJx4a65c_elementData_915e3 ∈ lw_tbl := k_384
theorem V_Jx4a65c_elementData_915e3 : Cond.selects yJx4a65c_elementData_915e3.cls yJx4a65c_elementData_915e3 yJx4a65c_elementData_915e3 ∈ lw_tbl := k_385
theorem Y_Jx4a65c_get_915e3 : gY yJx4a65c_get_915e3 cJx4a65c_get_915e3 2 (some (.object "java/lang/Object")) 1 := ⟨k_4, k_376, by decide +kernel⟩
theorem I_Jx4a65c_get_915e3 : Cond.instanceMethod yJx4a65c_get_915e3 ∈ lw_tbl := k_374
theorem Y_Jx4a65c_grow_92f84 : gY yJx4a65c_grow_92f84 cJx4a65c_grow_92f84 4 (some (.array (.object "java/lang/Object"))) 1 := ⟨k_4, k_195, by decide +kernel⟩
theorem I_Jx4a65c_grow_92f84 : Cond.instanceMethod yJx4a65c_grow_92f84 ∈ lw_tbl := k_194
theorem V_Jx4a65c_grow_92f84 : Cond.selects yJx4a65c_grow_92f84.cls yJx4a65c_grow_92f84 yJx4a65c_grow_92f84 ∈ lw_tbl := ks_6
theorem Y_Jx4a65c_grow_d5877 : gY yJx4a65c_grow_d5877 cJx4a65c_grow_d5877 1 (some (.array (.object "java/lang/Object"))) 0 := ⟨k_4, k_191, by decide +kernel⟩
theorem I_Jx4a65c_grow_d5877 : Cond.instanceMethod yJx4a65c_grow_d5877 ∈ lw_tbl := k_190
theorem V_Jx4a65c_grow_d5877 : Cond.selects yJx4a65c_grow_d5877.cls yJx4a65c_grow_d5877 yJx4a65c_grow_d5877 ∈ lw_tbl := ks_5
theorem Y_Jx4a65c_init_da8c8 : gY yJx4a65c_init_da8c8 cJx4a65c_init_da8c8 1 none 0 := ⟨k_4, k_674, by decide +kernel⟩
theorem I_Jx4a65c_init_da8c8 : Cond.instanceMethod yJx4a65c_init_da8c8 ∈ lw_tbl := k_673
theorem Y_Jx4a65c_size_8abf5 : gY yJx4a65c_size_8abf5 cJx4a65c_size_8abf5 1 (some .int) 0 := ⟨k_4, k_173, by decide +kernel⟩
theorem I_Jx4a65c_size_8abf5 : Cond.instanceMethod yJx4a65c_size_8abf5 ∈ lw_tbl := k_171
theorem Y_Jxa1e45_init_da8c8 : gY yJxa1e45_init_da8c8 cJxa1e45_init_da8c8 1 none 0 := ⟨k_2, k_680, by decide +kernel⟩
theorem I_Jxa1e45_init_da8c8 : Cond.instanceMethod yJxa1e45_init_da8c8 ∈ lw_tbl := k_679
theorem Y_Jxc12de_init_da8c8 : gY yJxc12de_init_da8c8 cJxc12de_init_da8c8 1 none 0 := ⟨k_3, k_677, by decide +kernel⟩
theorem I_Jxc12de_init_da8c8 : Cond.instanceMethod yJxc12de_init_da8c8 ∈ lw_tbl := k_676
theorem Y_X0_init : gY yX0_init cX0_init 7 none 6 := ⟨k_22, k_298, by decide +kernel⟩
theorem I_X0_init : Cond.instanceMethod yX0_init ∈ lw_tbl := k_297
theorem Y_X0_isStanding : gY yX0_isStanding cX0_isStanding 1 (some .boolean) 0 := ⟨k_22, k_653, by decide +kernel⟩
theorem I_X0_isStanding : Cond.instanceMethod yX0_isStanding ∈ lw_tbl := k_651
theorem V_X0_isStanding : Cond.selects yX0_isStanding.cls yX0_isStanding yX0_isStanding ∈ lw_tbl := k_652
theorem Y_X1_actsByPowersOf : gY yX1_actsByPowersOf cX1_actsByPowersOf 3 (some .boolean) 2 := ⟨k_5, k_403, by decide +kernel⟩
theorem I_X1_actsByPowersOf : Cond.instanceMethod yX1_actsByPowersOf ∈ lw_tbl := k_401
theorem V_X1_actsByPowersOf : Cond.selects yX1_actsByPowersOf.cls yX1_actsByPowersOf yX1_actsByPowersOf ∈ lw_tbl := k_402
theorem Y_X1_faultOf : gY yX1_faultOf cX1_faultOf 6 (some .char) 2 := ⟨k_5, k_408, by decide +kernel⟩
theorem I_X1_faultOf : Cond.instanceMethod yX1_faultOf ∈ lw_tbl := k_406
theorem V_X1_faultOf : Cond.selects yX1_faultOf.cls yX1_faultOf yX1_faultOf ∈ lw_tbl := k_407
theorem Y_X1_forget : gY yX1_forget cX1_forget 2 none 0 := ⟨k_5, k_702, by decide +kernel⟩
theorem I_X1_forget : Cond.instanceMethod yX1_forget ∈ lw_tbl := k_700
theorem V_X1_forget : Cond.selects yX1_forget.cls yX1_forget yX1_forget ∈ lw_tbl := k_701
theorem Y_X1_init : gY yX1_init cX1_init 1 none 0 := ⟨k_5, k_697, by decide +kernel⟩
theorem I_X1_init : Cond.instanceMethod yX1_init ∈ lw_tbl := k_696
theorem Y_X1_isAnnulled : gY yX1_isAnnulled cX1_isAnnulled 2 (some .boolean) 1 := ⟨k_5, k_390, by decide +kernel⟩
theorem I_X1_isAnnulled : Cond.instanceMethod yX1_isAnnulled ∈ lw_tbl := k_388
theorem V_X1_isAnnulled : Cond.selects yX1_isAnnulled.cls yX1_isAnnulled yX1_isAnnulled ∈ lw_tbl := k_389
theorem Y_X1_isRevoked : gY yX1_isRevoked cX1_isRevoked 3 (some .boolean) 1 := ⟨k_5, k_418, by decide +kernel⟩
theorem I_X1_isRevoked : Cond.instanceMethod yX1_isRevoked ∈ lw_tbl := k_416
theorem V_X1_isRevoked : Cond.selects yX1_isRevoked.cls yX1_isRevoked yX1_isRevoked ∈ lw_tbl := k_417
theorem Y_X1_limitOf : gY yX1_limitOf cX1_limitOf 3 (some .int) 1 := ⟨k_5, k_422, by decide +kernel⟩
theorem I_X1_limitOf : Cond.instanceMethod yX1_limitOf ∈ lw_tbl := k_420
theorem V_X1_limitOf : Cond.selects yX1_limitOf.cls yX1_limitOf yX1_limitOf ∈ lw_tbl := k_421
theorem Y_X1_ownFault : gY yX1_ownFault cX1_ownFault 3 (some .char) 2 := ⟨k_5, k_413, by decide +kernel⟩
theorem I_X1_ownFault : Cond.instanceMethod yX1_ownFault ∈ lw_tbl := k_411
theorem V_X1_ownFault : Cond.selects yX1_ownFault.cls yX1_ownFault yX1_ownFault ∈ lw_tbl := ks_12
theorem Y_X1_stepsToFault : gY yX1_stepsToFault cX1_stepsToFault 6 (some .int) 2 := ⟨k_5, k_524, by decide +kernel⟩
theorem I_X1_stepsToFault : Cond.instanceMethod yX1_stepsToFault ∈ lw_tbl := k_522
theorem V_X1_stepsToFault : Cond.selects yX1_stepsToFault.cls yX1_stepsToFault yX1_stepsToFault ∈ lw_tbl := k_523
theorem Y_X1_substituteFor : gY yX1_substituteFor cX1_substituteFor 2 (some .int) 1 := ⟨k_5, k_139, by decide +kernel⟩
theorem I_X1_substituteFor : Cond.instanceMethod yX1_substituteFor ∈ lw_tbl := k_137
theorem V_X1_substituteFor : Cond.selects yX1_substituteFor.cls yX1_substituteFor yX1_substituteFor ∈ lw_tbl := k_138
theorem Y_X1_take : gY yX1_take cX1_take 3 none 1 := ⟨k_5, k_243, by decide +kernel⟩
theorem I_X1_take : Cond.instanceMethod yX1_take ∈ lw_tbl := k_241
theorem V_X1_take : Cond.selects yX1_take.cls yX1_take yX1_take ∈ lw_tbl := k_242
theorem Y_X2_init : gY yX2_init cX2_init 4 none 3 := ⟨k_17, k_149, by decide +kernel⟩
theorem I_X2_init : Cond.instanceMethod yX2_init ∈ lw_tbl := k_148
theorem Y_X3_comesFrom : gY yX3_comesFrom cX3_comesFrom 3 (some .boolean) 1 := ⟨k_13, k_878, by decide +kernel⟩
theorem I_X3_comesFrom : Cond.instanceMethod yX3_comesFrom ∈ lw_tbl := k_876
theorem V_X3_comesFrom : Cond.selects yX3_comesFrom.cls yX3_comesFrom yX3_comesFrom ∈ lw_tbl := k_877
theorem Y_X3_init : gY yX3_init cX3_init 8 none 7 := ⟨k_13, k_786, by decide +kernel⟩
theorem I_X3_init : Cond.instanceMethod yX3_init ∈ lw_tbl := k_785
theorem Y_X4_addPerson : gY yX4_addPerson cX4_addPerson 1 (some .int) 0 := ⟨k_1, k_751, by decide +kernel⟩
theorem I_X4_addPerson : Cond.instanceMethod yX4_addPerson ∈ lw_tbl := k_749
theorem V_X4_addPerson : Cond.selects yX4_addPerson.cls yX4_addPerson yX4_addPerson ∈ lw_tbl := k_750
theorem Y_X4_addUp : gY yX4_addUp cX4_addUp 6 (some .int) 2 := ⟨k_1, k_367, by decide +kernel⟩
theorem I_X4_addUp : Cond.instanceMethod yX4_addUp ∈ lw_tbl := k_366
theorem V_X4_addUp : Cond.selects yX4_addUp.cls yX4_addUp yX4_addUp ∈ lw_tbl := ks_9
theorem Y_X4_annul : gY yX4_annul cX4_annul 3 (some .int) 1 := ⟨k_1, k_581, by decide +kernel⟩
theorem I_X4_annul : Cond.instanceMethod yX4_annul ∈ lw_tbl := k_579
theorem V_X4_annul : Cond.selects yX4_annul.cls yX4_annul yX4_annul ∈ lw_tbl := k_580
theorem Y_X4_bitOfHand : gY yX4_bitOfHand cX4_bitOfHand 1 (some .int) 1 := ⟨k_1, k_770, by decide +kernel⟩
theorem S_X4_bitOfHand : Cond.static yX4_bitOfHand ∈ lw_tbl := k_769
theorem Y_X4_bound : gY yX4_bound cX4_bound 5 (some .long) 0 := ⟨k_1, k_942, by decide +kernel⟩
theorem I_X4_bound : Cond.instanceMethod yX4_bound ∈ lw_tbl := k_940
theorem V_X4_bound : Cond.selects yX4_bound.cls yX4_bound yX4_bound ∈ lw_tbl := k_941
theorem Y_X4_comeBack : gY yX4_comeBack cX4_comeBack 3 (some .int) 1 := ⟨k_1, k_253, by decide +kernel⟩
theorem I_X4_comeBack : Cond.instanceMethod yX4_comeBack ∈ lw_tbl := k_251
theorem V_X4_comeBack : Cond.selects yX4_comeBack.cls yX4_comeBack yX4_comeBack ∈ lw_tbl := k_252
theorem Y_X4_countPowersFrom : gY yX4_countPowersFrom cX4_countPowersFrom 4 (some .int) 1 := ⟨k_1, k_874, by decide +kernel⟩
theorem I_X4_countPowersFrom : Cond.instanceMethod yX4_countPowersFrom ∈ lw_tbl := k_873
theorem V_X4_countPowersFrom : Cond.selects yX4_countPowersFrom.cls yX4_countPowersFrom yX4_countPowersFrom ∈ lw_tbl := ks_22
theorem Y_X4_countWaiting : gY yX4_countWaiting cX4_countWaiting 3 (some .int) 0 := ⟨k_1, k_585, by decide +kernel⟩
theorem I_X4_countWaiting : Cond.instanceMethod yX4_countWaiting ∈ lw_tbl := k_584
theorem V_X4_countWaiting : Cond.selects yX4_countWaiting.cls yX4_countWaiting yX4_countWaiting ∈ lw_tbl := ks_18
theorem Y_X4_delegate : gY yX4_delegate cX4_delegate 7 (some .int) 5 := ⟨k_1, k_833, by decide +kernel⟩
theorem I_X4_delegate : Cond.instanceMethod yX4_delegate ∈ lw_tbl := k_831
theorem V_X4_delegate : Cond.selects yX4_delegate.cls yX4_delegate yX4_delegate ∈ lw_tbl := k_832
theorem Y_X4_findDeed : gY yX4_findDeed cX4_findDeed 2 (some (.object "Signatory$Deed")) 1 := ⟨k_1, k_564, by decide +kernel⟩
theorem I_X4_findDeed : Cond.instanceMethod yX4_findDeed ∈ lw_tbl := k_563
theorem V_X4_findDeed : Cond.selects yX4_findDeed.cls yX4_findDeed yX4_findDeed ∈ lw_tbl := ks_16
theorem Y_X4_findLack : gY yX4_findLack cX4_findLack 4 none 1 := ⟨k_1, k_429, by decide +kernel⟩
theorem I_X4_findLack : Cond.instanceMethod yX4_findLack ∈ lw_tbl := k_428
theorem V_X4_findLack : Cond.selects yX4_findLack.cls yX4_findLack yX4_findLack ∈ lw_tbl := ks_13
theorem Y_X4_findPower : gY yX4_findPower cX4_findPower 2 (some (.object "Signatory$Power")) 1 := ⟨k_1, k_837, by decide +kernel⟩
theorem I_X4_findPower : Cond.instanceMethod yX4_findPower ∈ lw_tbl := k_836
theorem V_X4_findPower : Cond.selects yX4_findPower.cls yX4_findPower yX4_findPower ∈ lw_tbl := ks_21
theorem Y_X4_grant : gY yX4_grant cX4_grant 7 (some .int) 6 := ⟨k_1, k_767, by decide +kernel⟩
theorem I_X4_grant : Cond.instanceMethod yX4_grant ∈ lw_tbl := k_765
theorem V_X4_grant : Cond.selects yX4_grant.cls yX4_grant yX4_grant ∈ lw_tbl := k_766
theorem Y_X4_handsOf : gY yX4_handsOf cX4_handsOf 8 (some .int) 4 := ⟨k_1, k_398, by decide +kernel⟩
theorem I_X4_handsOf : Cond.instanceMethod yX4_handsOf ∈ lw_tbl := k_397
theorem V_X4_handsOf : Cond.selects yX4_handsOf.cls yX4_handsOf yX4_handsOf ∈ lw_tbl := ks_11
theorem Y_X4_init : gY yX4_init cX4_init 1 none 0 := ⟨k_1, k_669, by decide +kernel⟩
theorem I_X4_init : Cond.instanceMethod yX4_init ∈ lw_tbl := k_668
theorem Y_X4_isBetween : gY yX4_isBetween cX4_isBetween 3 (some .boolean) 3 := ⟨k_1, k_285, by decide +kernel⟩
theorem S_X4_isBetween : Cond.static yX4_isBetween ∈ lw_tbl := k_284
theorem Y_X4_isIndex : gY yX4_isIndex cX4_isIndex 2 (some .boolean) 2 := ⟨k_1, k_43, by decide +kernel⟩
theorem S_X4_isIndex : Cond.static yX4_isIndex ∈ lw_tbl := k_42
theorem Y_X4_keepDeed : gY yX4_keepDeed cX4_keepDeed 2 (some .int) 1 := ⟨k_1, k_363, by decide +kernel⟩
theorem I_X4_keepDeed : Cond.instanceMethod yX4_keepDeed ∈ lw_tbl := k_362
theorem V_X4_keepDeed : Cond.selects yX4_keepDeed.cls yX4_keepDeed yX4_keepDeed ∈ lw_tbl := ks_8
theorem Y_X4_keepPower : gY yX4_keepPower cX4_keepPower 3 (some .int) 2 := ⟨k_1, k_823, by decide +kernel⟩
theorem I_X4_keepPower : Cond.instanceMethod yX4_keepPower ∈ lw_tbl := k_822
theorem V_X4_keepPower : Cond.selects yX4_keepPower.cls yX4_keepPower yX4_keepPower ∈ lw_tbl := ks_20
theorem Y_X4_lack : gY yX4_lack cX4_lack 3 (some .char) 1 := ⟨k_1, k_607, by decide +kernel⟩
theorem I_X4_lack : Cond.instanceMethod yX4_lack ∈ lw_tbl := k_605
theorem V_X4_lack : Cond.selects yX4_lack.cls yX4_lack yX4_lack ∈ lw_tbl := k_606
theorem Y_X4_lackDepth : gY yX4_lackDepth cX4_lackDepth 3 (some .int) 1 := ⟨k_1, k_935, by decide +kernel⟩
theorem I_X4_lackDepth : Cond.instanceMethod yX4_lackDepth ∈ lw_tbl := k_933
theorem V_X4_lackDepth : Cond.selects yX4_lackDepth.cls yX4_lackDepth yX4_lackDepth ∈ lw_tbl := k_934
theorem Y_X4_lackPower : gY yX4_lackPower cX4_lackPower 3 (some .int) 1 := ⟨k_1, k_924, by decide +kernel⟩
theorem I_X4_lackPower : Cond.instanceMethod yX4_lackPower ∈ lw_tbl := k_922
theorem V_X4_lackPower : Cond.selects yX4_lackPower.cls yX4_lackPower yX4_lackPower ∈ lw_tbl := k_923
theorem Y_X4_leave : gY yX4_leave cX4_leave 4 (some .int) 2 := ⟨k_1, k_35, by decide +kernel⟩
theorem I_X4_leave : Cond.instanceMethod yX4_leave ∈ lw_tbl := k_33
theorem V_X4_leave : Cond.selects yX4_leave.cls yX4_leave yX4_leave ∈ lw_tbl := k_34
theorem Y_X4_lower : gY yX4_lower cX4_lower 5 (some .int) 2 := ⟨k_1, k_888, by decide +kernel⟩
theorem I_X4_lower : Cond.instanceMethod yX4_lower ∈ lw_tbl := k_886
theorem V_X4_lower : Cond.selects yX4_lower.cls yX4_lower yX4_lower ∈ lw_tbl := k_887
theorem Y_X4_noteLack : gY yX4_noteLack cX4_noteLack 5 none 2 := ⟨k_1, k_437, by decide +kernel⟩
theorem I_X4_noteLack : Cond.instanceMethod yX4_noteLack ∈ lw_tbl := k_436
theorem V_X4_noteLack : Cond.selects yX4_noteLack.cls yX4_noteLack yX4_noteLack ∈ lw_tbl := ks_15
theorem Y_X4_pass : gY yX4_pass cX4_pass 2 (some .int) 1 := ⟨k_1, k_641, by decide +kernel⟩
theorem I_X4_pass : Cond.instanceMethod yX4_pass ∈ lw_tbl := k_639
theorem V_X4_pass : Cond.selects yX4_pass.cls yX4_pass yX4_pass ∈ lw_tbl := k_640
theorem Y_X4_ratify : gY yX4_ratify cX4_ratify 4 (some .int) 2 := ⟨k_1, k_560, by decide +kernel⟩
theorem I_X4_ratify : Cond.instanceMethod yX4_ratify ∈ lw_tbl := k_558
theorem V_X4_ratify : Cond.selects yX4_ratify.cls yX4_ratify yX4_ratify ∈ lw_tbl := k_559
theorem Y_X4_requireDayCount : gY yX4_requireDayCount cX4_requireDayCount 1 none 1 := ⟨k_1, k_633, by decide +kernel⟩
theorem S_X4_requireDayCount : Cond.static yX4_requireDayCount ∈ lw_tbl := k_632
theorem Y_X4_requireDealing : gY yX4_requireDealing cX4_requireDealing 3 none 3 := ⟨k_1, k_279, by decide +kernel⟩
theorem S_X4_requireDealing : Cond.static yX4_requireDealing ∈ lw_tbl := k_278
theorem Y_X4_requireKind : gY yX4_requireKind cX4_requireKind 1 none 1 := ⟨k_1, k_282, by decide +kernel⟩
theorem S_X4_requireKind : Cond.static yX4_requireKind ∈ lw_tbl := k_281
theorem Y_X4_requireLackingPower : gY yX4_requireLackingPower cX4_requireLackingPower 1 none 1 := ⟨k_1, k_927, by decide +kernel⟩
theorem S_X4_requireLackingPower : Cond.static yX4_requireLackingPower ∈ lw_tbl := k_926
theorem Y_X4_requireLimitAndDays : gY yX4_requireLimitAndDays cX4_requireLimitAndDays 3 none 3 := ⟨k_1, k_774, by decide +kernel⟩
theorem S_X4_requireLimitAndDays : Cond.static yX4_requireLimitAndDays ∈ lw_tbl := k_773
theorem Y_X4_requirePerson : gY yX4_requirePerson cX4_requirePerson 2 none 1 := ⟨k_1, k_40, by decide +kernel⟩
theorem I_X4_requirePerson : Cond.instanceMethod yX4_requirePerson ∈ lw_tbl := k_38
theorem V_X4_requirePerson : Cond.selects yX4_requirePerson.cls yX4_requirePerson yX4_requirePerson ∈ lw_tbl := ks_0
theorem Y_X4_requireRoomForDeed : gY yX4_requireRoomForDeed cX4_requireRoomForDeed 1 none 0 := ⟨k_1, k_292, by decide +kernel⟩
theorem I_X4_requireRoomForDeed : Cond.instanceMethod yX4_requireRoomForDeed ∈ lw_tbl := k_291
theorem V_X4_requireRoomForDeed : Cond.selects yX4_requireRoomForDeed.cls yX4_requireRoomForDeed yX4_requireRoomForDeed ∈ lw_tbl := ks_7
theorem Y_X4_requireRoomForPower : gY yX4_requireRoomForPower cX4_requireRoomForPower 1 none 0 := ⟨k_1, k_781, by decide +kernel⟩
theorem I_X4_requireRoomForPower : Cond.instanceMethod yX4_requireRoomForPower ∈ lw_tbl := k_780
theorem V_X4_requireRoomForPower : Cond.selects yX4_requireRoomForPower.cls yX4_requireRoomForPower yX4_requireRoomForPower ∈ lw_tbl := ks_19
theorem Y_X4_requireTwo : gY yX4_requireTwo cX4_requireTwo 2 none 2 := ⟨k_1, k_536, by decide +kernel⟩
theorem S_X4_requireTwo : Cond.static yX4_requireTwo ∈ lw_tbl := k_535
theorem Y_X4_requireWaiting : gY yX4_requireWaiting cX4_requireWaiting 1 none 1 := ⟨k_1, k_568, by decide +kernel⟩
theorem S_X4_requireWaiting : Cond.static yX4_requireWaiting ∈ lw_tbl := k_567
theorem Y_X4_revoke : gY yX4_revoke cX4_revoke 3 (some .int) 1 := ⟨k_1, k_870, by decide +kernel⟩
theorem I_X4_revoke : Cond.instanceMethod yX4_revoke ∈ lw_tbl := k_868
theorem V_X4_revoke : Cond.selects yX4_revoke.cls yX4_revoke yX4_revoke ∈ lw_tbl := k_869
theorem Y_X4_setWindow : gY yX4_setWindow cX4_setWindow 3 (some .int) 1 := ⟨k_1, k_630, by decide +kernel⟩
theorem I_X4_setWindow : Cond.instanceMethod yX4_setWindow ∈ lw_tbl := k_628
theorem V_X4_setWindow : Cond.selects yX4_setWindow.cls yX4_setWindow yX4_setWindow ∈ lw_tbl := k_629
theorem Y_X4_sign : gY yX4_sign cX4_sign 5 (some .int) 4 := ⟨k_1, k_276, by decide +kernel⟩
theorem I_X4_sign : Cond.instanceMethod yX4_sign ∈ lw_tbl := k_274
theorem V_X4_sign : Cond.selects yX4_sign.cls yX4_sign yX4_sign ∈ lw_tbl := k_275
theorem Y_X4_signTogether : gY yX4_signTogether cX4_signTogether 6 (some .int) 5 := ⟨k_1, k_533, by decide +kernel⟩
theorem I_X4_signTogether : Cond.instanceMethod yX4_signTogether ∈ lw_tbl := k_531
theorem V_X4_signTogether : Cond.selects yX4_signTogether.cls yX4_signTogether yX4_signTogether ∈ lw_tbl := k_532
theorem Y_X4_signersActBy : gY yX4_signersActBy cX4_signersActBy 3 (some .boolean) 2 := ⟨k_1, k_433, by decide +kernel⟩
theorem I_X4_signersActBy : Cond.instanceMethod yX4_signersActBy ∈ lw_tbl := k_432
theorem V_X4_signersActBy : Cond.selects yX4_signersActBy.cls yX4_signersActBy yX4_signersActBy ∈ lw_tbl := ks_14
theorem Y_X4_signersSuffice : gY yX4_signersSuffice cX4_signersSuffice 6 (some .boolean) 3 := ⟨k_1, k_394, by decide +kernel⟩
theorem I_X4_signersSuffice : Cond.instanceMethod yX4_signersSuffice ∈ lw_tbl := k_393
theorem V_X4_signersSuffice : Cond.selects yX4_signersSuffice.cls yX4_signersSuffice yX4_signersSuffice ∈ lw_tbl := ks_10
theorem Y_X4_signsAlone : gY yX4_signsAlone cX4_signsAlone 5 (some .boolean) 4 := ⟨k_1, k_573, by decide +kernel⟩
theorem I_X4_signsAlone : Cond.instanceMethod yX4_signsAlone ∈ lw_tbl := k_572
theorem V_X4_signsAlone : Cond.selects yX4_signsAlone.cls yX4_signsAlone yX4_signsAlone ∈ lw_tbl := ks_17
theorem Y_X4_standingShare : gY yX4_standingShare cX4_standingShare 4 (some .float) 0 := ⟨k_1, k_949, by decide +kernel⟩
theorem I_X4_standingShare : Cond.instanceMethod yX4_standingShare ∈ lw_tbl := k_947
theorem V_X4_standingShare : Cond.selects yX4_standingShare.cls yX4_standingShare yX4_standingShare ∈ lw_tbl := k_948
theorem Y_X4_stands : gY yX4_stands cX4_stands 2 (some .boolean) 1 := ⟨k_1, k_649, by decide +kernel⟩
theorem I_X4_stands : Cond.instanceMethod yX4_stands ∈ lw_tbl := k_647
theorem V_X4_stands : Cond.selects yX4_stands.cls yX4_stands yX4_stands ∈ lw_tbl := k_648
theorem Y_X4_status : gY yX4_status cX4_status 2 (some .char) 1 := ⟨k_1, k_592, by decide +kernel⟩
theorem I_X4_status : Cond.instanceMethod yX4_status ∈ lw_tbl := k_590
theorem V_X4_status : Cond.selects yX4_status.cls yX4_status yX4_status ∈ lw_tbl := k_591
theorem Y_X4_substituteOrNone : gY yX4_substituteOrNone cX4_substituteOrNone 3 (some .int) 1 := ⟨k_1, k_135, by decide +kernel⟩
theorem I_X4_substituteOrNone : Cond.instanceMethod yX4_substituteOrNone ∈ lw_tbl := k_134
theorem V_X4_substituteOrNone : Cond.selects yX4_substituteOrNone.cls yX4_substituteOrNone yX4_substituteOrNone ∈ lw_tbl := ks_2
theorem Y_X4_suffice : gY yX4_suffice cX4_suffice 2 (some .boolean) 2 := ⟨k_1, k_425, by decide +kernel⟩
theorem S_X4_suffice : Cond.static yX4_suffice ∈ lw_tbl := k_424
theorem Y_X4_sum : gY yX4_sum cX4_sum 2 (some .int) 1 := ⟨k_1, k_599, by decide +kernel⟩
theorem I_X4_sum : Cond.instanceMethod yX4_sum ∈ lw_tbl := k_597
theorem V_X4_sum : Cond.selects yX4_sum.cls yX4_sum yX4_sum ∈ lw_tbl := k_598
theorem Y_X4_tell : gY yX4_tell cX4_tell 5 none 3 := ⟨k_1, k_144, by decide +kernel⟩
theorem I_X4_tell : Cond.instanceMethod yX4_tell ∈ lw_tbl := k_143
theorem V_X4_tell : Cond.selects yX4_tell.cls yX4_tell yX4_tell ∈ lw_tbl := ks_3
theorem Y_X4_today : gY yX4_today cX4_today 1 (some .int) 0 := ⟨k_1, k_902, by decide +kernel⟩
theorem I_X4_today : Cond.instanceMethod yX4_today ∈ lw_tbl := k_900
theorem V_X4_today : Cond.selects yX4_today.cls yX4_today yX4_today ∈ lw_tbl := k_901
