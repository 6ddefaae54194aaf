set_option maxHeartbeats 4000000 in
set_option maxRecDepth 100000 in
theorem c_L_cell {l : Launch} {E : gV} (hE : gOK l E) {b L : Nat} {xs : Nat → Int32} (hX : va_X b L xs E.2.1 E.2.1.heap) (hbl : b < E.2.1.heap.size) (hL : L < 2 ^ 31) (i : Nat) (hi : i < 2 ^ 31) : gM l E yL_cell cL_cell 3 (some .int) ({ frames := 0, cells := 0, slots := 0, locals := 0 } : Room) [.ref b, .int (nI i)] (fun H => gFz E H) (gQR (gPi (fun _ => True))) (fun _ => False) gN := by
  refine gM_body hE (by decide +kernel) (Nat.le_of_ble_eq_true rfl) ?_
  intro p_ e_ s m args below meth c hC ht hr hname hP ls hl
  have hx := hC.2.2.1
  have hb := hC.2.2.2.1
  have hl : lv_has ls 3 [(0, .ref b), (1, .int (nI i))] := hl
  refine lv_ldc (own := "SignatoryLaw") (v := 69069) hx hb hC.2.2.2.2.2.1 (gw hC.1 hC.2.1 k_660 rfl) dL_cell_0 ?_
  refine lv_iload_n hx hb dL_cell_2 rfl (lv_at hl 1 rfl) ?_
  refine lv_aload_n hx hb dL_cell_3 rfl (lv_at hl 0 rfl) ?_
  refine g_slenF hC hX hbl hP dL_cell_4 ?_
  refine lv_icmp_ge (tgt := 14) hx hb dL_cell_5 (by decide) (fun c1_ => ?_) (fun c1_ => ?_)
  · have n2_ : L ≤ i := le_nI (by omega) (by omega) c1_
    refine lv_iconst (v := 0) hx hb dL_cell_14 (by decide) ?_
    refine lv_sipush (v := 1009) hx hb dL_cell_15 (by decide) ?_
    refine lv_iload_n hx hb dL_cell_18 rfl (lv_at hl 1 rfl) ?_
    refine g_nmuln (a := 1009) (b := i) hx hb dL_cell_19 ?_
    refine g_naddn (a := 0) (b := 1009 * i) hx hb dL_cell_20 ?_
    refine g_nmuln (a := 69069) (b := 0 + 1009 * i) hx hb dL_cell_21 ?_
    refine lv_sipush (v := 12345) hx hb dL_cell_22 (by decide) ?_
    refine g_naddn (a := 69069 * (0 + 1009 * i)) (b := 12345) hx hb dL_cell_25 ?_
    refine lv_istore_n (lv' := [(2, .int (nI (69069 * (0 + 1009 * i) + 12345))), (0, .ref b), (1, .int (nI i))]) hx hb dL_cell_26 rfl hl (by decide) rfl (fun ls hl => ?_)
    refine lv_iload_n hx hb dL_cell_27 rfl (lv_at hl 0 rfl) ?_
    refine lv_iload_n hx hb dL_cell_28 rfl (lv_at hl 0 rfl) ?_
    refine lv_bipush (v := 13) hx hb dL_cell_29 (by decide) ?_
    obtain ⟨u3_, hu3_⟩ : ∃ v, ((nI (69069 * (0 + 1009 * i) + 12345) : Int32).toUInt32 >>> ((13 : Int32).toUInt32 &&& Int32.toUInt32 31)).toInt32 = v := ⟨_, rfl⟩
    refine lv_iushr (v := u3_) hx hb dL_cell_31 hu3_ ?_
    refine lv_ixor hx hb dL_cell_32 ?_
    refine lv_ldc (own := "SignatoryLaw") (v := 1103515245) hx hb hC.2.2.2.2.2.1 (gw hC.1 hC.2.1 k_661 rfl) dL_cell_33 ?_
    refine lv_imul hx hb dL_cell_35 ?_
    refine lv_istore_n (lv' := [(2, .int (((nI (69069 * (0 + 1009 * i) + 12345)) ^^^ u3_) * 1103515245)), (0, .ref b), (1, .int (nI i))]) hx hb dL_cell_36 rfl hl (by decide) rfl (fun ls hl => ?_)
    refine lv_iload_n hx hb dL_cell_37 rfl (lv_at hl 0 rfl) ?_
    refine lv_iload_n hx hb dL_cell_38 rfl (lv_at hl 0 rfl) ?_
    refine lv_bipush (v := 16) hx hb dL_cell_39 (by decide) ?_
    obtain ⟨u4_, hu4_⟩ : ∃ v, ((((nI (69069 * (0 + 1009 * i) + 12345)) ^^^ u3_) * 1103515245 : Int32).toUInt32 >>> ((16 : Int32).toUInt32 &&& Int32.toUInt32 31)).toInt32 = v := ⟨_, rfl⟩
    refine lv_iushr (v := u4_) hx hb dL_cell_41 hu4_ ?_
    refine lv_ixor hx hb dL_cell_42 ?_
    exact g_iret hC hr dL_cell_43 (Nat.le_of_ble_eq_true rfl) (Nat.le_of_ble_eq_true rfl) trivial
  · have n2_ : i < L := not_le_nI (by omega) (by omega) c1_
    refine lv_aload_n hx hb dL_cell_8 rfl (lv_at hl 0 rfl) ?_
    refine lv_iload_n hx hb dL_cell_9 rfl (lv_at hl 1 rfl) ?_
    refine g_sldF (q := i) hC hX hbl hP (by omega) (by omega) dL_cell_10 ?_
    refine lv_goto (tgt := 15) hx hb dL_cell_11 (by decide) ?_
    refine lv_sipush (v := 1009) hx hb dL_cell_15 (by decide) ?_
    refine lv_iload_n hx hb dL_cell_18 rfl (lv_at hl 1 rfl) ?_
    refine g_nmuln (a := 1009) (b := i) hx hb dL_cell_19 ?_
    refine lv_iadd hx hb dL_cell_20 ?_
    refine lv_imul hx hb dL_cell_21 ?_
    refine lv_sipush (v := 12345) hx hb dL_cell_22 (by decide) ?_
    refine lv_iadd hx hb dL_cell_25 ?_
    refine lv_istore_n (lv' := [(2, .int ((69069 * ((xs i) + (nI (1009 * i)))) + 12345)), (0, .ref b), (1, .int (nI i))]) hx hb dL_cell_26 rfl hl (by decide) rfl (fun ls hl => ?_)
    refine lv_iload_n hx hb dL_cell_27 rfl (lv_at hl 0 rfl) ?_
    refine lv_iload_n hx hb dL_cell_28 rfl (lv_at hl 0 rfl) ?_
    refine lv_bipush (v := 13) hx hb dL_cell_29 (by decide) ?_
    obtain ⟨u5_, hu5_⟩ : ∃ v, (((69069 * ((xs i) + (nI (1009 * i)))) + 12345 : Int32).toUInt32 >>> ((13 : Int32).toUInt32 &&& Int32.toUInt32 31)).toInt32 = v := ⟨_, rfl⟩
    refine lv_iushr (v := u5_) hx hb dL_cell_31 hu5_ ?_
    refine lv_ixor hx hb dL_cell_32 ?_
    refine lv_ldc (own := "SignatoryLaw") (v := 1103515245) hx hb hC.2.2.2.2.2.1 (gw hC.1 hC.2.1 k_661 rfl) dL_cell_33 ?_
    refine lv_imul hx hb dL_cell_35 ?_
    refine lv_istore_n (lv' := [(2, .int ((((69069 * ((xs i) + (nI (1009 * i)))) + 12345) ^^^ u5_) * 1103515245)), (0, .ref b), (1, .int (nI i))]) hx hb dL_cell_36 rfl hl (by decide) rfl (fun ls hl => ?_)
    refine lv_iload_n hx hb dL_cell_37 rfl (lv_at hl 0 rfl) ?_
    refine lv_iload_n hx hb dL_cell_38 rfl (lv_at hl 0 rfl) ?_
    refine lv_bipush (v := 16) hx hb dL_cell_39 (by decide) ?_
    obtain ⟨u6_, hu6_⟩ : ∃ v, (((((69069 * ((xs i) + (nI (1009 * i)))) + 12345) ^^^ u5_) * 1103515245 : Int32).toUInt32 >>> ((16 : Int32).toUInt32 &&& Int32.toUInt32 31)).toInt32 = v := ⟨_, rfl⟩
    refine lv_iushr (v := u6_) hx hb dL_cell_41 hu6_ ?_
    refine lv_ixor hx hb dL_cell_42 ?_
    exact g_iret hC hr dL_cell_43 (Nat.le_of_ble_eq_true rfl) (Nat.le_of_ble_eq_true rfl) trivial
set_option maxHeartbeats 4000000 in
set_option maxRecDepth 100000 in
theorem c_L_in {l : Launch} {E : gV} (hE : gOK l E) {b L : Nat} {xs : Nat → Int32} (hX : va_X b L xs E.2.1 E.2.1.heap) (hbl : b < E.2.1.heap.size) (hL : L < 2 ^ 31) (i k : Nat) (hi : i < 2 ^ 31) (h0 : 0 < k) (hk : k < 2 ^ 31) : gM l E yL_in cL_in 3 (some .int) ({ frames := 1, cells := 0, slots := 0, locals := 22 } : Room) [.ref b, .int (nI i), .int (nI k)] (fun H => gFz E H) (gQR (gPi (fun r => ∃ j : Nat, j < k ∧ r = nI j))) (fun _ => False) gN := by
  refine gM_body hE (by decide +kernel) (Nat.le_of_ble_eq_true rfl) ?_
  intro p_ e_ s m args below meth c hC ht hr hname hP ls hl
  have hx := hC.2.2.1
  have hb := hC.2.2.2.1
  have hl : lv_has ls 3 [(0, .ref b), (1, .int (nI i)), (2, .int (nI k))] := hl
  refine lv_aload_n hx hb dL_in_0 rfl (lv_at hl 0 rfl) ?_
  refine lv_iload_n hx hb dL_in_1 rfl (lv_at hl 1 rfl) ?_
  refine g_cRi (k2 := 0) (n2 := 0) (g_runS (rest := []) hC (c_L_cell hE hX hbl hL i hi) Y_L_cell k_657 S_L_cell hP rfl hl.1 dL_in_2 ⟨Nat.le_of_ble_eq_true rfl, Nat.le_of_ble_eq_true rfl⟩ ⟨Nat.le_of_ble_eq_true rfl, Nat.le_of_ble_eq_true rfl⟩ rfl (Nat.le_of_ble_eq_true rfl)) rfl rfl g_no (fun r1_ h2_ => ?_)
  refine lv_ldc (own := "SignatoryLaw") (v := 2147483647) hx hb hC.2.2.2.2.2.1 (gw hC.1 hC.2.1 k_662 rfl) dL_in_5 ?_
  refine lv_iand hx hb dL_in_7 ?_
  obtain ⟨j0, hj0, ej0⟩ := pk_andE r1_ (m := 2147483647) 31 (by decide)
  rw [ej0]
  refine lv_iload_n hx hb dL_in_8 rfl (lv_at hl 2 rfl) ?_
  refine g_nremn (a := j0) (b := k) (by omega) (by omega) (by omega) hx hb dL_in_9 ?_
  exact g_iret hC hr dL_in_10 (Nat.le_of_ble_eq_true rfl) (Nat.le_of_ble_eq_true rfl) ⟨j0 % k, Nat.mod_lt _ h0, rfl⟩
set_option maxHeartbeats 4000000 in
set_option maxRecDepth 100000 in
theorem c_L_hand {l : Launch} {E : gV} (hE : gOK l E) (x : Int32) : gM l E yL_hand cL_hand 1 (some .char) ({ frames := 0, cells := 0, slots := 0, locals := 0 } : Room) [.int x] (fun H => True) (gQR (gPi (fun r => r = hch x))) (fun _ => False) gN := by
  refine gM_body hE (by decide +kernel) (Nat.le_of_ble_eq_true rfl) ?_
  intro p_ e_ s m args below meth c hC ht hr hname hP ls hl
  have hx := hC.2.2.1
  have hb := hC.2.2.2.1
  have hl : lv_has ls 1 [(0, .int x)] := hl
  refine lv_iload_n hx hb dL_hand_0 rfl (lv_at hl 0 rfl) ?_
  refine lv_if_ne (tgt := 9) hx hb dL_hand_1 (by decide) (fun c1_ => ?_) (fun c1_ => ?_)
  · refine lv_iload_n hx hb dL_hand_9 rfl (lv_at hl 0 rfl) ?_
    refine lv_iconst (v := 1) hx hb dL_hand_10 (by decide) ?_
    refine lv_icmp_ne (tgt := 19) hx hb dL_hand_11 (by decide) (fun c3_ => ?_) (fun c3_ => ?_)
    · refine lv_bipush (v := 98) hx hb dL_hand_19 (by decide) ?_
      exact g_zret hC hr rfl dL_hand_21 (Nat.le_of_ble_eq_true rfl) (Nat.le_of_ble_eq_true rfl) (by unfold hch; grind)
    · refine lv_bipush (v := 97) hx hb dL_hand_14 (by decide) ?_
      refine lv_goto (tgt := 21) hx hb dL_hand_16 (by decide) ?_
      exact g_zret hC hr rfl dL_hand_21 (Nat.le_of_ble_eq_true rfl) (Nat.le_of_ble_eq_true rfl) (by unfold hch; grind)
  · refine lv_bipush (v := 115) hx hb dL_hand_4 (by decide) ?_
    refine lv_goto (tgt := 21) hx hb dL_hand_6 (by decide) ?_
    exact g_zret hC hr rfl dL_hand_21 (Nat.le_of_ble_eq_true rfl) (Nat.le_of_ble_eq_true rfl) (by unfold hch; grind)
set_option maxHeartbeats 4000000 in
set_option maxRecDepth 100000 in
theorem c_L_acts {l : Launch} {E : gV} (hE : gOK l E) {nb D : Nat} {f : Nat → Int32} {μ : F2} {K : Nat → Nat} (hN : NL f μ K D) (hU : PU μ K) (i j : Nat) (hi : i < K 0) (hj : j < K 0) : gM l E yL_acts cL_acts 3 (some .boolean) ({ frames := 0, cells := 0, slots := 0, locals := 0 } : Room) [.ref nb, .int (nI i), .int (nI j)] (fun H => gNet E nb f H) (gQR (gPi (bz (fAct (mv μ) (nI i) (nI j))))) (fun _ => False) gN := by
  refine gM_body hE (by decide +kernel) (Nat.le_of_ble_eq_true rfl) ?_
  intro p_ e_ s m args below meth c hC ht hr hname hP ls hl
  have hx := hC.2.2.1
  have hb := hC.2.2.2.1
  have hl : lv_has ls 3 [(0, .ref nb), (1, .int (nI i)), (2, .int (nI j))] := hl
  have hA : gNet E nb f s.heap := hP
  have hb0 := hN.b0
  have hb1 := hN.b1
  have hb2 := hN.b2
  have ej : (nI j).toNatClampNeg = j := nI_clamp (by omega)
  have hm2 := nI_m2 i (by omega)
  have hab := hN.ab1 (j := j) (by omega)
  refine lv_iload_n hx hb dL_acts_0 rfl (lv_at hl 1 rfl) ?_
  refine lv_iload_n hx hb dL_acts_1 rfl (lv_at hl 2 rfl) ?_
  refine lv_icmp_eq (tgt := 29) hx hb dL_acts_2 (by decide) (fun c1_ => ?_) (fun c1_ => ?_)
  · have n2_ : i = j := (nI_eq (by omega) (by omega)).mp c1_
    refine lv_iconst (v := 1) hx hb dL_acts_29 (by decide) ?_
    refine lv_goto (tgt := 34) hx hb dL_acts_30 (by decide) ?_
    exact g_zret hC hr rfl dL_acts_34 (Nat.le_of_ble_eq_true rfl) (Nat.le_of_ble_eq_true rfl) (by
      first
      | (refine bz_1 ?_; unfold fAct; first | exact Or.inl (by assumption) | (refine Or.inr ?_; rw [ej]; show (if μ 0 j ≠ 0 then μ 2 j else -2) = nI i; rw [if_pos (by grind)]; first | assumption | exact Classical.not_not.mp (by assumption)))
      | (refine bz_0 ?_; unfold fAct; rw [ej]; show ¬ (nI i = nI j ∨ (if μ 0 j ≠ 0 then μ 2 j else -2) = nI i); intro q; grind))
  · have n2_ : ¬ i = j := fun z => c1_ (congrArg nI z)
    refine lv_aload_n hx hb dL_acts_5 rfl (lv_at hl 0 rfl) ?_
    refine lv_bipush (v := 10) hx hb dL_acts_6 (by decide) ?_
    refine lv_iconst (v := 2) hx hb dL_acts_8 (by decide) ?_
    refine lv_iload_n hx hb dL_acts_9 rfl (lv_at hl 2 rfl) ?_
    refine g_nmuln (a := 2) (b := j) hx hb dL_acts_10 ?_
    refine g_naddn (a := 10) (b := 2 * j) hx hb dL_acts_11 ?_
    refine g_iald (n := 450) (f := f) (j := 10 + 2 * j) hC hA (by omega) (by decide) dL_acts_12 ?_
    rw [show f (10 + 2 * j) = μ 0 j from hN.ab (j := j) (by omega) (by omega)]
    refine lv_iconst (v := 1) hx hb dL_acts_13 (by decide) ?_
    refine lv_icmp_ne (tgt := 33) hx hb dL_acts_14 (by decide) (fun c3_ => ?_) (fun c3_ => ?_)
    · refine lv_iconst (v := 0) hx hb dL_acts_33 (by decide) ?_
      exact g_zret hC hr rfl dL_acts_34 (Nat.le_of_ble_eq_true rfl) (Nat.le_of_ble_eq_true rfl) (by
      first
      | (refine bz_1 ?_; unfold fAct; first | exact Or.inl (by assumption) | (refine Or.inr ?_; rw [ej]; show (if μ 0 j ≠ 0 then μ 2 j else -2) = nI i; rw [if_pos (by grind)]; first | assumption | exact Classical.not_not.mp (by assumption)))
      | (refine bz_0 ?_; unfold fAct; rw [ej]; show ¬ (nI i = nI j ∨ (if μ 0 j ≠ 0 then μ 2 j else -2) = nI i); intro q; grind))
    · refine lv_aload_n hx hb dL_acts_17 rfl (lv_at hl 0 rfl) ?_
      refine lv_bipush (v := 11) hx hb dL_acts_18 (by decide) ?_
      refine lv_iconst (v := 2) hx hb dL_acts_20 (by decide) ?_
      refine lv_iload_n hx hb dL_acts_21 rfl (lv_at hl 2 rfl) ?_
      refine g_nmuln (a := 2) (b := j) hx hb dL_acts_22 ?_
      refine g_naddn (a := 11) (b := 2 * j) hx hb dL_acts_23 ?_
      refine g_iald (n := 450) (f := f) (j := 11 + 2 * j) hC hA (by omega) (by decide) dL_acts_24 ?_
      rw [show f (11 + 2 * j) = μ 2 j from hN.sb (j := j) (by omega) (by omega)]
      refine lv_iload_n hx hb dL_acts_25 rfl (lv_at hl 1 rfl) ?_
      refine lv_icmp_ne (tgt := 33) hx hb dL_acts_26 (by decide) (fun c4_ => ?_) (fun c4_ => ?_)
      · refine lv_iconst (v := 0) hx hb dL_acts_33 (by decide) ?_
        exact g_zret hC hr rfl dL_acts_34 (Nat.le_of_ble_eq_true rfl) (Nat.le_of_ble_eq_true rfl) (by
      first
      | (refine bz_1 ?_; unfold fAct; first | exact Or.inl (by assumption) | (refine Or.inr ?_; rw [ej]; show (if μ 0 j ≠ 0 then μ 2 j else -2) = nI i; rw [if_pos (by grind)]; first | assumption | exact Classical.not_not.mp (by assumption)))
      | (refine bz_0 ?_; unfold fAct; rw [ej]; show ¬ (nI i = nI j ∨ (if μ 0 j ≠ 0 then μ 2 j else -2) = nI i); intro q; grind))
      · refine lv_iconst (v := 1) hx hb dL_acts_29 (by decide) ?_
        refine lv_goto (tgt := 34) hx hb dL_acts_30 (by decide) ?_
        exact g_zret hC hr rfl dL_acts_34 (Nat.le_of_ble_eq_true rfl) (Nat.le_of_ble_eq_true rfl) (by
      first
      | (refine bz_1 ?_; unfold fAct; first | exact Or.inl (by assumption) | (refine Or.inr ?_; rw [ej]; show (if μ 0 j ≠ 0 then μ 2 j else -2) = nI i; rw [if_pos (by grind)]; first | assumption | exact Classical.not_not.mp (by assumption)))
      | (refine bz_0 ?_; unfold fAct; rw [ej]; show ¬ (nI i = nI j ∨ (if μ 0 j ≠ 0 then μ 2 j else -2) = nI i); intro q; grind))
