set_option maxHeartbeats 4000000 in
set_option maxRecDepth 100000 in
theorem c_X4_requirePerson {l : Launch} {E : gV} (hE : gOK l E) {α : Nat → Nat → Nat} {ξ : F2} {M : Nat → F2} {N : Nat → Nat} (p0 : Int32) : gM l E yX4_requirePerson cX4_requirePerson 2 none ({ frames := 8, cells := 1, slots := 6, locals := 140 } : Room) [.ref (α 3 0), .int p0] (fun H => RX E α ξ M N H) (gQR (gPv (isP (N 3) p0))) (fun X => X = "java/lang/IndexOutOfBoundsException" ∧ ¬ (isP (N 3) p0)) gN := by
  refine gM_body hE (by decide +kernel) (Nat.le_of_ble_eq_true rfl) ?_
  intro p_ e_ s m args below meth c hC ht hr hname hP ls hl
  have hx := hC.2.2.1
  have hb := hC.2.2.2.1
  have hl : lv_has ls 2 [(0, .ref (α 3 0)), (1, .int p0)] := hl
  have hR : RX E α ξ M N s.heap := hP
  have hSr := hR.inv.src (M 0)
  obtain ⟨hN0, hN1, hN2, hN3, -, hHo, hDe⟩ := hR.inv
  refine lv_iload_n hx hb dX4_requirePerson_0 rfl (lv_at hl 1 rfl) ?_
  refine lv_aload_n hx hb dX4_requirePerson_1 rfl (lv_at hl 0 rfl) ?_
  refine g_get (v := .int (nI (N 3))) hC hR.sig (C := RX4) (T := TX4) (N := 6) rfl u4_in 5 (by decide) k_731 rfl dX4_requirePerson_2 ?_
  refine g_cRi (k2 := 0) (n2 := 0) (g_runS (rest := []) hC (c_X4_isIndex hE p0 (nI (N 3))) Y_X4_isIndex k_41 S_X4_isIndex trivial rfl hl.1 dX4_requirePerson_5 ⟨Nat.le_of_ble_eq_true rfl, Nat.le_of_ble_eq_true rfl⟩ ⟨Nat.le_of_ble_eq_true rfl, Nat.le_of_ble_eq_true rfl⟩ rfl (Nat.le_of_ble_eq_true rfl)) rfl rfl g_no (fun r1_ h2_ => ?_)
  refine lv_if_ne (tgt := 22) hx hb dX4_requirePerson_8 (by decide) (fun c3_ => ?_) (fun c3_ => ?_)
  · have q4_ := bz.t h2_ c3_
    exact g_vret hC hr dX4_requirePerson_22 (Nat.le_of_ble_eq_true rfl) (Nat.le_of_ble_eq_true rfl) (by assumption)
  · have q4_ := bz.f h2_ c3_
    exact g_throwW hC ht hR.frz th_289 k_89 sx_291 hl.1 dX4_requirePerson_11 dX4_requirePerson_14 dX4_requirePerson_15 dX4_requirePerson_18 dX4_requirePerson_21 ⟨Nat.le_of_ble_eq_true rfl, Nat.le_of_ble_eq_true rfl⟩ ⟨Nat.le_of_ble_eq_true rfl, Nat.le_of_ble_eq_true rfl⟩ (Nat.le_of_ble_eq_true rfl) (Nat.le_of_ble_eq_true rfl) ⟨rfl, by assumption⟩
set_option maxHeartbeats 4000000 in
set_option maxRecDepth 100000 in
theorem c_X4_requireKind {l : Launch} {E : gV} (hE : gOK l E)  (k0 : Int32) : gM l E yX4_requireKind cX4_requireKind 1 none ({ frames := 8, cells := 1, slots := 6, locals := 140 } : Room) [.int k0] (fun H => gFz E H) (gQR (gPv (isKd k0))) (fun X => X = "java/lang/IllegalArgumentException" ∧ ¬ (isKd k0)) gN := by
  refine gM_body hE (by decide +kernel) (Nat.le_of_ble_eq_true rfl) ?_
  intro p_ e_ s m args below meth c hC ht hr hname hP ls hl
  have hx := hC.2.2.1
  have hb := hC.2.2.2.1
  have hl : lv_has ls 1 [(0, .int k0)] := hl
  have hF : gFz E s.heap := hP
  refine lv_iload_n hx hb dX4_requireKind_0 rfl (lv_at hl 0 rfl) ?_
  refine lv_iconst (v := 0) hx hb dX4_requireKind_1 (by decide) ?_
  refine lv_iconst (v := 3) hx hb dX4_requireKind_2 (by decide) ?_
  refine g_cRi (k2 := 0) (n2 := 0) (g_runS (rest := []) hC (c_X4_isBetween hE k0 0 3) Y_X4_isBetween k_283 S_X4_isBetween trivial rfl hl.1 dX4_requireKind_3 ⟨Nat.le_of_ble_eq_true rfl, Nat.le_of_ble_eq_true rfl⟩ ⟨Nat.le_of_ble_eq_true rfl, Nat.le_of_ble_eq_true rfl⟩ rfl (Nat.le_of_ble_eq_true rfl)) rfl rfl g_no (fun r1_ h2_ => ?_)
  refine lv_if_ne (tgt := 20) hx hb dX4_requireKind_6 (by decide) (fun c3_ => ?_) (fun c3_ => ?_)
  · have q4_ := bz.t h2_ c3_
    exact g_vret hC hr dX4_requireKind_20 (Nat.le_of_ble_eq_true rfl) (Nat.le_of_ble_eq_true rfl) (by assumption)
  · have q4_ := bz.f h2_ c3_
    exact g_throwW hC ht hF th_47 k_286 sx_298 hl.1 dX4_requireKind_9 dX4_requireKind_12 dX4_requireKind_13 dX4_requireKind_16 dX4_requireKind_19 ⟨Nat.le_of_ble_eq_true rfl, Nat.le_of_ble_eq_true rfl⟩ ⟨Nat.le_of_ble_eq_true rfl, Nat.le_of_ble_eq_true rfl⟩ (Nat.le_of_ble_eq_true rfl) (Nat.le_of_ble_eq_true rfl) ⟨rfl, by assumption⟩
set_option maxHeartbeats 4000000 in
set_option maxRecDepth 100000 in
theorem c_X4_requireLimitAndDays {l : Launch} {E : gV} (hE : gOK l E)  (li fi la : Int32) : gM l E yX4_requireLimitAndDays cX4_requireLimitAndDays 3 none ({ frames := 8, cells := 1, slots := 6, locals := 140 } : Room) [.int li, .int fi, .int la] (fun H => gFz E H) (gQR (gPv (isPw li fi la))) (fun X => X = "java/lang/IllegalArgumentException" ∧ ¬ (isPw li fi la)) gN := by
  refine gM_body hE (by decide +kernel) (Nat.le_of_ble_eq_true rfl) ?_
  intro p_ e_ s m args below meth c hC ht hr hname hP ls hl
  have hx := hC.2.2.1
  have hb := hC.2.2.2.1
  have hl : lv_has ls 3 [(0, .int li), (1, .int fi), (2, .int la)] := hl
  have hF : gFz E s.heap := hP
  refine lv_iload_n hx hb dX4_requireLimitAndDays_0 rfl (lv_at hl 0 rfl) ?_
  refine lv_iconst (v := 1) hx hb dX4_requireLimitAndDays_1 (by decide) ?_
  refine lv_ldcw (own := "Signatory") (v := 99999) hx hb hC.2.2.2.2.2.1 (gw hC.1 hC.2.1 k_775 rfl) dX4_requireLimitAndDays_2 ?_
  refine g_cRi (k2 := 0) (n2 := 0) (g_runS (rest := []) hC (c_X4_isBetween hE li 1 99999) Y_X4_isBetween k_283 S_X4_isBetween trivial rfl hl.1 dX4_requireLimitAndDays_5 ⟨Nat.le_of_ble_eq_true rfl, Nat.le_of_ble_eq_true rfl⟩ ⟨Nat.le_of_ble_eq_true rfl, Nat.le_of_ble_eq_true rfl⟩ rfl (Nat.le_of_ble_eq_true rfl)) rfl rfl g_no (fun r1_ h2_ => ?_)
  refine lv_if_ne (tgt := 22) hx hb dX4_requireLimitAndDays_8 (by decide) (fun c3_ => ?_) (fun c3_ => ?_)
  · have q4_ := bz.t h2_ c3_
    refine lv_iload_n hx hb dX4_requireLimitAndDays_22 rfl (lv_at hl 1 rfl) ?_
    refine lv_iconst (v := 0) hx hb dX4_requireLimitAndDays_23 (by decide) ?_
    refine lv_sipush (v := 999) hx hb dX4_requireLimitAndDays_24 (by decide) ?_
    refine g_cRi (k2 := 0) (n2 := 0) (g_runS (rest := []) hC (c_X4_isBetween hE fi 0 999) Y_X4_isBetween k_283 S_X4_isBetween trivial rfl hl.1 dX4_requireLimitAndDays_27 ⟨Nat.le_of_ble_eq_true rfl, Nat.le_of_ble_eq_true rfl⟩ ⟨Nat.le_of_ble_eq_true rfl, Nat.le_of_ble_eq_true rfl⟩ rfl (Nat.le_of_ble_eq_true rfl)) rfl rfl g_no (fun r5_ h6_ => ?_)
    refine lv_if_eq (tgt := 44) hx hb dX4_requireLimitAndDays_30 (by decide) (fun c7_ => ?_) (fun c7_ => ?_)
    · have q8_ := bz.f h6_ c7_
      exact g_throwW hC ht hF th_47 k_777 sx_305 hl.1 dX4_requireLimitAndDays_44 dX4_requireLimitAndDays_47 dX4_requireLimitAndDays_48 dX4_requireLimitAndDays_51 dX4_requireLimitAndDays_54 ⟨Nat.le_of_ble_eq_true rfl, Nat.le_of_ble_eq_true rfl⟩ ⟨Nat.le_of_ble_eq_true rfl, Nat.le_of_ble_eq_true rfl⟩ (Nat.le_of_ble_eq_true rfl) (Nat.le_of_ble_eq_true rfl) ⟨rfl, by grind⟩
    · have q8_ := bz.t h6_ c7_
      refine lv_iload_n hx hb dX4_requireLimitAndDays_33 rfl (lv_at hl 2 rfl) ?_
      refine lv_iload_n hx hb dX4_requireLimitAndDays_34 rfl (lv_at hl 1 rfl) ?_
      refine lv_sipush (v := 999) hx hb dX4_requireLimitAndDays_35 (by decide) ?_
      refine g_cRi (k2 := 0) (n2 := 0) (g_runS (rest := []) hC (c_X4_isBetween hE la fi 999) Y_X4_isBetween k_283 S_X4_isBetween trivial rfl hl.1 dX4_requireLimitAndDays_38 ⟨Nat.le_of_ble_eq_true rfl, Nat.le_of_ble_eq_true rfl⟩ ⟨Nat.le_of_ble_eq_true rfl, Nat.le_of_ble_eq_true rfl⟩ rfl (Nat.le_of_ble_eq_true rfl)) rfl rfl g_no (fun r9_ h10_ => ?_)
      refine lv_if_ne (tgt := 55) hx hb dX4_requireLimitAndDays_41 (by decide) (fun c11_ => ?_) (fun c11_ => ?_)
      · have q12_ := bz.t h10_ c11_
        exact g_vret hC hr dX4_requireLimitAndDays_55 (Nat.le_of_ble_eq_true rfl) (Nat.le_of_ble_eq_true rfl) (by grind)
      · have q12_ := bz.f h10_ c11_
        exact g_throwW hC ht hF th_47 k_777 sx_305 hl.1 dX4_requireLimitAndDays_44 dX4_requireLimitAndDays_47 dX4_requireLimitAndDays_48 dX4_requireLimitAndDays_51 dX4_requireLimitAndDays_54 ⟨Nat.le_of_ble_eq_true rfl, Nat.le_of_ble_eq_true rfl⟩ ⟨Nat.le_of_ble_eq_true rfl, Nat.le_of_ble_eq_true rfl⟩ (Nat.le_of_ble_eq_true rfl) (Nat.le_of_ble_eq_true rfl) ⟨rfl, by grind⟩
  · have q4_ := bz.f h2_ c3_
    exact g_throwW hC ht hF th_47 k_776 sx_303 hl.1 dX4_requireLimitAndDays_11 dX4_requireLimitAndDays_14 dX4_requireLimitAndDays_15 dX4_requireLimitAndDays_18 dX4_requireLimitAndDays_21 ⟨Nat.le_of_ble_eq_true rfl, Nat.le_of_ble_eq_true rfl⟩ ⟨Nat.le_of_ble_eq_true rfl, Nat.le_of_ble_eq_true rfl⟩ (Nat.le_of_ble_eq_true rfl) (Nat.le_of_ble_eq_true rfl) ⟨rfl, by grind⟩
set_option maxHeartbeats 4000000 in
set_option maxRecDepth 100000 in
theorem c_X4_requireDealing {l : Launch} {E : gV} (hE : gOK l E)  (k0 a0 pa0 : Int32) : gM l E yX4_requireDealing cX4_requireDealing 3 none ({ frames := 9, cells := 2, slots := 12, locals := 160 } : Room) [.int k0, .int a0, .int pa0] (fun H => gFz E H) (gQR (gPv (isDl k0 a0 pa0))) (fun X => X = "java/lang/IllegalArgumentException" ∧ ¬ (isDl k0 a0 pa0)) gN := by
  refine gM_body hE (by decide +kernel) (Nat.le_of_ble_eq_true rfl) ?_
  intro p_ e_ s m args below meth c hC ht hr hname hP ls hl
  have hx := hC.2.2.1
  have hb := hC.2.2.2.1
  have hl : lv_has ls 3 [(0, .int k0), (1, .int a0), (2, .int pa0)] := hl
  have hF : gFz E s.heap := hP
  refine lv_iload_n hx hb dX4_requireDealing_0 rfl (lv_at hl 0 rfl) ?_
  refine g_cRv (k2 := 1) (n2 := 6) (g_runS (rest := []) hC (c_X4_requireKind hE  k0) Y_X4_requireKind k_280 S_X4_requireKind hF rfl hl.1 dX4_requireDealing_1 ⟨Nat.le_of_ble_eq_true rfl, Nat.le_of_ble_eq_true rfl⟩ ⟨Nat.le_of_ble_eq_true rfl, Nat.le_of_ble_eq_true rfl⟩ rfl (Nat.le_of_ble_eq_true rfl)) rfl rfl (g_up hC ht (fun X h => ⟨h.1, fun z => h.2 z.1⟩) (Nat.le_of_ble_eq_true rfl) (Nat.le_of_ble_eq_true rfl)) (fun h2_ => ?_)
  refine lv_iload_n hx hb dX4_requireDealing_4 rfl (lv_at hl 2 rfl) ?_
  refine lv_iconst (v := 0) hx hb dX4_requireDealing_5 (by decide) ?_
  refine lv_bipush (v := 9) hx hb dX4_requireDealing_6 (by decide) ?_
  refine g_cRi (k2 := 1) (n2 := 6) (g_runS (rest := []) hC (c_X4_isBetween hE pa0 0 9) Y_X4_isBetween k_283 S_X4_isBetween trivial rfl hl.1 dX4_requireDealing_8 ⟨Nat.le_of_ble_eq_true rfl, Nat.le_of_ble_eq_true rfl⟩ ⟨Nat.le_of_ble_eq_true rfl, Nat.le_of_ble_eq_true rfl⟩ rfl (Nat.le_of_ble_eq_true rfl)) rfl rfl g_no (fun r3_ h4_ => ?_)
  refine lv_if_ne (tgt := 25) hx hb dX4_requireDealing_11 (by decide) (fun c5_ => ?_) (fun c5_ => ?_)
  · have q6_ := bz.t h4_ c5_
    refine lv_iload_n hx hb dX4_requireDealing_25 rfl (lv_at hl 1 rfl) ?_
    refine lv_iconst (v := 1) hx hb dX4_requireDealing_26 (by decide) ?_
    refine lv_sipush (v := 9999) hx hb dX4_requireDealing_27 (by decide) ?_
    refine g_cRi (k2 := 1) (n2 := 6) (g_runS (rest := []) hC (c_X4_isBetween hE a0 1 9999) Y_X4_isBetween k_283 S_X4_isBetween trivial rfl hl.1 dX4_requireDealing_30 ⟨Nat.le_of_ble_eq_true rfl, Nat.le_of_ble_eq_true rfl⟩ ⟨Nat.le_of_ble_eq_true rfl, Nat.le_of_ble_eq_true rfl⟩ rfl (Nat.le_of_ble_eq_true rfl)) rfl rfl g_no (fun r7_ h8_ => ?_)
    refine lv_if_ne (tgt := 47) hx hb dX4_requireDealing_33 (by decide) (fun c9_ => ?_) (fun c9_ => ?_)
    · have q10_ := bz.t h8_ c9_
      exact g_vret hC hr dX4_requireDealing_47 (Nat.le_of_ble_eq_true rfl) (Nat.le_of_ble_eq_true rfl) (by grind)
    · have q10_ := bz.f h8_ c9_
      exact g_throwW hC ht hF th_47 k_288 sx_309 hl.1 dX4_requireDealing_36 dX4_requireDealing_39 dX4_requireDealing_40 dX4_requireDealing_43 dX4_requireDealing_46 ⟨Nat.le_of_ble_eq_true rfl, Nat.le_of_ble_eq_true rfl⟩ ⟨Nat.le_of_ble_eq_true rfl, Nat.le_of_ble_eq_true rfl⟩ (Nat.le_of_ble_eq_true rfl) (Nat.le_of_ble_eq_true rfl) ⟨rfl, by grind⟩
  · have q6_ := bz.f h4_ c5_
    exact g_throwW hC ht hF th_47 k_287 sx_307 hl.1 dX4_requireDealing_14 dX4_requireDealing_17 dX4_requireDealing_18 dX4_requireDealing_21 dX4_requireDealing_24 ⟨Nat.le_of_ble_eq_true rfl, Nat.le_of_ble_eq_true rfl⟩ ⟨Nat.le_of_ble_eq_true rfl, Nat.le_of_ble_eq_true rfl⟩ (Nat.le_of_ble_eq_true rfl) (Nat.le_of_ble_eq_true rfl) ⟨rfl, by grind⟩
set_option maxHeartbeats 4000000 in
set_option maxRecDepth 100000 in
theorem c_X4_requireDayCount {l : Launch} {E : gV} (hE : gOK l E)  (d0 : Int32) : gM l E yX4_requireDayCount cX4_requireDayCount 1 none ({ frames := 8, cells := 1, slots := 6, locals := 140 } : Room) [.int d0] (fun H => gFz E H) (gQR (gPv (1 ≤ d0 ∧ d0 ≤ 99))) (fun X => X = "java/lang/IllegalArgumentException" ∧ ¬ (1 ≤ d0 ∧ d0 ≤ 99)) gN := by
  refine gM_body hE (by decide +kernel) (Nat.le_of_ble_eq_true rfl) ?_
  intro p_ e_ s m args below meth c hC ht hr hname hP ls hl
  have hx := hC.2.2.1
  have hb := hC.2.2.2.1
  have hl : lv_has ls 1 [(0, .int d0)] := hl
  have hF : gFz E s.heap := hP
  refine lv_iload_n hx hb dX4_requireDayCount_0 rfl (lv_at hl 0 rfl) ?_
  refine lv_iconst (v := 1) hx hb dX4_requireDayCount_1 (by decide) ?_
  refine lv_bipush (v := 99) hx hb dX4_requireDayCount_2 (by decide) ?_
  refine g_cRi (k2 := 0) (n2 := 0) (g_runS (rest := []) hC (c_X4_isBetween hE d0 1 99) Y_X4_isBetween k_283 S_X4_isBetween trivial rfl hl.1 dX4_requireDayCount_4 ⟨Nat.le_of_ble_eq_true rfl, Nat.le_of_ble_eq_true rfl⟩ ⟨Nat.le_of_ble_eq_true rfl, Nat.le_of_ble_eq_true rfl⟩ rfl (Nat.le_of_ble_eq_true rfl)) rfl rfl g_no (fun r1_ h2_ => ?_)
  refine lv_if_ne (tgt := 21) hx hb dX4_requireDayCount_7 (by decide) (fun c3_ => ?_) (fun c3_ => ?_)
  · have q4_ := bz.t h2_ c3_
    exact g_vret hC hr dX4_requireDayCount_21 (Nat.le_of_ble_eq_true rfl) (Nat.le_of_ble_eq_true rfl) (by assumption)
  · have q4_ := bz.f h2_ c3_
    exact g_throwW hC ht hF th_47 k_634 sx_311 hl.1 dX4_requireDayCount_10 dX4_requireDayCount_13 dX4_requireDayCount_14 dX4_requireDayCount_17 dX4_requireDayCount_20 ⟨Nat.le_of_ble_eq_true rfl, Nat.le_of_ble_eq_true rfl⟩ ⟨Nat.le_of_ble_eq_true rfl, Nat.le_of_ble_eq_true rfl⟩ (Nat.le_of_ble_eq_true rfl) (Nat.le_of_ble_eq_true rfl) ⟨rfl, by assumption⟩
set_option maxHeartbeats 4000000 in
set_option maxRecDepth 100000 in
theorem c_X4_requireTwo {l : Launch} {E : gV} (hE : gOK l E)  (p0 o0 : Int32) : gM l E yX4_requireTwo cX4_requireTwo 2 none ({ frames := 8, cells := 1, slots := 6, locals := 140 } : Room) [.int p0, .int o0] (fun H => gFz E H) (gQR (gPv (¬ p0 = o0))) (fun X => X = "java/lang/UnsupportedOperationException" ∧ ¬ (¬ p0 = o0)) gN := by
  refine gM_body hE (by decide +kernel) (Nat.le_of_ble_eq_true rfl) ?_
  intro p_ e_ s m args below meth c hC ht hr hname hP ls hl
  have hx := hC.2.2.1
  have hb := hC.2.2.2.1
  have hl : lv_has ls 2 [(0, .int p0), (1, .int o0)] := hl
  have hF : gFz E s.heap := hP
  refine lv_iload_n hx hb dX4_requireTwo_0 rfl (lv_at hl 0 rfl) ?_
  refine lv_iload_n hx hb dX4_requireTwo_1 rfl (lv_at hl 1 rfl) ?_
  refine lv_icmp_ne (tgt := 16) hx hb dX4_requireTwo_2 (by decide) (fun c1_ => ?_) (fun c1_ => ?_)
  · exact g_vret hC hr dX4_requireTwo_16 (Nat.le_of_ble_eq_true rfl) (Nat.le_of_ble_eq_true rfl) (by assumption)
  · exact g_throwW hC ht hF th_116 k_546 sx_313 hl.1 dX4_requireTwo_5 dX4_requireTwo_8 dX4_requireTwo_9 dX4_requireTwo_12 dX4_requireTwo_15 ⟨Nat.le_of_ble_eq_true rfl, Nat.le_of_ble_eq_true rfl⟩ ⟨Nat.le_of_ble_eq_true rfl, Nat.le_of_ble_eq_true rfl⟩ (Nat.le_of_ble_eq_true rfl) (Nat.le_of_ble_eq_true rfl) ⟨rfl, by exact fun z => z (by assumption)⟩
set_option maxHeartbeats 4000000 in
set_option maxRecDepth 100000 in
theorem c_X4_requireRoomForPower {l : Launch} {E : gV} (hE : gOK l E) {α : Nat → Nat → Nat} {ξ : F2} {M : Nat → F2} {N : Nat → Nat} : gM l E yX4_requireRoomForPower cX4_requireRoomForPower 1 none ({ frames := 8, cells := 1, slots := 6, locals := 140 } : Room) [.ref (α 3 0)] (fun H => RX E α ξ M N H) (gQR (gPv (¬ N 0 = 20))) (fun X => X = "java/lang/IllegalStateException" ∧ ¬ (¬ N 0 = 20)) gN := by
  refine gM_body hE (by decide +kernel) (Nat.le_of_ble_eq_true rfl) ?_
  intro p_ e_ s m args below meth c hC ht hr hname hP ls hl
  have hx := hC.2.2.1
  have hb := hC.2.2.2.1
  have hl : lv_has ls 1 [(0, .ref (α 3 0))] := hl
  have hR : RX E α ξ M N s.heap := hP
  have hSr := hR.inv.src (M 0)
  obtain ⟨hN0, hN1, hN2, hN3, -, hHo, hDe⟩ := hR.inv
  refine lv_aload_n hx hb dX4_requireRoomForPower_0 rfl (lv_at hl 0 rfl) ?_
  refine g_get (v := .ref (α 3 1)) hC hR.sig (C := RX4) (T := TX4) (N := 6) rfl u4_in 0 (by decide) k_726 rfl dX4_requireRoomForPower_1 ?_
  refine g_cRFi (k2 := 0) (n2 := 0) (g_runF (rest := []) hC (c_Jx4a65c_size_8abf5 hE (α 3 1) (α 3 (14 + 0)) (N 0) (α 0)) Y_Jx4a65c_size_8abf5 k_165 F_Jx4a65c_size_8abf5 (hR.list 0 (by decide)).rcv rfl (hR.list 0 (by decide)) rfl hl.1 dX4_requireRoomForPower_4 ⟨Nat.le_of_ble_eq_true rfl, Nat.le_of_ble_eq_true rfl⟩ ⟨Nat.le_of_ble_eq_true rfl, Nat.le_of_ble_eq_true rfl⟩ rfl (Nat.le_of_ble_eq_true rfl)) rfl rfl g_no (fun r1_ h2_ => ?_)
  obtain rfl := h2_
  refine lv_bipush (v := 20) hx hb dX4_requireRoomForPower_9 (by decide) ?_
  refine lv_icmp_lt (tgt := 25) hx hb dX4_requireRoomForPower_11 (by decide) (fun c3_ => ?_) (fun c3_ => ?_)
  · have n4_ : (N 0) < 20 := (nI_ltI (by omega) (by omega)).mp c3_
    exact g_vret hC hr dX4_requireRoomForPower_25 (Nat.le_of_ble_eq_true rfl) (Nat.le_of_ble_eq_true rfl) (by omega)
  · have n4_ : 20 ≤ (N 0) := Nat.not_lt.mp (fun z => c3_ (show nI ((N 0)) < nI (20) from (nI_ltI (by omega) (by omega)).mpr z))
    exact g_throwW hC ht hR.frz th_36 k_782 sx_315 hl.1 dX4_requireRoomForPower_14 dX4_requireRoomForPower_17 dX4_requireRoomForPower_18 dX4_requireRoomForPower_21 dX4_requireRoomForPower_24 ⟨Nat.le_of_ble_eq_true rfl, Nat.le_of_ble_eq_true rfl⟩ ⟨Nat.le_of_ble_eq_true rfl, Nat.le_of_ble_eq_true rfl⟩ (Nat.le_of_ble_eq_true rfl) (Nat.le_of_ble_eq_true rfl) ⟨rfl, by omega⟩
set_option maxHeartbeats 4000000 in
set_option maxRecDepth 100000 in
theorem c_X4_requireRoomForDeed {l : Launch} {E : gV} (hE : gOK l E) {α : Nat → Nat → Nat} {ξ : F2} {M : Nat → F2} {N : Nat → Nat} : gM l E yX4_requireRoomForDeed cX4_requireRoomForDeed 1 none ({ frames := 8, cells := 1, slots := 6, locals := 140 } : Room) [.ref (α 3 0)] (fun H => RX E α ξ M N H) (gQR (gPv (¬ N 1 = 24))) (fun X => X = "java/lang/IllegalStateException" ∧ ¬ (¬ N 1 = 24)) gN := by
  refine gM_body hE (by decide +kernel) (Nat.le_of_ble_eq_true rfl) ?_
  intro p_ e_ s m args below meth c hC ht hr hname hP ls hl
  have hx := hC.2.2.1
  have hb := hC.2.2.2.1
  have hl : lv_has ls 1 [(0, .ref (α 3 0))] := hl
  have hR : RX E α ξ M N s.heap := hP
  have hSr := hR.inv.src (M 0)
  obtain ⟨hN0, hN1, hN2, hN3, -, hHo, hDe⟩ := hR.inv
  refine lv_aload_n hx hb dX4_requireRoomForDeed_0 rfl (lv_at hl 0 rfl) ?_
  refine g_get (v := .ref (α 3 2)) hC hR.sig (C := RX4) (T := TX4) (N := 6) rfl u4_in 1 (by decide) k_727 rfl dX4_requireRoomForDeed_1 ?_
  refine g_cRFi (k2 := 0) (n2 := 0) (g_runF (rest := []) hC (c_Jx4a65c_size_8abf5 hE (α 3 2) (α 3 (14 + 1)) (N 1) (α 1)) Y_Jx4a65c_size_8abf5 k_165 F_Jx4a65c_size_8abf5 (hR.list 1 (by decide)).rcv rfl (hR.list 1 (by decide)) rfl hl.1 dX4_requireRoomForDeed_4 ⟨Nat.le_of_ble_eq_true rfl, Nat.le_of_ble_eq_true rfl⟩ ⟨Nat.le_of_ble_eq_true rfl, Nat.le_of_ble_eq_true rfl⟩ rfl (Nat.le_of_ble_eq_true rfl)) rfl rfl g_no (fun r1_ h2_ => ?_)
  obtain rfl := h2_
  refine lv_bipush (v := 24) hx hb dX4_requireRoomForDeed_9 (by decide) ?_
  refine lv_icmp_lt (tgt := 25) hx hb dX4_requireRoomForDeed_11 (by decide) (fun c3_ => ?_) (fun c3_ => ?_)
  · have n4_ : (N 1) < 24 := (nI_ltI (by omega) (by omega)).mp c3_
    exact g_vret hC hr dX4_requireRoomForDeed_25 (Nat.le_of_ble_eq_true rfl) (Nat.le_of_ble_eq_true rfl) (by omega)
  · have n4_ : 24 ≤ (N 1) := Nat.not_lt.mp (fun z => c3_ (show nI ((N 1)) < nI (24) from (nI_ltI (by omega) (by omega)).mpr z))
    exact g_throwW hC ht hR.frz th_36 k_293 sx_317 hl.1 dX4_requireRoomForDeed_14 dX4_requireRoomForDeed_17 dX4_requireRoomForDeed_18 dX4_requireRoomForDeed_21 dX4_requireRoomForDeed_24 ⟨Nat.le_of_ble_eq_true rfl, Nat.le_of_ble_eq_true rfl⟩ ⟨Nat.le_of_ble_eq_true rfl, Nat.le_of_ble_eq_true rfl⟩ (Nat.le_of_ble_eq_true rfl) (Nat.le_of_ble_eq_true rfl) ⟨rfl, by omega⟩
set_option maxHeartbeats 4000000 in
set_option maxRecDepth 100000 in
theorem c_X4_requireWaiting {l : Launch} {E : gV} (hE : gOK l E) {α : Nat → Nat → Nat} {ξ : F2} {M : Nat → F2} {N : Nat → Nat} (i : Nat) (hi : i < N 1) : gM l E yX4_requireWaiting cX4_requireWaiting 1 none ({ frames := 8, cells := 1, slots := 6, locals := 140 } : Room) [.ref (α 1 i)] (fun H => RX E α ξ M N H) (gQR (gPv (ξ 19 i = 119))) (fun X => X = "java/lang/IllegalStateException" ∧ ¬ (ξ 19 i = 119)) gN := by
  refine gM_body hE (by decide +kernel) (Nat.le_of_ble_eq_true rfl) ?_
  intro p_ e_ s m args below meth c hC ht hr hname hP ls hl
  have hx := hC.2.2.1
  have hb := hC.2.2.2.1
  have hl : lv_has ls 1 [(0, .ref (α 1 i))] := hl
  have hR : RX E α ξ M N s.heap := hP
  have hSr := hR.inv.src (M 0)
  obtain ⟨hN0, hN1, hN2, hN3, -, hHo, hDe⟩ := hR.inv
  refine lv_aload_n hx hb dX4_requireWaiting_0 rfl (lv_at hl 0 rfl) ?_
  refine g_get (v := .int (ξ 19 i)) hC (hR.deed (i := i) (by omega)) (C := RX0) (T := TX0) (N := 16) rfl u0_in 9 (by decide) k_317 rfl dX4_requireWaiting_1 ?_
  refine lv_bipush (v := 119) hx hb dX4_requireWaiting_4 (by decide) ?_
  refine lv_icmp_eq (tgt := 20) hx hb dX4_requireWaiting_6 (by decide) (fun c1_ => ?_) (fun c1_ => ?_)
  · exact g_vret hC hr dX4_requireWaiting_20 (Nat.le_of_ble_eq_true rfl) (Nat.le_of_ble_eq_true rfl) (by assumption)
  · exact g_throwW hC ht hR.frz th_36 k_569 sx_319 hl.1 dX4_requireWaiting_9 dX4_requireWaiting_12 dX4_requireWaiting_13 dX4_requireWaiting_16 dX4_requireWaiting_19 ⟨Nat.le_of_ble_eq_true rfl, Nat.le_of_ble_eq_true rfl⟩ ⟨Nat.le_of_ble_eq_true rfl, Nat.le_of_ble_eq_true rfl⟩ (Nat.le_of_ble_eq_true rfl) (Nat.le_of_ble_eq_true rfl) ⟨rfl, by assumption⟩
set_option maxHeartbeats 4000000 in
set_option maxRecDepth 100000 in
theorem c_X4_findPower {l : Launch} {E : gV} (hE : gOK l E) {α : Nat → Nat → Nat} {ξ : F2} {M : Nat → F2} {N : Nat → Nat} (p0 : Int32) : gM l E yX4_findPower cX4_findPower 2 (some (.object "Signatory$Power")) ({ frames := 8, cells := 1, slots := 6, locals := 140 } : Room) [.ref (α 3 0), .int p0] (fun H => RX E α ξ M N H) (gQR (gPr (fun r => isP (N 0) p0 ∧ r = α 0 (ix p0)))) (fun X => X = "java/lang/IndexOutOfBoundsException" ∧ ¬ isP (N 0) p0) gN := by
  refine gM_body hE (by decide +kernel) (Nat.le_of_ble_eq_true rfl) ?_
  intro p_ e_ s m args below meth c hC ht hr hname hP ls hl
  have hx := hC.2.2.1
  have hb := hC.2.2.2.1
  have hl : lv_has ls 2 [(0, .ref (α 3 0)), (1, .int p0)] := hl
  have hR : RX E α ξ M N s.heap := hP
  have hSr := hR.inv.src (M 0)
  obtain ⟨hN0, hN1, hN2, hN3, -, hHo, hDe⟩ := hR.inv
  refine lv_iload_n hx hb dX4_findPower_0 rfl (lv_at hl 1 rfl) ?_
  refine lv_aload_n hx hb dX4_findPower_1 rfl (lv_at hl 0 rfl) ?_
  refine g_get (v := .ref (α 3 1)) hC hR.sig (C := RX4) (T := TX4) (N := 6) rfl u4_in 0 (by decide) k_726 rfl dX4_findPower_2 ?_
  refine g_cRFi (k2 := 0) (n2 := 0) (g_runF (rest := [.int p0]) hC (c_Jx4a65c_size_8abf5 hE (α 3 1) (α 3 (14 + 0)) (N 0) (α 0)) Y_Jx4a65c_size_8abf5 k_165 F_Jx4a65c_size_8abf5 (hR.list 0 (by decide)).rcv rfl (hR.list 0 (by decide)) rfl hl.1 dX4_findPower_5 ⟨Nat.le_of_ble_eq_true rfl, Nat.le_of_ble_eq_true rfl⟩ ⟨Nat.le_of_ble_eq_true rfl, Nat.le_of_ble_eq_true rfl⟩ rfl (Nat.le_of_ble_eq_true rfl)) rfl rfl g_no (fun r1_ h2_ => ?_)
  obtain rfl := h2_
  refine g_cRi (k2 := 0) (n2 := 0) (g_runS (rest := []) hC (c_X4_isIndex hE p0 (nI (N 0))) Y_X4_isIndex k_41 S_X4_isIndex trivial rfl hl.1 dX4_findPower_10 ⟨Nat.le_of_ble_eq_true rfl, Nat.le_of_ble_eq_true rfl⟩ ⟨Nat.le_of_ble_eq_true rfl, Nat.le_of_ble_eq_true rfl⟩ rfl (Nat.le_of_ble_eq_true rfl)) rfl rfl g_no (fun r3_ h4_ => ?_)
  refine lv_if_ne (tgt := 27) hx hb dX4_findPower_13 (by decide) (fun c5_ => ?_) (fun c5_ => ?_)
  · have q6_ := bz.t h4_ c5_
    obtain ⟨j_p0, hj_p0, rfl⟩ := isP_of (n := N 0) (p := p0) (by assumption) (by omega)
    have ej_p0 : (nI j_p0).toNatClampNeg = j_p0 := nI_clamp (by omega)
    have ipj_p0 : isP (N 0) (nI j_p0) := isP_nI hj_p0 (by omega)
    refine lv_aload_n hx hb dX4_findPower_27 rfl (lv_at hl 0 rfl) ?_
    refine g_get (v := .ref (α 3 1)) hC hR.sig (C := RX4) (T := TX4) (N := 6) rfl u4_in 0 (by decide) k_726 rfl dX4_findPower_28 ?_
    refine lv_iload_n hx hb dX4_findPower_31 rfl (lv_at hl 1 rfl) ?_
    refine g_cRFr (k2 := 0) (n2 := 0) (g_runF (rest := []) hC (c_Jx4a65c_get_915e3 hE (α 3 1) (α 3 (14 + 0)) (N 0) (α 0) (j_p0) (by omega) (by omega)) Y_Jx4a65c_get_915e3 k_369 F_Jx4a65c_get_915e3 (hR.list 0 (by decide)).rcv rfl (hR.list 0 (by decide)) rfl hl.1 dX4_findPower_32 ⟨Nat.le_of_ble_eq_true rfl, Nat.le_of_ble_eq_true rfl⟩ ⟨Nat.le_of_ble_eq_true rfl, Nat.le_of_ble_eq_true rfl⟩ rfl (Nat.le_of_ble_eq_true rfl)) rfl rfl g_no (fun r7_ h8_ => ?_)
    obtain rfl := h8_
    refine g_cast2 (T := TX3) (N := 7) hC (hR.pow (i := j_p0) (by omega)) rfl k_399 dX4_findPower_37 ?_
    exact g_aret hC hr (Or.inl ⟨_, rfl⟩) dX4_findPower_40 (Nat.le_of_ble_eq_true rfl) (Nat.le_of_ble_eq_true rfl) ⟨ipj_p0, by simp only [ix, ej_p0]⟩
  · have q6_ := bz.f h4_ c5_
    exact g_throwW hC ht hR.frz th_289 k_838 sx_294 hl.1 dX4_findPower_16 dX4_findPower_19 dX4_findPower_20 dX4_findPower_23 dX4_findPower_26 ⟨Nat.le_of_ble_eq_true rfl, Nat.le_of_ble_eq_true rfl⟩ ⟨Nat.le_of_ble_eq_true rfl, Nat.le_of_ble_eq_true rfl⟩ (Nat.le_of_ble_eq_true rfl) (Nat.le_of_ble_eq_true rfl) ⟨rfl, by assumption⟩
set_option maxHeartbeats 4000000 in
set_option maxRecDepth 100000 in
theorem c_X4_findDeed {l : Launch} {E : gV} (hE : gOK l E) {α : Nat → Nat → Nat} {ξ : F2} {M : Nat → F2} {N : Nat → Nat} (d0 : Int32) : gM l E yX4_findDeed cX4_findDeed 2 (some (.object "Signatory$Deed")) ({ frames := 8, cells := 1, slots := 6, locals := 140 } : Room) [.ref (α 3 0), .int d0] (fun H => RX E α ξ M N H) (gQR (gPr (fun r => isP (N 1) d0 ∧ r = α 1 (ix d0)))) (fun X => X = "java/lang/IndexOutOfBoundsException" ∧ ¬ isP (N 1) d0) gN := by
  refine gM_body hE (by decide +kernel) (Nat.le_of_ble_eq_true rfl) ?_
  intro p_ e_ s m args below meth c hC ht hr hname hP ls hl
  have hx := hC.2.2.1
  have hb := hC.2.2.2.1
  have hl : lv_has ls 2 [(0, .ref (α 3 0)), (1, .int d0)] := hl
  have hR : RX E α ξ M N s.heap := hP
  have hSr := hR.inv.src (M 0)
  obtain ⟨hN0, hN1, hN2, hN3, -, hHo, hDe⟩ := hR.inv
  refine lv_iload_n hx hb dX4_findDeed_0 rfl (lv_at hl 1 rfl) ?_
  refine lv_aload_n hx hb dX4_findDeed_1 rfl (lv_at hl 0 rfl) ?_
  refine g_get (v := .ref (α 3 2)) hC hR.sig (C := RX4) (T := TX4) (N := 6) rfl u4_in 1 (by decide) k_727 rfl dX4_findDeed_2 ?_
  refine g_cRFi (k2 := 0) (n2 := 0) (g_runF (rest := [.int d0]) hC (c_Jx4a65c_size_8abf5 hE (α 3 2) (α 3 (14 + 1)) (N 1) (α 1)) Y_Jx4a65c_size_8abf5 k_165 F_Jx4a65c_size_8abf5 (hR.list 1 (by decide)).rcv rfl (hR.list 1 (by decide)) rfl hl.1 dX4_findDeed_5 ⟨Nat.le_of_ble_eq_true rfl, Nat.le_of_ble_eq_true rfl⟩ ⟨Nat.le_of_ble_eq_true rfl, Nat.le_of_ble_eq_true rfl⟩ rfl (Nat.le_of_ble_eq_true rfl)) rfl rfl g_no (fun r1_ h2_ => ?_)
  obtain rfl := h2_
  refine g_cRi (k2 := 0) (n2 := 0) (g_runS (rest := []) hC (c_X4_isIndex hE d0 (nI (N 1))) Y_X4_isIndex k_41 S_X4_isIndex trivial rfl hl.1 dX4_findDeed_10 ⟨Nat.le_of_ble_eq_true rfl, Nat.le_of_ble_eq_true rfl⟩ ⟨Nat.le_of_ble_eq_true rfl, Nat.le_of_ble_eq_true rfl⟩ rfl (Nat.le_of_ble_eq_true rfl)) rfl rfl g_no (fun r3_ h4_ => ?_)
  refine lv_if_ne (tgt := 27) hx hb dX4_findDeed_13 (by decide) (fun c5_ => ?_) (fun c5_ => ?_)
  · have q6_ := bz.t h4_ c5_
    obtain ⟨j_d0, hj_d0, rfl⟩ := isP_of (n := N 1) (p := d0) (by assumption) (by omega)
    have ej_d0 : (nI j_d0).toNatClampNeg = j_d0 := nI_clamp (by omega)
    have ipj_d0 : isP (N 1) (nI j_d0) := isP_nI hj_d0 (by omega)
    refine lv_aload_n hx hb dX4_findDeed_27 rfl (lv_at hl 0 rfl) ?_
    refine g_get (v := .ref (α 3 2)) hC hR.sig (C := RX4) (T := TX4) (N := 6) rfl u4_in 1 (by decide) k_727 rfl dX4_findDeed_28 ?_
    refine lv_iload_n hx hb dX4_findDeed_31 rfl (lv_at hl 1 rfl) ?_
    refine g_cRFr (k2 := 0) (n2 := 0) (g_runF (rest := []) hC (c_Jx4a65c_get_915e3 hE (α 3 2) (α 3 (14 + 1)) (N 1) (α 1) (j_d0) (by omega) (by omega)) Y_Jx4a65c_get_915e3 k_369 F_Jx4a65c_get_915e3 (hR.list 1 (by decide)).rcv rfl (hR.list 1 (by decide)) rfl hl.1 dX4_findDeed_32 ⟨Nat.le_of_ble_eq_true rfl, Nat.le_of_ble_eq_true rfl⟩ ⟨Nat.le_of_ble_eq_true rfl, Nat.le_of_ble_eq_true rfl⟩ rfl (Nat.le_of_ble_eq_true rfl)) rfl rfl g_no (fun r7_ h8_ => ?_)
    obtain rfl := h8_
    refine g_cast2 (T := TX0) (N := 16) hC (hR.deed (i := j_d0) (by omega)) rfl k_294 dX4_findDeed_37 ?_
    exact g_aret hC hr (Or.inl ⟨_, rfl⟩) dX4_findDeed_40 (Nat.le_of_ble_eq_true rfl) (Nat.le_of_ble_eq_true rfl) ⟨ipj_d0, by simp only [ix, ej_d0]⟩
  · have q6_ := bz.f h4_ c5_
    exact g_throwW hC ht hR.frz th_289 k_565 sx_296 hl.1 dX4_findDeed_16 dX4_findDeed_19 dX4_findDeed_20 dX4_findDeed_23 dX4_findDeed_26 ⟨Nat.le_of_ble_eq_true rfl, Nat.le_of_ble_eq_true rfl⟩ ⟨Nat.le_of_ble_eq_true rfl, Nat.le_of_ble_eq_true rfl⟩ (Nat.le_of_ble_eq_true rfl) (Nat.le_of_ble_eq_true rfl) ⟨rfl, by assumption⟩
set_option maxHeartbeats 4000000 in
set_option maxRecDepth 100000 in
theorem c_X4_bitOfHand {l : Launch} {E : gV} (hE : gOK l E)  (ha : Int32) : gM l E yX4_bitOfHand cX4_bitOfHand 1 (some .int) ({ frames := 0, cells := 0, slots := 0, locals := 0 } : Room) [.int ha] (fun H => True) (gQR (gPi (fun r => r = fBit ha))) (fun _ => False) gN := by
  refine gM_body hE (by decide +kernel) (Nat.le_of_ble_eq_true rfl) ?_
  intro p_ e_ s m args below meth c hC ht hr hname hP ls hl
  have hx := hC.2.2.1
  have hb := hC.2.2.2.1
  have hl : lv_has ls 1 [(0, .int ha)] := hl
  refine lv_iload_n hx hb dX4_bitOfHand_0 rfl (lv_at hl 0 rfl) ?_
  refine lv_bipush (v := 115) hx hb dX4_bitOfHand_1 (by decide) ?_
  refine lv_icmp_ne (tgt := 8) hx hb dX4_bitOfHand_3 (by decide) (fun c1_ => ?_) (fun c1_ => ?_)
  · refine lv_iload_n hx hb dX4_bitOfHand_8 rfl (lv_at hl 0 rfl) ?_
    refine lv_bipush (v := 97) hx hb dX4_bitOfHand_9 (by decide) ?_
    refine lv_icmp_ne (tgt := 16) hx hb dX4_bitOfHand_11 (by decide) (fun c2_ => ?_) (fun c2_ => ?_)
    · refine lv_iload_n hx hb dX4_bitOfHand_16 rfl (lv_at hl 0 rfl) ?_
      refine lv_bipush (v := 98) hx hb dX4_bitOfHand_17 (by decide) ?_
      refine lv_icmp_ne (tgt := 26) hx hb dX4_bitOfHand_19 (by decide) (fun c3_ => ?_) (fun c3_ => ?_)
      · refine lv_iconst (v := 0) hx hb dX4_bitOfHand_26 (by decide) ?_
        exact g_iret hC hr dX4_bitOfHand_27 (Nat.le_of_ble_eq_true rfl) (Nat.le_of_ble_eq_true rfl) (by unfold fBit; grind)
      · refine lv_iconst (v := 4) hx hb dX4_bitOfHand_22 (by decide) ?_
        refine lv_goto (tgt := 27) hx hb dX4_bitOfHand_23 (by decide) ?_
        exact g_iret hC hr dX4_bitOfHand_27 (Nat.le_of_ble_eq_true rfl) (Nat.le_of_ble_eq_true rfl) (by unfold fBit; grind)
    · refine lv_iconst (v := 2) hx hb dX4_bitOfHand_14 (by decide) ?_
      exact g_iret hC hr dX4_bitOfHand_15 (Nat.le_of_ble_eq_true rfl) (Nat.le_of_ble_eq_true rfl) (by unfold fBit; grind)
  · refine lv_iconst (v := 1) hx hb dX4_bitOfHand_6 (by decide) ?_
    exact g_iret hC hr dX4_bitOfHand_7 (Nat.le_of_ble_eq_true rfl) (Nat.le_of_ble_eq_true rfl) (by unfold fBit; grind)
set_option maxHeartbeats 4000000 in
set_option maxRecDepth 100000 in
theorem c_X4_substituteOrNone {l : Launch} {E : gV} (hE : gOK l E) {α : Nat → Nat → Nat} {ξ : F2} {M : Nat → F2} {N : Nat → Nat} (j : Nat) (hj : j < 8) : gM l E yX4_substituteOrNone cX4_substituteOrNone 3 (some .int) ({ frames := 2, cells := 0, slots := 0, locals := 42 } : Room) [.ref (α 3 0), .int (nI j)] (fun H => RX E α ξ M N H) (gQR (gPi (fun r => r = if M 0 2 j = -2 then -1 else M 0 2 j))) (fun _ => False) gN := by
  refine gM_body hE (by decide +kernel) (Nat.le_of_ble_eq_true rfl) ?_
  intro p_ e_ s m args below meth c hC ht hr hname hP ls hl
  have hx := hC.2.2.1
  have hb := hC.2.2.2.1
  have hl : lv_has ls 3 [(0, .ref (α 3 0)), (1, .int (nI j))] := hl
  have hR : RX E α ξ M N s.heap := hP
  have hSr := hR.inv.src (M 0)
  obtain ⟨hN0, hN1, hN2, hN3, -, hHo, hDe⟩ := hR.inv
  refine lv_aload_n hx hb dX4_substituteOrNone_0 rfl (lv_at hl 0 rfl) ?_
  refine g_get (v := .ref (α 3 4)) hC hR.sig (C := RX4) (T := TX4) (N := 6) rfl u4_in 3 (by decide) k_729 rfl dX4_substituteOrNone_1 ?_
  refine lv_iload_n hx hb dX4_substituteOrNone_4 rfl (lv_at hl 1 rfl) ?_
  refine g_cRi (k2 := 0) (n2 := 0) (g_runV (rest := []) hC (c_X1_substituteFor hE (α := α) (ξ := ξ) (M := M) (N := N) 0 (by decide) j (by omega)) Y_X1_substituteFor k_136 I_X1_substituteFor V_X1_substituteFor (hR.mom 0 (by decide)) rfl hR rfl hl.1 dX4_substituteOrNone_5 ⟨Nat.le_of_ble_eq_true rfl, Nat.le_of_ble_eq_true rfl⟩ ⟨Nat.le_of_ble_eq_true rfl, Nat.le_of_ble_eq_true rfl⟩ rfl (Nat.le_of_ble_eq_true rfl)) rfl rfl g_no (fun r1_ h2_ => ?_)
  obtain rfl := h2_
  refine lv_istore_n (lv' := [(2, .int (M 0 2 j)), (0, .ref (α 3 0)), (1, .int (nI j))]) hx hb dX4_substituteOrNone_8 rfl hl (by decide) rfl (fun ls hl => ?_)
  refine lv_iload_n hx hb dX4_substituteOrNone_9 rfl (lv_at hl 0 rfl) ?_
  refine lv_bipush (v := (-2)) hx hb dX4_substituteOrNone_10 (by decide) ?_
  refine lv_icmp_ne (tgt := 19) hx hb dX4_substituteOrNone_12 (by decide) (fun c3_ => ?_) (fun c3_ => ?_)
  · refine lv_iload_n hx hb dX4_substituteOrNone_19 rfl (lv_at hl 0 rfl) ?_
    exact g_iret hC hr dX4_substituteOrNone_20 (Nat.le_of_ble_eq_true rfl) (Nat.le_of_ble_eq_true rfl) (by grind)
  · refine lv_iconst (v := (-1)) hx hb dX4_substituteOrNone_15 (by decide) ?_
    refine lv_goto (tgt := 20) hx hb dX4_substituteOrNone_16 (by decide) ?_
    exact g_iret hC hr dX4_substituteOrNone_20 (Nat.le_of_ble_eq_true rfl) (Nat.le_of_ble_eq_true rfl) (by grind)
set_option maxHeartbeats 4000000 in
set_option maxRecDepth 100000 in
theorem c_X4_countPowersFrom {l : Launch} {E : gV} (hE : gOK l E) {α : Nat → Nat → Nat} {ξ : F2} {M : Nat → F2} {N : Nat → Nat} (o : Nat) (ho : o < N 0) : gM l E yX4_countPowersFrom cX4_countPowersFrom 4 (some .int) ({ frames := 3, cells := 0, slots := 0, locals := 64 } : Room) [.ref (α 3 0), .ref (α 0 o)] (fun H => RX E α ξ M N H) (gQR (gPi (fun r => r = nI (fCnt (fun t => fCome (xv ξ (M 0)) t o) (N 0))))) (fun _ => False) gN := by
  refine gM_body hE (by decide +kernel) (Nat.le_of_ble_eq_true rfl) ?_
  intro p_ e_ s m args below meth c hC ht hr hname hP ls hl
  have hx := hC.2.2.1
  have hb := hC.2.2.2.1
  have hl : lv_has ls 4 [(0, .ref (α 3 0)), (1, .ref (α 0 o))] := hl
  have hR : RX E α ξ M N s.heap := hP
  have hSr := hR.inv.src (M 0)
  obtain ⟨hN0, hN1, hN2, hN3, -, hHo, hDe⟩ := hR.inv
  refine lv_iconst (v := 0) hx hb dX4_countPowersFrom_0 (by decide) ?_
  refine lv_istore_n (lv' := [(2, .int 0), (0, .ref (α 3 0)), (1, .ref (α 0 o))]) hx hb dX4_countPowersFrom_1 rfl hl (by decide) rfl (fun ls hl => ?_)
  refine lv_iconst (v := 0) hx hb dX4_countPowersFrom_2 (by decide) ?_
  refine lv_istore_n (lv' := [(3, .int 0), (2, .int 0), (0, .ref (α 3 0)), (1, .ref (α 0 o))]) hx hb dX4_countPowersFrom_3 rfl hl (by decide) rfl (fun ls hl => ?_)
  have loop : ∀ (n_ : Nat) (q : Nat) (r : Int32) (ls : Array Slot), N 0 - q < n_ → (q ≤ N 0) → (r = nI (fCnt (fun t => fCome (xv ξ (M 0)) t o) q)) → lv_has ls 4 [(0, .ref (α 3 0)), (1, .ref (α 0 o)), (2, .int r), (3, .int (nI q))] → W p_ l e_ ({ frames := 3, cells := 0, slots := 0, locals := 64 } : Room) s m args below meth c s.heap [] 0 0 (vx_MQ below (gQR (gPi (fun r => r = nI (fCnt (fun t => fCome (xv ξ (M 0)) t o) (N 0))))) (gX (fun _ => False)) args s 0 0 gN) (F0 m 4 ls []) := by
    intro n_
    induction n_ with
    | zero => intro q r ls h_; exact absurd h_ (Nat.not_lt_zero _)
    | succ n_ ih_loop =>
      intro q r ls hn_ i1 i2 hl
      refine lv_iload_n hx hb dX4_countPowersFrom_4 rfl (lv_at hl 3 rfl) ?_
      refine lv_aload_n hx hb dX4_countPowersFrom_5 rfl (lv_at hl 0 rfl) ?_
      refine g_get (v := .ref (α 3 1)) hC hR.sig (C := RX4) (T := TX4) (N := 6) rfl u4_in 0 (by decide) k_726 rfl dX4_countPowersFrom_6 ?_
      refine g_cRFi (k2 := 0) (n2 := 0) (g_runF (rest := [.int (nI q)]) hC (c_Jx4a65c_size_8abf5 hE (α 3 1) (α 3 (14 + 0)) (N 0) (α 0)) Y_Jx4a65c_size_8abf5 k_165 F_Jx4a65c_size_8abf5 (hR.list 0 (by decide)).rcv rfl (hR.list 0 (by decide)) rfl hl.1 dX4_countPowersFrom_9 ⟨Nat.le_of_ble_eq_true rfl, Nat.le_of_ble_eq_true rfl⟩ ⟨Nat.le_of_ble_eq_true rfl, Nat.le_of_ble_eq_true rfl⟩ rfl (Nat.le_of_ble_eq_true rfl)) rfl rfl g_no (fun r1_ h2_ => ?_)
      obtain rfl := h2_
      refine lv_icmp_ge (tgt := 46) hx hb dX4_countPowersFrom_14 (by decide) (fun c3_ => ?_) (fun c3_ => ?_)
      · have n4_ : (N 0) ≤ q := le_nI (by omega) (by omega) c3_
        refine lv_iload_n hx hb dX4_countPowersFrom_46 rfl (lv_at hl 2 rfl) ?_
        exact g_iret hC hr dX4_countPowersFrom_47 (Nat.le_of_ble_eq_true rfl) (Nat.le_of_ble_eq_true rfl) (by rw [i2, show q = N 0 by omega])
      · have n4_ : q < (N 0) := not_le_nI (by omega) (by omega) c3_
        refine lv_aload_n hx hb dX4_countPowersFrom_17 rfl (lv_at hl 0 rfl) ?_
        refine g_get (v := .ref (α 3 1)) hC hR.sig (C := RX4) (T := TX4) (N := 6) rfl u4_in 0 (by decide) k_726 rfl dX4_countPowersFrom_18 ?_
        refine lv_iload_n hx hb dX4_countPowersFrom_21 rfl (lv_at hl 3 rfl) ?_
        refine g_cRFr (k2 := 0) (n2 := 0) (g_runF (rest := []) hC (c_Jx4a65c_get_915e3 hE (α 3 1) (α 3 (14 + 0)) (N 0) (α 0) (q) (by omega) (by omega)) Y_Jx4a65c_get_915e3 k_369 F_Jx4a65c_get_915e3 (hR.list 0 (by decide)).rcv rfl (hR.list 0 (by decide)) rfl hl.1 dX4_countPowersFrom_22 ⟨Nat.le_of_ble_eq_true rfl, Nat.le_of_ble_eq_true rfl⟩ ⟨Nat.le_of_ble_eq_true rfl, Nat.le_of_ble_eq_true rfl⟩ rfl (Nat.le_of_ble_eq_true rfl)) rfl rfl g_no (fun r5_ h6_ => ?_)
        obtain rfl := h6_
        refine g_cast2 (T := TX3) (N := 7) hC (hR.pow (i := q) (by omega)) rfl k_399 dX4_countPowersFrom_27 ?_
        refine lv_aload_n hx hb dX4_countPowersFrom_30 rfl (lv_at hl 1 rfl) ?_
        refine g_cRi (k2 := 0) (n2 := 0) (g_runV (rest := []) hC (c_X3_comesFrom hE (α := α) (ξ := ξ) (M := M) (N := N) q o (by omega) (by omega)) Y_X3_comesFrom k_875 I_X3_comesFrom V_X3_comesFrom (hR.pow (i := q) (by omega)) rfl hR rfl hl.1 dX4_countPowersFrom_31 ⟨Nat.le_of_ble_eq_true rfl, Nat.le_of_ble_eq_true rfl⟩ ⟨Nat.le_of_ble_eq_true rfl, Nat.le_of_ble_eq_true rfl⟩ rfl (Nat.le_of_ble_eq_true rfl)) rfl rfl g_no (fun r7_ h8_ => ?_)
        refine lv_if_eq (tgt := 40) hx hb dX4_countPowersFrom_34 (by decide) (fun c9_ => ?_) (fun c9_ => ?_)
        · have q10_ := bz.f h8_ c9_
          refine lv_iinc (v := nI (q + 1)) (lv' := [(3, .int (nI (q + 1))), (0, .ref (α 3 0)), (1, .ref (α 0 o)), (2, .int r)]) hx hb dX4_countPowersFrom_40 hl (k := 3) rfl (g_inc _) (by decide) rfl (fun ls hl => ?_)
          refine lv_goto (tgt := 4) hx hb dX4_countPowersFrom_43 (by decide) ?_
          exact ih_loop (q + 1) r ls (by omega) (by omega) (by rw [i2, ← nI_cnt_f (n := q) (P := fun t => fCome (xv ξ (M 0)) t o) (by assumption), Int32.add_zero]) (lv_sub hl [1, 2, 3, 0] rfl)
        · have q10_ := bz.t h8_ c9_
          refine lv_iinc (v := r + 1) (lv' := [(2, .int (r + 1)), (0, .ref (α 3 0)), (1, .ref (α 0 o)), (3, .int (nI q))]) hx hb dX4_countPowersFrom_37 hl (k := 2) rfl rfl (by decide) rfl (fun ls hl => ?_)
          refine lv_iinc (v := nI (q + 1)) (lv' := [(3, .int (nI (q + 1))), (2, .int (r + 1)), (0, .ref (α 3 0)), (1, .ref (α 0 o))]) hx hb dX4_countPowersFrom_40 hl (k := 3) rfl (g_inc _) (by decide) rfl (fun ls hl => ?_)
          refine lv_goto (tgt := 4) hx hb dX4_countPowersFrom_43 (by decide) ?_
          exact ih_loop (q + 1) (r + 1) ls (by omega) (by omega) (by rw [i2]; exact nI_cnt_t (by assumption)) (lv_sub hl [2, 3, 1, 0] rfl)
  exact loop ((N 0 - (0)) + 1) 0 0 ls (by omega) (by omega) rfl (lv_sub hl [2, 3, 1, 0] rfl)
set_option maxHeartbeats 4000000 in
set_option maxRecDepth 100000 in
theorem c_X4_countWaiting {l : Launch} {E : gV} (hE : gOK l E) {α : Nat → Nat → Nat} {ξ : F2} {M : Nat → F2} {N : Nat → Nat} : gM l E yX4_countWaiting cX4_countWaiting 3 (some .int) ({ frames := 3, cells := 0, slots := 0, locals := 64 } : Room) [.ref (α 3 0)] (fun H => RX E α ξ M N H) (gQR (gPi (fun r => r = nI (fCnt (fun t => ξ 19 t = 119) (N 1))))) (fun _ => False) gN := by
  refine gM_body hE (by decide +kernel) (Nat.le_of_ble_eq_true rfl) ?_
  intro p_ e_ s m args below meth c hC ht hr hname hP ls hl
  have hx := hC.2.2.1
  have hb := hC.2.2.2.1
  have hl : lv_has ls 3 [(0, .ref (α 3 0))] := hl
  have hR : RX E α ξ M N s.heap := hP
  have hSr := hR.inv.src (M 0)
  obtain ⟨hN0, hN1, hN2, hN3, -, hHo, hDe⟩ := hR.inv
  refine lv_iconst (v := 0) hx hb dX4_countWaiting_0 (by decide) ?_
  refine lv_istore_n (lv' := [(1, .int 0), (0, .ref (α 3 0))]) hx hb dX4_countWaiting_1 rfl hl (by decide) rfl (fun ls hl => ?_)
  refine lv_iconst (v := 0) hx hb dX4_countWaiting_2 (by decide) ?_
  refine lv_istore_n (lv' := [(2, .int 0), (1, .int 0), (0, .ref (α 3 0))]) hx hb dX4_countWaiting_3 rfl hl (by decide) rfl (fun ls hl => ?_)
  have loop : ∀ (n_ : Nat) (q : Nat) (r : Int32) (ls : Array Slot), N 1 - q < n_ → (q ≤ N 1) → (r = nI (fCnt (fun t => ξ 19 t = 119) q)) → lv_has ls 3 [(0, .ref (α 3 0)), (1, .int r), (2, .int (nI q))] → W p_ l e_ ({ frames := 3, cells := 0, slots := 0, locals := 64 } : Room) s m args below meth c s.heap [] 0 0 (vx_MQ below (gQR (gPi (fun r => r = nI (fCnt (fun t => ξ 19 t = 119) (N 1))))) (gX (fun _ => False)) args s 0 0 gN) (F0 m 4 ls []) := by
    intro n_
    induction n_ with
    | zero => intro q r ls h_; exact absurd h_ (Nat.not_lt_zero _)
    | succ n_ ih_loop =>
      intro q r ls hn_ i1 i2 hl
      refine lv_iload_n hx hb dX4_countWaiting_4 rfl (lv_at hl 2 rfl) ?_
      refine lv_aload_n hx hb dX4_countWaiting_5 rfl (lv_at hl 0 rfl) ?_
      refine g_get (v := .ref (α 3 2)) hC hR.sig (C := RX4) (T := TX4) (N := 6) rfl u4_in 1 (by decide) k_727 rfl dX4_countWaiting_6 ?_
      refine g_cRFi (k2 := 0) (n2 := 0) (g_runF (rest := [.int (nI q)]) hC (c_Jx4a65c_size_8abf5 hE (α 3 2) (α 3 (14 + 1)) (N 1) (α 1)) Y_Jx4a65c_size_8abf5 k_165 F_Jx4a65c_size_8abf5 (hR.list 1 (by decide)).rcv rfl (hR.list 1 (by decide)) rfl hl.1 dX4_countWaiting_9 ⟨Nat.le_of_ble_eq_true rfl, Nat.le_of_ble_eq_true rfl⟩ ⟨Nat.le_of_ble_eq_true rfl, Nat.le_of_ble_eq_true rfl⟩ rfl (Nat.le_of_ble_eq_true rfl)) rfl rfl g_no (fun r1_ h2_ => ?_)
      obtain rfl := h2_
      refine lv_icmp_ge (tgt := 47) hx hb dX4_countWaiting_14 (by decide) (fun c3_ => ?_) (fun c3_ => ?_)
      · have n4_ : (N 1) ≤ q := le_nI (by omega) (by omega) c3_
        refine lv_iload_n hx hb dX4_countWaiting_47 rfl (lv_at hl 1 rfl) ?_
        exact g_iret hC hr dX4_countWaiting_48 (Nat.le_of_ble_eq_true rfl) (Nat.le_of_ble_eq_true rfl) (by rw [i2, show q = N 1 by omega])
      · have n4_ : q < (N 1) := not_le_nI (by omega) (by omega) c3_
        refine lv_aload_n hx hb dX4_countWaiting_17 rfl (lv_at hl 0 rfl) ?_
        refine g_get (v := .ref (α 3 2)) hC hR.sig (C := RX4) (T := TX4) (N := 6) rfl u4_in 1 (by decide) k_727 rfl dX4_countWaiting_18 ?_
        refine lv_iload_n hx hb dX4_countWaiting_21 rfl (lv_at hl 2 rfl) ?_
        refine g_cRFr (k2 := 0) (n2 := 0) (g_runF (rest := []) hC (c_Jx4a65c_get_915e3 hE (α 3 2) (α 3 (14 + 1)) (N 1) (α 1) (q) (by omega) (by omega)) Y_Jx4a65c_get_915e3 k_369 F_Jx4a65c_get_915e3 (hR.list 1 (by decide)).rcv rfl (hR.list 1 (by decide)) rfl hl.1 dX4_countWaiting_22 ⟨Nat.le_of_ble_eq_true rfl, Nat.le_of_ble_eq_true rfl⟩ ⟨Nat.le_of_ble_eq_true rfl, Nat.le_of_ble_eq_true rfl⟩ rfl (Nat.le_of_ble_eq_true rfl)) rfl rfl g_no (fun r5_ h6_ => ?_)
        obtain rfl := h6_
        refine g_cast2 (T := TX0) (N := 16) hC (hR.deed (i := q) (by omega)) rfl k_294 dX4_countWaiting_27 ?_
        refine g_get (v := .int (ξ 19 q)) hC (hR.deed (i := q) (by omega)) (C := RX0) (T := TX0) (N := 16) rfl u0_in 9 (by decide) k_317 rfl dX4_countWaiting_30 ?_
        refine lv_bipush (v := 119) hx hb dX4_countWaiting_33 (by decide) ?_
        refine lv_icmp_ne (tgt := 41) hx hb dX4_countWaiting_35 (by decide) (fun c7_ => ?_) (fun c7_ => ?_)
        · refine lv_iinc (v := nI (q + 1)) (lv' := [(2, .int (nI (q + 1))), (0, .ref (α 3 0)), (1, .int r)]) hx hb dX4_countWaiting_41 hl (k := 2) rfl (g_inc _) (by decide) rfl (fun ls hl => ?_)
          refine lv_goto (tgt := 4) hx hb dX4_countWaiting_44 (by decide) ?_
          exact ih_loop (q + 1) r ls (by omega) (by omega) (by rw [i2, ← nI_cnt_f (n := q) (P := fun t => ξ 19 t = 119) (by assumption), Int32.add_zero]) (lv_sub hl [1, 2, 0] rfl)
        · refine lv_iinc (v := r + 1) (lv' := [(1, .int (r + 1)), (0, .ref (α 3 0)), (2, .int (nI q))]) hx hb dX4_countWaiting_38 hl (k := 1) rfl rfl (by decide) rfl (fun ls hl => ?_)
          refine lv_iinc (v := nI (q + 1)) (lv' := [(2, .int (nI (q + 1))), (1, .int (r + 1)), (0, .ref (α 3 0))]) hx hb dX4_countWaiting_41 hl (k := 2) rfl (g_inc _) (by decide) rfl (fun ls hl => ?_)
          refine lv_goto (tgt := 4) hx hb dX4_countWaiting_44 (by decide) ?_
          exact ih_loop (q + 1) (r + 1) ls (by omega) (by omega) (by rw [i2]; exact nI_cnt_t (by assumption)) (lv_sub hl [2, 1, 0] rfl)
  exact loop ((N 1 - (0)) + 1) 0 0 ls (by omega) (by omega) rfl (lv_sub hl [2, 1, 0] rfl)
set_option maxHeartbeats 4000000 in
set_option maxRecDepth 100000 in
theorem c_X4_addUp {l : Launch} {E : gV} (hE : gOK l E) {α : Nat → Nat → Nat} {ξ : F2} {M : Nat → F2} {N : Nat → Nat} (a d : Nat) (δ : Nat → Int32) (hd : d ≤ N 1)(w : Nat) (hw : w < 2) : gM l E yX4_addUp cX4_addUp 6 (some .int) ({ frames := 3, cells := 0, slots := 0, locals := 64 } : Room) [.ref (α 3 0), .ref a, .ref (α 3 (4 + w))] (fun H => RX E α ξ M N H ∧ gD E a d δ H) (gQR (gPi (fun r => r = fAdd (xw ξ) (fun t => ¬ M w 3 t = 0) (M w 5 0) (M w 4 0) (δ 3) (δ 5) d (δ 4)))) (fun _ => False) gN := by
  refine gM_body hE (by decide +kernel) (Nat.le_of_ble_eq_true rfl) ?_
  intro p_ e_ s m args below meth c hC ht hr hname hP ls hl
  have hx := hC.2.2.1
  have hb := hC.2.2.2.1
  have hl : lv_has ls 6 [(0, .ref (α 3 0)), (1, .ref a), (2, .ref (α 3 (4 + w)))] := hl
  obtain ⟨hR, hD⟩ := (show RX E α ξ M N s.heap ∧ gD E a d δ s.heap from hP)
  have hSr := hR.inv.src (M 0)
  obtain ⟨hN0, hN1, hN2, hN3, -, hHo, hDe⟩ := hR.inv
  refine lv_aload_n hx hb dX4_addUp_0 rfl (lv_at hl 1 rfl) ?_
  refine g_get (v := .int (δ 4)) hC hD (C := RX0) (T := TX0) (N := 16) rfl u0_in 4 (by decide) k_310 rfl dX4_addUp_1 ?_
  refine lv_istore_n (lv' := [(3, .int (δ 4)), (0, .ref (α 3 0)), (1, .ref a), (2, .ref (α 3 (4 + w)))]) hx hb dX4_addUp_4 rfl hl (by decide) rfl (fun ls hl => ?_)
  refine lv_iconst (v := 0) hx hb dX4_addUp_5 (by decide) ?_
  refine lv_istore (lv' := [(4, .int 0), (3, .int (δ 4)), (0, .ref (α 3 0)), (1, .ref a), (2, .ref (α 3 (4 + w)))]) hx hb dX4_addUp_6 hl (by decide) rfl (fun ls hl => ?_)
  have loop : ∀ (n_ : Nat) (q : Nat) (r : Int32) (ls : Array Slot), d - q < n_ → (q ≤ d) → (r = fAdd (xw ξ) (fun t => ¬ M w 3 t = 0) (M w 5 0) (M w 4 0) (δ 3) (δ 5) q (δ 4)) → lv_has ls 6 [(0, .ref (α 3 0)), (1, .ref a), (2, .ref (α 3 (4 + w))), (3, .int r), (4, .int (nI q))] → W p_ l e_ ({ frames := 3, cells := 0, slots := 0, locals := 64 } : Room) s m args below meth c s.heap [] 0 0 (vx_MQ below (gQR (gPi (fun r => r = fAdd (xw ξ) (fun t => ¬ M w 3 t = 0) (M w 5 0) (M w 4 0) (δ 3) (δ 5) d (δ 4)))) (gX (fun _ => False)) args s 0 0 gN) (F0 m 8 ls []) := by
    intro n_
    induction n_ with
    | zero => intro q r ls h_; exact absurd h_ (Nat.not_lt_zero _)
    | succ n_ ih_loop =>
      intro q r ls hn_ i1 i2 hl
      refine lv_iload hx hb dX4_addUp_8 (lv_at hl 4 rfl) ?_
      refine lv_aload_n hx hb dX4_addUp_10 rfl (lv_at hl 1 rfl) ?_
      refine g_get (v := .int (nI d)) hC hD (C := RX0) (T := TX0) (N := 16) rfl u0_in 0 (by decide) k_302 rfl dX4_addUp_11 ?_
      refine lv_icmp_ge (tgt := 111) hx hb dX4_addUp_14 (by decide) (fun c1_ => ?_) (fun c1_ => ?_)
      · have n2_ : d ≤ q := le_nI (by omega) (by omega) c1_
        refine lv_iload_n hx hb dX4_addUp_111 rfl (lv_at hl 3 rfl) ?_
        exact g_iret hC hr dX4_addUp_112 (Nat.le_of_ble_eq_true rfl) (Nat.le_of_ble_eq_true rfl) (by rw [i2, show q = d by omega])
      · have n2_ : q < d := not_le_nI (by omega) (by omega) c1_
        refine lv_iload hx hb dX4_addUp_17 (lv_at hl 4 rfl) ?_
        refine lv_aload_n hx hb dX4_addUp_19 rfl (lv_at hl 0 rfl) ?_
        refine g_get (v := .ref (α 3 2)) hC hR.sig (C := RX4) (T := TX4) (N := 6) rfl u4_in 1 (by decide) k_727 rfl dX4_addUp_20 ?_
        refine g_cRFi (k2 := 0) (n2 := 0) (g_runF (rest := [.int (nI q)]) hC (c_Jx4a65c_size_8abf5 hE (α 3 2) (α 3 (14 + 1)) (N 1) (α 1)) Y_Jx4a65c_size_8abf5 k_165 F_Jx4a65c_size_8abf5 (hR.list 1 (by decide)).rcv rfl (hR.list 1 (by decide)) rfl hl.1 dX4_addUp_23 ⟨Nat.le_of_ble_eq_true rfl, Nat.le_of_ble_eq_true rfl⟩ ⟨Nat.le_of_ble_eq_true rfl, Nat.le_of_ble_eq_true rfl⟩ rfl (Nat.le_of_ble_eq_true rfl)) rfl rfl g_no (fun r3_ h4_ => ?_)
        obtain rfl := h4_
        refine lv_icmp_ge (tgt := 111) hx hb dX4_addUp_28 (by decide) (fun c5_ => ?_) (fun c5_ => ?_)
        · exact absurd (le_nI (by omega) (by omega) c5_) (by omega)
        · refine lv_aload_n hx hb dX4_addUp_31 rfl (lv_at hl 0 rfl) ?_
          refine g_get (v := .ref (α 3 2)) hC hR.sig (C := RX4) (T := TX4) (N := 6) rfl u4_in 1 (by decide) k_727 rfl dX4_addUp_32 ?_
          refine lv_iload hx hb dX4_addUp_35 (lv_at hl 4 rfl) ?_
          refine g_cRFr (k2 := 0) (n2 := 0) (g_runF (rest := []) hC (c_Jx4a65c_get_915e3 hE (α 3 2) (α 3 (14 + 1)) (N 1) (α 1) (q) (by omega) (by omega)) Y_Jx4a65c_get_915e3 k_369 F_Jx4a65c_get_915e3 (hR.list 1 (by decide)).rcv rfl (hR.list 1 (by decide)) rfl hl.1 dX4_addUp_37 ⟨Nat.le_of_ble_eq_true rfl, Nat.le_of_ble_eq_true rfl⟩ ⟨Nat.le_of_ble_eq_true rfl, Nat.le_of_ble_eq_true rfl⟩ rfl (Nat.le_of_ble_eq_true rfl)) rfl rfl g_no (fun r6_ h7_ => ?_)
          obtain rfl := h7_
          refine g_cast2 (T := TX0) (N := 16) hC (hR.deed (i := q) (by omega)) rfl k_294 dX4_addUp_42 ?_
          refine lv_astore (lv' := [(5, .ref (α 1 q)), (0, .ref (α 3 0)), (1, .ref a), (2, .ref (α 3 (4 + w))), (3, .int r), (4, .int (nI q))]) hx hb dX4_addUp_45 hl (by decide) rfl (fun ls hl => ?_)
          refine lv_aload hx hb dX4_addUp_47 (lv_at hl 0 rfl) ?_
          refine g_get (v := .int (ξ 13 q)) hC (hR.deed (i := q) (by omega)) (C := RX0) (T := TX0) (N := 16) rfl u0_in 3 (by decide) k_308 rfl dX4_addUp_49 ?_
          refine lv_aload_n hx hb dX4_addUp_52 rfl (lv_at hl 2 rfl) ?_
          refine g_get (v := .int (δ 3)) hC hD (C := RX0) (T := TX0) (N := 16) rfl u0_in 3 (by decide) k_308 rfl dX4_addUp_53 ?_
          refine lv_icmp_ne (tgt := 105) hx hb dX4_addUp_56 (by decide) (fun c8_ => ?_) (fun c8_ => ?_)
          · refine lv_iinc (v := nI (q + 1)) (lv' := [(4, .int (nI (q + 1))), (5, .ref (α 1 q)), (0, .ref (α 3 0)), (1, .ref a), (2, .ref (α 3 (4 + w))), (3, .int r)]) hx hb dX4_addUp_105 hl (k := 5) rfl (g_inc _) (by decide) rfl (fun ls hl => ?_)
            refine lv_goto (tgt := 8) hx hb dX4_addUp_108 (by decide) ?_
            exact ih_loop (q + 1) r ls (by omega) (by omega) (by rw [i2]; exact (cif_neg (by rintro ⟨z1, z2, z3, z4⟩; first | exact absurd z1 (by assumption) | exact absurd z2 (by assumption) | exact absurd (by assumption) z3 | exact absurd z4 (Int32.not_lt.mpr (by assumption)))).symm) (lv_sub hl [2, 3, 4, 5, 0] rfl)
          · refine lv_aload hx hb dX4_addUp_59 (lv_at hl 0 rfl) ?_
            refine g_get (v := .int (ξ 15 q)) hC (hR.deed (i := q) (by omega)) (C := RX0) (T := TX0) (N := 16) rfl u0_in 5 (by decide) k_312 rfl dX4_addUp_61 ?_
            refine lv_aload_n hx hb dX4_addUp_64 rfl (lv_at hl 2 rfl) ?_
            refine g_get (v := .int (δ 5)) hC hD (C := RX0) (T := TX0) (N := 16) rfl u0_in 5 (by decide) k_312 rfl dX4_addUp_65 ?_
            refine lv_icmp_ne (tgt := 105) hx hb dX4_addUp_68 (by decide) (fun c9_ => ?_) (fun c9_ => ?_)
            · refine lv_iinc (v := nI (q + 1)) (lv' := [(4, .int (nI (q + 1))), (5, .ref (α 1 q)), (0, .ref (α 3 0)), (1, .ref a), (2, .ref (α 3 (4 + w))), (3, .int r)]) hx hb dX4_addUp_105 hl (k := 5) rfl (g_inc _) (by decide) rfl (fun ls hl => ?_)
              refine lv_goto (tgt := 8) hx hb dX4_addUp_108 (by decide) ?_
              exact ih_loop (q + 1) r ls (by omega) (by omega) (by rw [i2]; exact (cif_neg (by rintro ⟨z1, z2, z3, z4⟩; first | exact absurd z1 (by assumption) | exact absurd z2 (by assumption) | exact absurd (by assumption) z3 | exact absurd z4 (Int32.not_lt.mpr (by assumption)))).symm) (lv_sub hl [2, 3, 4, 5, 0] rfl)
            · refine lv_aload_n hx hb dX4_addUp_71 rfl (lv_at hl 3 rfl) ?_
              refine lv_aload hx hb dX4_addUp_72 (lv_at hl 0 rfl) ?_
              refine g_cRi (k2 := 0) (n2 := 0) (g_runV (rest := []) hC (c_X1_isAnnulled hE (α := α) (ξ := ξ) (M := M) (N := N) w hw q (by omega)) Y_X1_isAnnulled k_387 I_X1_isAnnulled V_X1_isAnnulled (hR.mom w hw) rfl hR rfl hl.1 dX4_addUp_74 ⟨Nat.le_of_ble_eq_true rfl, Nat.le_of_ble_eq_true rfl⟩ ⟨Nat.le_of_ble_eq_true rfl, Nat.le_of_ble_eq_true rfl⟩ rfl (Nat.le_of_ble_eq_true rfl)) rfl rfl g_no (fun r10_ h11_ => ?_)
              refine lv_if_ne (tgt := 105) hx hb dX4_addUp_77 (by decide) (fun c12_ => ?_) (fun c12_ => ?_)
              · have q13_ := bz.t h11_ c12_
                refine lv_iinc (v := nI (q + 1)) (lv' := [(4, .int (nI (q + 1))), (5, .ref (α 1 q)), (0, .ref (α 3 0)), (1, .ref a), (2, .ref (α 3 (4 + w))), (3, .int r)]) hx hb dX4_addUp_105 hl (k := 5) rfl (g_inc _) (by decide) rfl (fun ls hl => ?_)
                refine lv_goto (tgt := 8) hx hb dX4_addUp_108 (by decide) ?_
                exact ih_loop (q + 1) r ls (by omega) (by omega) (by rw [i2]; exact (cif_neg (by rintro ⟨z1, z2, z3, z4⟩; first | exact absurd z1 (by assumption) | exact absurd z2 (by assumption) | exact absurd (by assumption) z3 | exact absurd z4 (Int32.not_lt.mpr (by assumption)))).symm) (lv_sub hl [2, 3, 4, 5, 0] rfl)
              · have q13_ := bz.f h11_ c12_
                refine lv_aload_n hx hb dX4_addUp_80 rfl (lv_at hl 3 rfl) ?_
                refine g_get (v := .int (M w 5 0)) hC (hR.mom w hw) (C := RX1) (T := TX1) (N := 6) rfl u1_in 5 (by decide) k_710 rfl dX4_addUp_81 ?_
                refine lv_aload hx hb dX4_addUp_84 (lv_at hl 0 rfl) ?_
                refine g_get (v := .int (ξ 16 q)) hC (hR.deed (i := q) (by omega)) (C := RX0) (T := TX0) (N := 16) rfl u0_in 6 (by decide) k_313 rfl dX4_addUp_86 ?_
                refine lv_isub hx hb dX4_addUp_89 ?_
                refine lv_aload_n hx hb dX4_addUp_90 rfl (lv_at hl 3 rfl) ?_
                refine g_get (v := .int (M w 4 0)) hC (hR.mom w hw) (C := RX1) (T := TX1) (N := 6) rfl u1_in 4 (by decide) k_708 rfl dX4_addUp_91 ?_
                refine lv_icmp_ge (tgt := 105) hx hb dX4_addUp_94 (by decide) (fun c14_ => ?_) (fun c14_ => ?_)
                · refine lv_iinc (v := nI (q + 1)) (lv' := [(4, .int (nI (q + 1))), (5, .ref (α 1 q)), (0, .ref (α 3 0)), (1, .ref a), (2, .ref (α 3 (4 + w))), (3, .int r)]) hx hb dX4_addUp_105 hl (k := 5) rfl (g_inc _) (by decide) rfl (fun ls hl => ?_)
                  refine lv_goto (tgt := 8) hx hb dX4_addUp_108 (by decide) ?_
                  exact ih_loop (q + 1) r ls (by omega) (by omega) (by rw [i2]; exact (cif_neg (by rintro ⟨z1, z2, z3, z4⟩; first | exact absurd z1 (by assumption) | exact absurd z2 (by assumption) | exact absurd (by assumption) z3 | exact absurd z4 (Int32.not_lt.mpr (by assumption)))).symm) (lv_sub hl [2, 3, 4, 5, 0] rfl)
                · refine lv_iload_n hx hb dX4_addUp_97 rfl (lv_at hl 4 rfl) ?_
                  refine lv_aload hx hb dX4_addUp_98 (lv_at hl 0 rfl) ?_
                  refine g_get (v := .int (ξ 14 q)) hC (hR.deed (i := q) (by omega)) (C := RX0) (T := TX0) (N := 16) rfl u0_in 4 (by decide) k_310 rfl dX4_addUp_100 ?_
                  refine lv_iadd hx hb dX4_addUp_103 ?_
                  refine lv_istore_n (lv' := [(3, .int (r + (ξ 14 q))), (5, .ref (α 1 q)), (0, .ref (α 3 0)), (1, .ref a), (2, .ref (α 3 (4 + w))), (4, .int (nI q))]) hx hb dX4_addUp_104 rfl hl (by decide) rfl (fun ls hl => ?_)
                  refine lv_iinc (v := nI (q + 1)) (lv' := [(4, .int (nI (q + 1))), (3, .int (r + (ξ 14 q))), (5, .ref (α 1 q)), (0, .ref (α 3 0)), (1, .ref a), (2, .ref (α 3 (4 + w)))]) hx hb dX4_addUp_105 hl (k := 5) rfl (g_inc _) (by decide) rfl (fun ls hl => ?_)
                  refine lv_goto (tgt := 8) hx hb dX4_addUp_108 (by decide) ?_
                  exact ih_loop (q + 1) (r + (ξ 14 q)) ls (by omega) (by omega) (by rw [i2]; exact (cif_pos ⟨by assumption, by assumption, by assumption, Int32.not_le.mp (by assumption)⟩).symm) (lv_sub hl [3, 4, 5, 1, 0] rfl)
  exact loop ((d - (0)) + 1) 0 (δ 4) ls (by omega) (by omega) rfl (lv_sub hl [2, 3, 4, 1, 0] rfl)
set_option maxHeartbeats 4000000 in
set_option maxRecDepth 100000 in
theorem c_X4_signersSuffice {l : Launch} {E : gV} (hE : gOK l E) {α : Nat → Nat → Nat} {ξ : F2} {M : Nat → F2} {N : Nat → Nat} (a d : Nat) (δ : Nat → Int32) (ho : δ 2 = -1 ∨ ¬ δ 2 < 0) (s0 : Int32)(w : Nat) (hw : w < 2) : gM l E yX4_signersSuffice cX4_signersSuffice 6 (some .boolean) ({ frames := 4, cells := 0, slots := 0, locals := 96 } : Room) [.ref (α 3 0), .ref a, .int s0, .ref (α 3 (4 + w))] (fun H => RX E α ξ M N H ∧ gD E a d δ H) (gQR (gPi (bz (mOk (xv ξ (M w)) (N 0) (M w 5 0) (δ 1) (δ 2) (δ 3) s0)))) (fun _ => False) gN := by
  refine gM_body hE (by decide +kernel) (Nat.le_of_ble_eq_true rfl) ?_
  intro p_ e_ s m args below meth c hC ht hr hname hP ls hl
  have hx := hC.2.2.1
  have hb := hC.2.2.2.1
  have hl : lv_has ls 6 [(0, .ref (α 3 0)), (1, .ref a), (2, .int s0), (3, .ref (α 3 (4 + w)))] := hl
  obtain ⟨hR, hD⟩ := (show RX E α ξ M N s.heap ∧ gD E a d δ s.heap from hP)
  have hSr := hR.inv.src (M 0)
  obtain ⟨hN0, hN1, hN2, hN3, -, hHo, hDe⟩ := hR.inv
  refine lv_aload_n hx hb dX4_signersSuffice_0 rfl (lv_at hl 0 rfl) ?_
  refine lv_aload_n hx hb dX4_signersSuffice_1 rfl (lv_at hl 1 rfl) ?_
  refine g_get (v := .int (δ 1)) hC hD (C := RX0) (T := TX0) (N := 16) rfl u0_in 1 (by decide) k_304 rfl dX4_signersSuffice_2 ?_
  refine lv_aload_n hx hb dX4_signersSuffice_5 rfl (lv_at hl 1 rfl) ?_
  refine g_get (v := .int (δ 3)) hC hD (C := RX0) (T := TX0) (N := 16) rfl u0_in 3 (by decide) k_308 rfl dX4_signersSuffice_6 ?_
  refine lv_iload_n hx hb dX4_signersSuffice_9 rfl (lv_at hl 2 rfl) ?_
  refine lv_aload_n hx hb dX4_signersSuffice_10 rfl (lv_at hl 3 rfl) ?_
  refine g_cRi (k2 := 0) (n2 := 0) (g_runV (rest := []) hC (c_X4_handsOf hE (α := α) (ξ := ξ) (M := M) (N := N) (δ 1) (δ 3) s0 w hw) Y_X4_handsOf k_395 I_X4_handsOf V_X4_handsOf hR.sig rfl hR rfl hl.1 dX4_signersSuffice_11 ⟨Nat.le_of_ble_eq_true rfl, Nat.le_of_ble_eq_true rfl⟩ ⟨Nat.le_of_ble_eq_true rfl, Nat.le_of_ble_eq_true rfl⟩ rfl (Nat.le_of_ble_eq_true rfl)) rfl rfl g_no (fun r1_ h2_ => ?_)
  refine lv_istore (lv' := [(4, .int r1_), (0, .ref (α 3 0)), (1, .ref a), (2, .int s0), (3, .ref (α 3 (4 + w)))]) hx hb dX4_signersSuffice_14 hl (by decide) rfl (fun ls hl => ?_)
  refine lv_aload_n hx hb dX4_signersSuffice_16 rfl (lv_at hl 2 rfl) ?_
  refine g_get (v := .int (δ 2)) hC hD (C := RX0) (T := TX0) (N := 16) rfl u0_in 2 (by decide) k_306 rfl dX4_signersSuffice_17 ?_
  refine lv_iconst (v := (-1)) hx hb dX4_signersSuffice_20 (by decide) ?_
  refine lv_icmp_ne (tgt := 28) hx hb dX4_signersSuffice_21 (by decide) (fun c3_ => ?_) (fun c3_ => ?_)
  · refine lv_aload_n hx hb dX4_signersSuffice_28 rfl (lv_at hl 1 rfl) ?_
    refine lv_aload_n hx hb dX4_signersSuffice_29 rfl (lv_at hl 2 rfl) ?_
    refine g_get (v := .int (δ 2)) hC hD (C := RX0) (T := TX0) (N := 16) rfl u0_in 2 (by decide) k_306 rfl dX4_signersSuffice_30 ?_
    refine lv_aload_n hx hb dX4_signersSuffice_33 rfl (lv_at hl 2 rfl) ?_
    refine g_get (v := .int (δ 3)) hC hD (C := RX0) (T := TX0) (N := 16) rfl u0_in 3 (by decide) k_308 rfl dX4_signersSuffice_34 ?_
    refine lv_iload_n hx hb dX4_signersSuffice_37 rfl (lv_at hl 3 rfl) ?_
    refine lv_aload_n hx hb dX4_signersSuffice_38 rfl (lv_at hl 4 rfl) ?_
    refine g_cRi (k2 := 0) (n2 := 0) (g_runV (rest := []) hC (c_X4_handsOf hE (α := α) (ξ := ξ) (M := M) (N := N) (δ 2) (δ 3) s0 w hw) Y_X4_handsOf k_395 I_X4_handsOf V_X4_handsOf hR.sig rfl hR rfl hl.1 dX4_signersSuffice_39 ⟨Nat.le_of_ble_eq_true rfl, Nat.le_of_ble_eq_true rfl⟩ ⟨Nat.le_of_ble_eq_true rfl, Nat.le_of_ble_eq_true rfl⟩ rfl (Nat.le_of_ble_eq_true rfl)) rfl rfl g_no (fun r4_ h5_ => ?_)
    refine lv_istore (lv' := [(5, .int r4_), (4, .int r1_), (0, .ref (α 3 0)), (1, .ref a), (2, .int s0), (3, .ref (α 3 (4 + w)))]) hx hb dX4_signersSuffice_42 hl (by decide) rfl (fun ls hl => ?_)
    refine lv_iload hx hb dX4_signersSuffice_44 (lv_at hl 1 rfl) ?_
    refine lv_iload hx hb dX4_signersSuffice_46 (lv_at hl 0 rfl) ?_
    refine g_cRi (k2 := 0) (n2 := 0) (g_runS (rest := []) hC (c_X4_suffice hE r1_ r4_) Y_X4_suffice k_423 S_X4_suffice trivial rfl hl.1 dX4_signersSuffice_48 ⟨Nat.le_of_ble_eq_true rfl, Nat.le_of_ble_eq_true rfl⟩ ⟨Nat.le_of_ble_eq_true rfl, Nat.le_of_ble_eq_true rfl⟩ rfl (Nat.le_of_ble_eq_true rfl)) rfl rfl g_no (fun r6_ h7_ => ?_)
    have f8_ := h7_.iff (P' := mOk (xv ξ (M w)) (N 0) (M w 5 0) (δ 1) (δ 2) (δ 3) s0) (by rw [h2_, h5_]; exact mOk_2 (ho.resolve_left (by assumption)))
    exact g_zret hC hr (bz.nar f8_) dX4_signersSuffice_51 (Nat.le_of_ble_eq_true rfl) (Nat.le_of_ble_eq_true rfl) f8_
  · refine lv_iconst (v := 0) hx hb dX4_signersSuffice_24 (by decide) ?_
    refine lv_goto (tgt := 42) hx hb dX4_signersSuffice_25 (by decide) ?_
    refine lv_istore (lv' := [(5, .int 0), (4, .int r1_), (0, .ref (α 3 0)), (1, .ref a), (2, .int s0), (3, .ref (α 3 (4 + w)))]) hx hb dX4_signersSuffice_42 hl (by decide) rfl (fun ls hl => ?_)
    refine lv_iload hx hb dX4_signersSuffice_44 (lv_at hl 1 rfl) ?_
    refine lv_iload hx hb dX4_signersSuffice_46 (lv_at hl 0 rfl) ?_
    refine g_cRi (k2 := 0) (n2 := 0) (g_runS (rest := []) hC (c_X4_suffice hE r1_ 0) Y_X4_suffice k_423 S_X4_suffice trivial rfl hl.1 dX4_signersSuffice_48 ⟨Nat.le_of_ble_eq_true rfl, Nat.le_of_ble_eq_true rfl⟩ ⟨Nat.le_of_ble_eq_true rfl, Nat.le_of_ble_eq_true rfl⟩ rfl (Nat.le_of_ble_eq_true rfl)) rfl rfl g_no (fun r9_ h10_ => ?_)
    have f11_ := h10_.iff (P' := mOk (xv ξ (M w)) (N 0) (M w 5 0) (δ 1) (δ 2) (δ 3) s0) (by rw [h2_]; exact mOk_1 (by assumption))
    exact g_zret hC hr (bz.nar f11_) dX4_signersSuffice_51 (Nat.le_of_ble_eq_true rfl) (Nat.le_of_ble_eq_true rfl) f11_
set_option maxHeartbeats 4000000 in
set_option maxRecDepth 100000 in
theorem c_X4_signersActBy {l : Launch} {E : gV} (hE : gOK l E) {α : Nat → Nat → Nat} {ξ : F2} {M : Nat → F2} {N : Nat → Nat} (a d : Nat) (δ : Nat → Int32) (i : Nat) (hi : i < N 0) : gM l E yX4_signersActBy cX4_signersActBy 3 (some .boolean) ({ frames := 3, cells := 0, slots := 0, locals := 64 } : Room) [.ref (α 3 0), .ref (α 0 i), .ref a] (fun H => RX E α ξ M N H ∧ gD E a d δ H) (gQR (gPi (bz (fAct (xv ξ (M 0)) (δ 1) (ξ 1 i) ∨ (¬ δ 2 = -1 ∧ fAct (xv ξ (M 0)) (δ 2) (ξ 1 i)))))) (fun _ => False) gN := by
  refine gM_body hE (by decide +kernel) (Nat.le_of_ble_eq_true rfl) ?_
  intro p_ e_ s m args below meth c hC ht hr hname hP ls hl
  have hx := hC.2.2.1
  have hb := hC.2.2.2.1
  have hl : lv_has ls 3 [(0, .ref (α 3 0)), (1, .ref (α 0 i)), (2, .ref a)] := hl
  obtain ⟨hR, hD⟩ := (show RX E α ξ M N s.heap ∧ gD E a d δ s.heap from hP)
  have hSr := hR.inv.src (M 0)
  obtain ⟨hN0, hN1, hN2, hN3, -, hHo, hDe⟩ := hR.inv
  refine lv_aload_n hx hb dX4_signersActBy_0 rfl (lv_at hl 0 rfl) ?_
  refine g_get (v := .ref (α 3 4)) hC hR.sig (C := RX4) (T := TX4) (N := 6) rfl u4_in 3 (by decide) k_729 rfl dX4_signersActBy_1 ?_
  refine lv_aload_n hx hb dX4_signersActBy_4 rfl (lv_at hl 2 rfl) ?_
  refine g_get (v := .int (δ 1)) hC hD (C := RX0) (T := TX0) (N := 16) rfl u0_in 1 (by decide) k_304 rfl dX4_signersActBy_5 ?_
  refine lv_aload_n hx hb dX4_signersActBy_8 rfl (lv_at hl 1 rfl) ?_
  refine g_get (v := .int (ξ 1 i)) hC (hR.pow (i := i) (by omega)) (C := RX3) (T := TX3) (N := 7) rfl u3_in 1 (by decide) k_792 rfl dX4_signersActBy_9 ?_
  obtain ⟨j_h, hj_h, ej_h⟩ := hHo i (by omega)
  rw [ej_h]
  refine g_cRi (k2 := 0) (n2 := 0) (g_runV (rest := []) hC (c_X1_actsByPowersOf hE (α := α) (ξ := ξ) (M := M) (N := N) 0 (by decide) (δ 1) j_h (by omega)) Y_X1_actsByPowersOf k_400 I_X1_actsByPowersOf V_X1_actsByPowersOf (hR.mom 0 (by decide)) rfl hR rfl hl.1 dX4_signersActBy_12 ⟨Nat.le_of_ble_eq_true rfl, Nat.le_of_ble_eq_true rfl⟩ ⟨Nat.le_of_ble_eq_true rfl, Nat.le_of_ble_eq_true rfl⟩ rfl (Nat.le_of_ble_eq_true rfl)) rfl rfl g_no (fun r1_ h2_ => ?_)
  refine lv_if_ne (tgt := 44) hx hb dX4_signersActBy_15 (by decide) (fun c3_ => ?_) (fun c3_ => ?_)
  · have q4_ := bz.t h2_ c3_
    refine lv_iconst (v := 1) hx hb dX4_signersActBy_44 (by decide) ?_
    refine lv_goto (tgt := 49) hx hb dX4_signersActBy_45 (by decide) ?_
    exact g_zret hC hr rfl dX4_signersActBy_49 (Nat.le_of_ble_eq_true rfl) (Nat.le_of_ble_eq_true rfl) (bz_1 (by grind))
  · have q4_ := bz.f h2_ c3_
    refine lv_aload_n hx hb dX4_signersActBy_18 rfl (lv_at hl 2 rfl) ?_
    refine g_get (v := .int (δ 2)) hC hD (C := RX0) (T := TX0) (N := 16) rfl u0_in 2 (by decide) k_306 rfl dX4_signersActBy_19 ?_
    refine lv_iconst (v := (-1)) hx hb dX4_signersActBy_22 (by decide) ?_
    refine lv_icmp_eq (tgt := 48) hx hb dX4_signersActBy_23 (by decide) (fun c5_ => ?_) (fun c5_ => ?_)
    · refine lv_iconst (v := 0) hx hb dX4_signersActBy_48 (by decide) ?_
      exact g_zret hC hr rfl dX4_signersActBy_49 (Nat.le_of_ble_eq_true rfl) (Nat.le_of_ble_eq_true rfl) (bz_0 (by grind))
    · refine lv_aload_n hx hb dX4_signersActBy_26 rfl (lv_at hl 0 rfl) ?_
      refine g_get (v := .ref (α 3 4)) hC hR.sig (C := RX4) (T := TX4) (N := 6) rfl u4_in 3 (by decide) k_729 rfl dX4_signersActBy_27 ?_
      refine lv_aload_n hx hb dX4_signersActBy_30 rfl (lv_at hl 2 rfl) ?_
      refine g_get (v := .int (δ 2)) hC hD (C := RX0) (T := TX0) (N := 16) rfl u0_in 2 (by decide) k_306 rfl dX4_signersActBy_31 ?_
      refine lv_aload_n hx hb dX4_signersActBy_34 rfl (lv_at hl 1 rfl) ?_
      refine g_get (v := .int (ξ 1 i)) hC (hR.pow (i := i) (by omega)) (C := RX3) (T := TX3) (N := 7) rfl u3_in 1 (by decide) k_792 rfl dX4_signersActBy_35 ?_
      rw [ej_h]
      refine g_cRi (k2 := 0) (n2 := 0) (g_runV (rest := []) hC (c_X1_actsByPowersOf hE (α := α) (ξ := ξ) (M := M) (N := N) 0 (by decide) (δ 2) j_h (by omega)) Y_X1_actsByPowersOf k_400 I_X1_actsByPowersOf V_X1_actsByPowersOf (hR.mom 0 (by decide)) rfl hR rfl hl.1 dX4_signersActBy_38 ⟨Nat.le_of_ble_eq_true rfl, Nat.le_of_ble_eq_true rfl⟩ ⟨Nat.le_of_ble_eq_true rfl, Nat.le_of_ble_eq_true rfl⟩ rfl (Nat.le_of_ble_eq_true rfl)) rfl rfl g_no (fun r6_ h7_ => ?_)
      refine lv_if_eq (tgt := 48) hx hb dX4_signersActBy_41 (by decide) (fun c8_ => ?_) (fun c8_ => ?_)
      · have q9_ := bz.f h7_ c8_
        refine lv_iconst (v := 0) hx hb dX4_signersActBy_48 (by decide) ?_
        exact g_zret hC hr rfl dX4_signersActBy_49 (Nat.le_of_ble_eq_true rfl) (Nat.le_of_ble_eq_true rfl) (bz_0 (by grind))
      · have q9_ := bz.t h7_ c8_
        refine lv_iconst (v := 1) hx hb dX4_signersActBy_44 (by decide) ?_
        refine lv_goto (tgt := 49) hx hb dX4_signersActBy_45 (by decide) ?_
        exact g_zret hC hr rfl dX4_signersActBy_49 (Nat.le_of_ble_eq_true rfl) (Nat.le_of_ble_eq_true rfl) (bz_1 (by grind))
