set_option maxHeartbeats 4000000 in
set_option maxRecDepth 100000 in
theorem c_X4_source {l : Launch} {E : gV} (hE : gOK l E) {α : Nat → Nat → Nat} {ξ : F2} {M : Nat → F2} {N : Nat → Nat} (p0 : Int32) : gM l E yX4_source cX4_source 3 (some .int) ({ frames := 9, cells := 1, slots := 6, locals := 161 } : Room) [.ref (α 3 0), .int p0] (fun H => RX E α ξ M N H) (gQR (gPi (fun r => kPow (N 0) p0 = 0 ∧ (r = if ξ 6 (ix p0) < 0 then -1 else ξ 6 (ix p0))))) (fun X => gCode ["java/lang/IndexOutOfBoundsException"] (kPow (N 0) p0) X) gN := by
  refine gM_body hE (by decide +kernel) (Nat.le_of_ble_eq_true rfl) ?_
  intro p_ e_ s m args below meth c hC ht hr hname hP ls hl
  have hx := hC.2.2.1
  have hb := hC.2.2.2.1
  have hl : lv_has ls 3 [(0, .ref (α 3 0)), (1, .int p0)] := hl
  have hR : RX E α ξ M N s.heap := hP
  have hSr := hR.inv.src (M 0)
  obtain ⟨hN0, hN1, hN2, hN3, -, hHo, hDe⟩ := hR.inv
  refine lv_aload_n hx hb dX4_source_0 rfl (lv_at hl 0 rfl) ?_
  refine lv_iload_n hx hb dX4_source_1 rfl (lv_at hl 1 rfl) ?_
  refine g_cRr (k2 := 1) (n2 := 6) (g_runV (rest := []) hC (c_X4_findPower hE (α := α) (ξ := ξ) (M := M) (N := N) p0) Y_X4_findPower k_482 I_X4_findPower V_X4_findPower hR.sig rfl hR rfl hl.1 dX4_source_2 ⟨Nat.le_of_ble_eq_true rfl, Nat.le_of_ble_eq_true rfl⟩ ⟨Nat.le_of_ble_eq_true rfl, Nat.le_of_ble_eq_true rfl⟩ rfl (Nat.le_of_ble_eq_true rfl)) rfl rfl (g_up hC ht (fun X h => ⟨0, by rw [h.1]; rfl, (by unfold kPow; rw [cif_pos (by first | grind | (simp only [ix, xv, xw]; grind))])⟩) (Nat.le_of_ble_eq_true rfl) (Nat.le_of_ble_eq_true rfl)) (fun r1_ h2_ => ?_)
  obtain ⟨g3_, rfl⟩ := h2_
  obtain ⟨j_p0, hj_p0, rfl⟩ := isP_of (n := N 0) (p := p0) g3_ (by omega)
  have ej_p0 : (nI j_p0).toNatClampNeg = j_p0 := nI_clamp (by omega)
  have ipj_p0 : isP (N 0) (nI j_p0) := isP_nI hj_p0 (by omega)
  rw [show ix (nI j_p0) = j_p0 from ej_p0]
  refine g_get (v := srcV α (ξ 6 j_p0)) hC (hR.pow (i := j_p0) (by omega)) (C := RX3) (T := TX3) (N := 7) rfl u3_in 6 (by decide) k_453 rfl dX4_source_5 ?_
  rcases hSr j_p0 (by omega) with hs5_ | ⟨q4_, hq6_, hs5_⟩
  · have hs5_ : ξ 6 j_p0 < 0 := hs5_
    rw [srcV_n hs5_]
    refine lv_astore_nN (lv' := [(2, .null), (0, .ref (α 3 0)), (1, .int (nI j_p0))]) hx hb dX4_source_8 rfl hl (by decide) rfl (fun ls hl => ?_)
    refine lv_aload_nN hx hb dX4_source_9 rfl (lv_at hl 0 rfl) ?_
    refine lv_ifnonnullN hx hb dX4_source_10 ?_
    refine lv_iconst (v := (-1)) hx hb dX4_source_13 (by decide) ?_
    refine lv_goto (tgt := 21) hx hb dX4_source_14 (by decide) ?_
    exact g_iret hC hr dX4_source_21 (Nat.le_of_ble_eq_true rfl) (Nat.le_of_ble_eq_true rfl) ⟨(by unfold kPow; rw [cif_neg (by first | grind | (simp only [ix, ej_p0, xv, xw]; grind))]), (by (try simp only [ix, ej_p0]); rw [if_pos hs5_])⟩
  · have hs5_ : ξ 6 j_p0 = nI q4_ := hs5_
    rw [srcV_s hs5_ (by omega)]
    refine lv_astore_n (lv' := [(2, .ref (α 0 q4_)), (0, .ref (α 3 0)), (1, .int (nI j_p0))]) hx hb dX4_source_8 rfl hl (by decide) rfl (fun ls hl => ?_)
    refine lv_aload_n hx hb dX4_source_9 rfl (lv_at hl 0 rfl) ?_
    refine lv_ifnonnull (tgt := 17) hx hb dX4_source_10 (by decide) ?_
    refine lv_aload_n hx hb dX4_source_17 rfl (lv_at hl 0 rfl) ?_
    refine g_get (v := .int (nI q4_)) hC (hR.pow (i := q4_) (by omega)) (C := RX3) (T := TX3) (N := 7) rfl u3_in 0 (by decide) k_439 rfl dX4_source_18 ?_
    exact g_iret hC hr dX4_source_21 (Nat.le_of_ble_eq_true rfl) (Nat.le_of_ble_eq_true rfl) ⟨(by unfold kPow; rw [cif_neg (by first | grind | (simp only [ix, ej_p0, xv, xw]; grind))]), (by (try simp only [ix, ej_p0]); rw [hs5_, if_neg (nI_pos (by omega))])⟩
set_option maxHeartbeats 4000000 in
set_option maxRecDepth 100000 in
theorem c_X4_limit {l : Launch} {E : gV} (hE : gOK l E) {α : Nat → Nat → Nat} {ξ : F2} {M : Nat → F2} {N : Nat → Nat} (p0 : Int32) : gM l E yX4_limit cX4_limit 2 (some .int) ({ frames := 9, cells := 1, slots := 6, locals := 161 } : Room) [.ref (α 3 0), .int p0] (fun H => RX E α ξ M N H) (gQR (gPi (fun r => kPow (N 0) p0 = 0 ∧ (r = M 0 0 (ix p0))))) (fun X => gCode ["java/lang/IndexOutOfBoundsException"] (kPow (N 0) p0) X) gN := by
  refine gM_body hE (by decide +kernel) (Nat.le_of_ble_eq_true rfl) ?_
  intro p_ e_ s m args below meth c hC ht hr hname hP ls hl
  have hx := hC.2.2.1
  have hb := hC.2.2.2.1
  have hl : lv_has ls 2 [(0, .ref (α 3 0)), (1, .int p0)] := hl
  have hR : RX E α ξ M N s.heap := hP
  have hSr := hR.inv.src (M 0)
  obtain ⟨hN0, hN1, hN2, hN3, -, hHo, hDe⟩ := hR.inv
  refine lv_aload_n hx hb dX4_limit_0 rfl (lv_at hl 0 rfl) ?_
  refine g_get (v := .ref (α 3 4)) hC hR.sig (C := RX4) (T := TX4) (N := 6) rfl u4_in 3 (by decide) k_98 rfl dX4_limit_1 ?_
  refine lv_aload_n hx hb dX4_limit_4 rfl (lv_at hl 0 rfl) ?_
  refine lv_iload_n hx hb dX4_limit_5 rfl (lv_at hl 1 rfl) ?_
  refine g_cRr (k2 := 1) (n2 := 6) (g_runV (rest := [.ref (α 3 4)]) hC (c_X4_findPower hE (α := α) (ξ := ξ) (M := M) (N := N) p0) Y_X4_findPower k_482 I_X4_findPower V_X4_findPower hR.sig rfl hR rfl hl.1 dX4_limit_6 ⟨Nat.le_of_ble_eq_true rfl, Nat.le_of_ble_eq_true rfl⟩ ⟨Nat.le_of_ble_eq_true rfl, Nat.le_of_ble_eq_true rfl⟩ rfl (Nat.le_of_ble_eq_true rfl)) rfl rfl (g_up hC ht (fun X h => ⟨0, by rw [h.1]; rfl, (by unfold kPow; rw [cif_pos (by first | grind | (simp only [ix, xv, xw]; grind))])⟩) (Nat.le_of_ble_eq_true rfl) (Nat.le_of_ble_eq_true rfl)) (fun r1_ h2_ => ?_)
  obtain ⟨g3_, rfl⟩ := h2_
  obtain ⟨j_p0, hj_p0, rfl⟩ := isP_of (n := N 0) (p := p0) g3_ (by omega)
  have ej_p0 : (nI j_p0).toNatClampNeg = j_p0 := nI_clamp (by omega)
  have ipj_p0 : isP (N 0) (nI j_p0) := isP_nI hj_p0 (by omega)
  rw [show ix (nI j_p0) = j_p0 from ej_p0]
  refine g_cRi (k2 := 1) (n2 := 6) (g_runV (rest := []) hC (c_X1_limitOf hE (α := α) (ξ := ξ) (M := M) (N := N) 0 (by decide) j_p0 (by omega)) Y_X1_limitOf k_487 I_X1_limitOf V_X1_limitOf (hR.mom 0 (by decide)) rfl hR rfl hl.1 dX4_limit_9 ⟨Nat.le_of_ble_eq_true rfl, Nat.le_of_ble_eq_true rfl⟩ ⟨Nat.le_of_ble_eq_true rfl, Nat.le_of_ble_eq_true rfl⟩ rfl (Nat.le_of_ble_eq_true rfl)) rfl rfl g_no (fun r4_ h5_ => ?_)
  obtain rfl := h5_
  exact g_iret hC hr dX4_limit_12 (Nat.le_of_ble_eq_true rfl) (Nat.le_of_ble_eq_true rfl) ⟨(by unfold kPow; rw [cif_neg (by first | grind | (simp only [ix, ej_p0, xv, xw]; grind))]), (by first | rfl | simp only [ix, ej_p0])⟩
set_option maxHeartbeats 4000000 in
set_option maxRecDepth 100000 in
theorem c_X4_fault {l : Launch} {E : gV} (hE : gOK l E) {α : Nat → Nat → Nat} {ξ : F2} {M : Nat → F2} {N : Nat → Nat} (p0 : Int32) (s0 : Int32) : gM l E yX4_fault cX4_fault 4 (some .char) ({ frames := 9, cells := 2, slots := 12, locals := 161 } : Room) [.ref (α 3 0), .int p0, .int s0] (fun H => RX E α ξ M N H) (gQR (gPi (fun r => kFault (N 0) p0 s0 = 0 ∧ (r = fl (xv ξ (M 0)) (M 0 5 0) s0 (ix p0))))) (fun X => gCode ["java/lang/IndexOutOfBoundsException", "java/lang/IllegalArgumentException"] (kFault (N 0) p0 s0) X) gN := by
  refine gM_body hE (by decide +kernel) (Nat.le_of_ble_eq_true rfl) ?_
  intro p_ e_ s m args below meth c hC ht hr hname hP ls hl
  have hx := hC.2.2.1
  have hb := hC.2.2.2.1
  have hl : lv_has ls 4 [(0, .ref (α 3 0)), (1, .int p0), (2, .int s0)] := hl
  have hR : RX E α ξ M N s.heap := hP
  have hSr := hR.inv.src (M 0)
  obtain ⟨hN0, hN1, hN2, hN3, -, hHo, hDe⟩ := hR.inv
  refine lv_aload_n hx hb dX4_fault_0 rfl (lv_at hl 0 rfl) ?_
  refine lv_iload_n hx hb dX4_fault_1 rfl (lv_at hl 1 rfl) ?_
  refine g_cRr (k2 := 1) (n2 := 6) (g_runV (rest := []) hC (c_X4_findPower hE (α := α) (ξ := ξ) (M := M) (N := N) p0) Y_X4_findPower k_482 I_X4_findPower V_X4_findPower hR.sig rfl hR rfl hl.1 dX4_fault_2 ⟨Nat.le_of_ble_eq_true rfl, Nat.le_of_ble_eq_true rfl⟩ ⟨Nat.le_of_ble_eq_true rfl, Nat.le_of_ble_eq_true rfl⟩ rfl (Nat.le_of_ble_eq_true rfl)) rfl rfl (g_up hC ht (fun X h => ⟨0, by rw [h.1]; rfl, (by unfold kFault; rw [cif_pos (by first | grind | (simp only [ix, xv, xw]; grind))])⟩) (Nat.le_of_ble_eq_true rfl) (Nat.le_of_ble_eq_true rfl)) (fun r1_ h2_ => ?_)
  obtain ⟨g3_, rfl⟩ := h2_
  obtain ⟨j_p0, hj_p0, rfl⟩ := isP_of (n := N 0) (p := p0) g3_ (by omega)
  have ej_p0 : (nI j_p0).toNatClampNeg = j_p0 := nI_clamp (by omega)
  have ipj_p0 : isP (N 0) (nI j_p0) := isP_nI hj_p0 (by omega)
  rw [show ix (nI j_p0) = j_p0 from ej_p0]
  refine lv_astore_n (lv' := [(3, .ref (α 0 j_p0)), (0, .ref (α 3 0)), (1, .int (nI j_p0)), (2, .int s0)]) hx hb dX4_fault_5 rfl hl (by decide) rfl (fun ls hl => ?_)
  refine lv_iload_n hx hb dX4_fault_6 rfl (lv_at hl 3 rfl) ?_
  refine g_cRv (k2 := 2) (n2 := 12) (g_runS (rest := []) hC (c_X4_requireSum hE  s0) Y_X4_requireSum k_556 S_X4_requireSum hR.frz rfl hl.1 dX4_fault_7 ⟨Nat.le_of_ble_eq_true rfl, Nat.le_of_ble_eq_true rfl⟩ ⟨Nat.le_of_ble_eq_true rfl, Nat.le_of_ble_eq_true rfl⟩ rfl (Nat.le_of_ble_eq_true rfl)) rfl rfl (g_up hC ht (fun X h => ⟨1, by rw [h.1]; rfl, (by unfold kFault; rw [cif_neg (by first | grind | (simp only [ix, ej_p0, xv, xw]; grind)), cif_pos (by first | grind | (simp only [ix, ej_p0, xv, xw]; grind))])⟩) (Nat.le_of_ble_eq_true rfl) (Nat.le_of_ble_eq_true rfl)) (fun h5_ => ?_)
  refine lv_aload_n hx hb dX4_fault_10 rfl (lv_at hl 1 rfl) ?_
  refine g_get (v := .ref (α 3 4)) hC hR.sig (C := RX4) (T := TX4) (N := 6) rfl u4_in 3 (by decide) k_98 rfl dX4_fault_11 ?_
  refine lv_aload_n hx hb dX4_fault_14 rfl (lv_at hl 0 rfl) ?_
  refine lv_iload_n hx hb dX4_fault_15 rfl (lv_at hl 3 rfl) ?_
  refine g_cRi (k2 := 2) (n2 := 12) (g_runV (rest := []) hC (c_X1_faultOf hE (α := α) (ξ := ξ) (M := M) (N := N) 0 (by decide) j_p0 (by omega) s0) Y_X1_faultOf k_560 I_X1_faultOf V_X1_faultOf (hR.mom 0 (by decide)) rfl hR rfl hl.1 dX4_fault_16 ⟨Nat.le_of_ble_eq_true rfl, Nat.le_of_ble_eq_true rfl⟩ ⟨Nat.le_of_ble_eq_true rfl, Nat.le_of_ble_eq_true rfl⟩ rfl (Nat.le_of_ble_eq_true rfl)) rfl rfl g_no (fun r6_ h7_ => ?_)
  exact g_zret hC hr (by rw [h7_]; exact fl_nar _ _ _ _) dX4_fault_19 (Nat.le_of_ble_eq_true rfl) (Nat.le_of_ble_eq_true rfl) ⟨(by unfold kFault; rw [cif_neg (by first | grind | (simp only [ix, ej_p0, xv, xw]; grind)), cif_neg (by first | grind | (simp only [ix, ej_p0, xv, xw]; grind))]), (by first | exact h7_ | (simp only [ix, ej_p0]; exact h7_))⟩
set_option maxHeartbeats 4000000 in
set_option maxRecDepth 100000 in
theorem c_X4_faultDepth {l : Launch} {E : gV} (hE : gOK l E) {α : Nat → Nat → Nat} {ξ : F2} {M : Nat → F2} {N : Nat → Nat} (p0 : Int32) (s0 : Int32) : gM l E yX4_faultDepth cX4_faultDepth 5 (some .int) ({ frames := 9, cells := 3, slots := 18, locals := 161 } : Room) [.ref (α 3 0), .int p0, .int s0] (fun H => RX E α ξ M N H) (gQR (gPi (fun r => kDepth (xv ξ (M 0)) (M 0 5 0) (N 0) p0 s0 = 0 ∧ (r = fStep (xv ξ (M 0)) (M 0 5 0) s0 (ix p0))))) (fun X => gCode ["java/lang/IndexOutOfBoundsException", "java/lang/IllegalArgumentException", "java/util/NoSuchElementException"] (kDepth (xv ξ (M 0)) (M 0 5 0) (N 0) p0 s0) X) gN := by
  refine gM_body hE (by decide +kernel) (Nat.le_of_ble_eq_true rfl) ?_
  intro p_ e_ s m args below meth c hC ht hr hname hP ls hl
  have hx := hC.2.2.1
  have hb := hC.2.2.2.1
  have hl : lv_has ls 5 [(0, .ref (α 3 0)), (1, .int p0), (2, .int s0)] := hl
  have hR : RX E α ξ M N s.heap := hP
  have hSr := hR.inv.src (M 0)
  obtain ⟨hN0, hN1, hN2, hN3, -, hHo, hDe⟩ := hR.inv
  refine lv_aload_n hx hb dX4_faultDepth_0 rfl (lv_at hl 0 rfl) ?_
  refine lv_iload_n hx hb dX4_faultDepth_1 rfl (lv_at hl 1 rfl) ?_
  refine g_cRr (k2 := 1) (n2 := 6) (g_runV (rest := []) hC (c_X4_findPower hE (α := α) (ξ := ξ) (M := M) (N := N) p0) Y_X4_findPower k_482 I_X4_findPower V_X4_findPower hR.sig rfl hR rfl hl.1 dX4_faultDepth_2 ⟨Nat.le_of_ble_eq_true rfl, Nat.le_of_ble_eq_true rfl⟩ ⟨Nat.le_of_ble_eq_true rfl, Nat.le_of_ble_eq_true rfl⟩ rfl (Nat.le_of_ble_eq_true rfl)) rfl rfl (g_up hC ht (fun X h => ⟨0, by rw [h.1]; rfl, (by unfold kDepth; rw [cif_pos (by first | grind | (simp only [ix, xv, xw]; grind))])⟩) (Nat.le_of_ble_eq_true rfl) (Nat.le_of_ble_eq_true rfl)) (fun r1_ h2_ => ?_)
  obtain ⟨g3_, rfl⟩ := h2_
  obtain ⟨j_p0, hj_p0, rfl⟩ := isP_of (n := N 0) (p := p0) g3_ (by omega)
  have ej_p0 : (nI j_p0).toNatClampNeg = j_p0 := nI_clamp (by omega)
  have ipj_p0 : isP (N 0) (nI j_p0) := isP_nI hj_p0 (by omega)
  rw [show ix (nI j_p0) = j_p0 from ej_p0]
  refine lv_astore_n (lv' := [(3, .ref (α 0 j_p0)), (0, .ref (α 3 0)), (1, .int (nI j_p0)), (2, .int s0)]) hx hb dX4_faultDepth_5 rfl hl (by decide) rfl (fun ls hl => ?_)
  refine lv_iload_n hx hb dX4_faultDepth_6 rfl (lv_at hl 3 rfl) ?_
  refine g_cRv (k2 := 2) (n2 := 12) (g_runS (rest := []) hC (c_X4_requireSum hE  s0) Y_X4_requireSum k_556 S_X4_requireSum hR.frz rfl hl.1 dX4_faultDepth_7 ⟨Nat.le_of_ble_eq_true rfl, Nat.le_of_ble_eq_true rfl⟩ ⟨Nat.le_of_ble_eq_true rfl, Nat.le_of_ble_eq_true rfl⟩ rfl (Nat.le_of_ble_eq_true rfl)) rfl rfl (g_up hC ht (fun X h => ⟨1, by rw [h.1]; rfl, (by unfold kDepth; rw [cif_neg (by first | grind | (simp only [ix, ej_p0, xv, xw]; grind)), cif_pos (by first | grind | (simp only [ix, ej_p0, xv, xw]; grind))])⟩) (Nat.le_of_ble_eq_true rfl) (Nat.le_of_ble_eq_true rfl)) (fun h5_ => ?_)
  refine lv_aload_n hx hb dX4_faultDepth_10 rfl (lv_at hl 1 rfl) ?_
  refine g_get (v := .ref (α 3 4)) hC hR.sig (C := RX4) (T := TX4) (N := 6) rfl u4_in 3 (by decide) k_98 rfl dX4_faultDepth_11 ?_
  refine lv_aload_n hx hb dX4_faultDepth_14 rfl (lv_at hl 0 rfl) ?_
  refine lv_iload_n hx hb dX4_faultDepth_15 rfl (lv_at hl 3 rfl) ?_
  refine g_cRi (k2 := 2) (n2 := 12) (g_runV (rest := []) hC (c_X1_stepsToFault hE (α := α) (ξ := ξ) (M := M) (N := N) 0 (by decide) j_p0 (by omega) s0) Y_X1_stepsToFault k_579 I_X1_stepsToFault V_X1_stepsToFault (hR.mom 0 (by decide)) rfl hR rfl hl.1 dX4_faultDepth_16 ⟨Nat.le_of_ble_eq_true rfl, Nat.le_of_ble_eq_true rfl⟩ ⟨Nat.le_of_ble_eq_true rfl, Nat.le_of_ble_eq_true rfl⟩ rfl (Nat.le_of_ble_eq_true rfl)) rfl rfl g_no (fun r6_ h7_ => ?_)
  have hstp := fStep_m1 (v := xv ξ (M 0)) (td := M 0 5 0) (s := s0) (p := j_p0) (dpt_le hSr (by omega) j_p0 hj_p0) (by omega)
  rw [← h7_] at hstp
  refine lv_istore (lv' := [(4, .int r6_), (3, .ref (α 0 j_p0)), (0, .ref (α 3 0)), (1, .int (nI j_p0)), (2, .int s0)]) hx hb dX4_faultDepth_19 hl (by decide) rfl (fun ls hl => ?_)
  refine lv_iload hx hb dX4_faultDepth_21 (lv_at hl 0 rfl) ?_
  refine lv_iconst (v := (-1)) hx hb dX4_faultDepth_23 (by decide) ?_
  refine lv_icmp_ne (tgt := 37) hx hb dX4_faultDepth_24 (by decide) (fun c8_ => ?_) (fun c8_ => ?_)
  · refine lv_iload hx hb dX4_faultDepth_37 (lv_at hl 0 rfl) ?_
    exact g_iret hC hr dX4_faultDepth_39 (Nat.le_of_ble_eq_true rfl) (Nat.le_of_ble_eq_true rfl) ⟨(by unfold kDepth; rw [cif_neg (by first | grind | (simp only [ix, ej_p0, xv, xw]; grind)), cif_neg (by first | grind | (simp only [ix, ej_p0, xv, xw]; grind)), cif_neg (by first | grind | (simp only [ix, ej_p0, xv, xw]; grind))]), (by first | exact h7_ | (simp only [ix, ej_p0]; exact h7_))⟩
  · exact g_throwN hC ht hR.frz th_159 dNse_0 dNse_1 dNse_2 dNse_5 k_592 sx_161 hl.1 dX4_faultDepth_27 dX4_faultDepth_30 dX4_faultDepth_31 dX4_faultDepth_33 dX4_faultDepth_36 ⟨Nat.le_of_ble_eq_true rfl, Nat.le_of_ble_eq_true rfl⟩ ⟨Nat.le_of_ble_eq_true rfl, Nat.le_of_ble_eq_true rfl⟩ (Nat.le_of_ble_eq_true rfl) (Nat.le_of_ble_eq_true rfl) ⟨2, rfl, (by unfold kDepth; rw [cif_neg (by first | grind | (simp only [ix, ej_p0, xv, xw]; grind)), cif_neg (by first | grind | (simp only [ix, ej_p0, xv, xw]; grind)), cif_pos (by first | grind | (simp only [ix, ej_p0, xv, xw]; grind))])⟩
set_option maxHeartbeats 4000000 in
set_option maxRecDepth 100000 in
theorem c_X4_reach {l : Launch} {E : gV} (hE : gOK l E) {α : Nat → Nat → Nat} {ξ : F2} {M : Nat → F2} {N : Nat → Nat} (p0 : Int32) : gM l E yX4_reach cX4_reach 2 (some .int) ({ frames := 9, cells := 1, slots := 6, locals := 161 } : Room) [.ref (α 3 0), .int p0] (fun H => RX E α ξ M N H) (gQR (gPi (fun r => kPow (N 0) p0 = 0 ∧ (r = xReach (xv ξ (M 0)) (M 0 5 0) (ix p0))))) (fun X => gCode ["java/lang/IndexOutOfBoundsException"] (kPow (N 0) p0) X) gN := by
  refine gM_body hE (by decide +kernel) (Nat.le_of_ble_eq_true rfl) ?_
  intro p_ e_ s m args below meth c hC ht hr hname hP ls hl
  have hx := hC.2.2.1
  have hb := hC.2.2.2.1
  have hl : lv_has ls 2 [(0, .ref (α 3 0)), (1, .int p0)] := hl
  have hR : RX E α ξ M N s.heap := hP
  have hSr := hR.inv.src (M 0)
  obtain ⟨hN0, hN1, hN2, hN3, -, hHo, hDe⟩ := hR.inv
  refine lv_aload_n hx hb dX4_reach_0 rfl (lv_at hl 0 rfl) ?_
  refine g_get (v := .ref (α 3 4)) hC hR.sig (C := RX4) (T := TX4) (N := 6) rfl u4_in 3 (by decide) k_98 rfl dX4_reach_1 ?_
  refine lv_aload_n hx hb dX4_reach_4 rfl (lv_at hl 0 rfl) ?_
  refine lv_iload_n hx hb dX4_reach_5 rfl (lv_at hl 1 rfl) ?_
  refine g_cRr (k2 := 1) (n2 := 6) (g_runV (rest := [.ref (α 3 4)]) hC (c_X4_findPower hE (α := α) (ξ := ξ) (M := M) (N := N) p0) Y_X4_findPower k_482 I_X4_findPower V_X4_findPower hR.sig rfl hR rfl hl.1 dX4_reach_6 ⟨Nat.le_of_ble_eq_true rfl, Nat.le_of_ble_eq_true rfl⟩ ⟨Nat.le_of_ble_eq_true rfl, Nat.le_of_ble_eq_true rfl⟩ rfl (Nat.le_of_ble_eq_true rfl)) rfl rfl (g_up hC ht (fun X h => ⟨0, by rw [h.1]; rfl, (by unfold kPow; rw [cif_pos (by first | grind | (simp only [ix, xv, xw]; grind))])⟩) (Nat.le_of_ble_eq_true rfl) (Nat.le_of_ble_eq_true rfl)) (fun r1_ h2_ => ?_)
  obtain ⟨g3_, rfl⟩ := h2_
  obtain ⟨j_p0, hj_p0, rfl⟩ := isP_of (n := N 0) (p := p0) g3_ (by omega)
  have ej_p0 : (nI j_p0).toNatClampNeg = j_p0 := nI_clamp (by omega)
  have ipj_p0 : isP (N 0) (nI j_p0) := isP_nI hj_p0 (by omega)
  rw [show ix (nI j_p0) = j_p0 from ej_p0]
  refine g_cRi (k2 := 1) (n2 := 6) (g_runV (rest := []) hC (c_X1_reachOf hE (α := α) (ξ := ξ) (M := M) (N := N) 0 (by decide) j_p0 (by omega)) Y_X1_reachOf k_606 I_X1_reachOf V_X1_reachOf (hR.mom 0 (by decide)) rfl hR rfl hl.1 dX4_reach_9 ⟨Nat.le_of_ble_eq_true rfl, Nat.le_of_ble_eq_true rfl⟩ ⟨Nat.le_of_ble_eq_true rfl, Nat.le_of_ble_eq_true rfl⟩ rfl (Nat.le_of_ble_eq_true rfl)) rfl rfl g_no (fun r4_ h5_ => ?_)
  exact g_iret hC hr dX4_reach_12 (Nat.le_of_ble_eq_true rfl) (Nat.le_of_ble_eq_true rfl) ⟨(by unfold kPow; rw [cif_neg (by first | grind | (simp only [ix, ej_p0, xv, xw]; grind))]), (by first | exact by assumption | (simp only [ix, ej_p0]; exact by assumption))⟩
set_option maxHeartbeats 4000000 in
set_option maxRecDepth 100000 in
theorem c_X4_canSign {l : Launch} {E : gV} (hE : gOK l E) {α : Nat → Nat → Nat} {ξ : F2} {M : Nat → F2} {N : Nat → Nat} (p0 : Int32) (k0 : Int32) (s0 : Int32) : gM l E yX4_canSign cX4_canSign 4 (some .boolean) ({ frames := 9, cells := 3, slots := 18, locals := 161 } : Room) [.ref (α 3 0), .int p0, .int k0, .int s0] (fun H => RX E α ξ M N H) (gQR (gPi (fun r => kCan (N 3) p0 k0 s0 = 0 ∧ (bz (fHas (xv ξ (M 0)) (N 0) (M 0 5 0) p0 k0 115 s0) r)))) (fun X => gCode ["java/lang/IndexOutOfBoundsException", "java/lang/IllegalArgumentException"] (kCan (N 3) p0 k0 s0) X) gN := by
  refine gM_body hE (by decide +kernel) (Nat.le_of_ble_eq_true rfl) ?_
  intro p_ e_ s m args below meth c hC ht hr hname hP ls hl
  have hx := hC.2.2.1
  have hb := hC.2.2.2.1
  have hl : lv_has ls 4 [(0, .ref (α 3 0)), (1, .int p0), (2, .int k0), (3, .int s0)] := hl
  have hR : RX E α ξ M N s.heap := hP
  have hSr := hR.inv.src (M 0)
  obtain ⟨hN0, hN1, hN2, hN3, -, hHo, hDe⟩ := hR.inv
  refine lv_aload_n hx hb dX4_canSign_0 rfl (lv_at hl 0 rfl) ?_
  refine lv_iload_n hx hb dX4_canSign_1 rfl (lv_at hl 1 rfl) ?_
  refine g_cRv (k2 := 1) (n2 := 6) (g_runV (rest := []) hC (c_X4_requirePerson hE (α := α) (ξ := ξ) (M := M) (N := N) p0) Y_X4_requirePerson k_243 I_X4_requirePerson V_X4_requirePerson hR.sig rfl hR rfl hl.1 dX4_canSign_2 ⟨Nat.le_of_ble_eq_true rfl, Nat.le_of_ble_eq_true rfl⟩ ⟨Nat.le_of_ble_eq_true rfl, Nat.le_of_ble_eq_true rfl⟩ rfl (Nat.le_of_ble_eq_true rfl)) rfl rfl (g_up hC ht (fun X h => ⟨0, by rw [h.1]; rfl, (by unfold kCan; rw [cif_pos (by first | grind | (simp only [ix, xv, xw]; grind))])⟩) (Nat.le_of_ble_eq_true rfl) (Nat.le_of_ble_eq_true rfl)) (fun h2_ => ?_)
  refine lv_iload_n hx hb dX4_canSign_5 rfl (lv_at hl 2 rfl) ?_
  refine g_cRv (k2 := 2) (n2 := 12) (g_runS (rest := []) hC (c_X4_requireKind hE  k0) Y_X4_requireKind k_409 S_X4_requireKind hR.frz rfl hl.1 dX4_canSign_6 ⟨Nat.le_of_ble_eq_true rfl, Nat.le_of_ble_eq_true rfl⟩ ⟨Nat.le_of_ble_eq_true rfl, Nat.le_of_ble_eq_true rfl⟩ rfl (Nat.le_of_ble_eq_true rfl)) rfl rfl (g_up hC ht (fun X h => ⟨1, by rw [h.1]; rfl, (by unfold kCan; rw [cif_neg (by first | grind | (simp only [ix, xv, xw]; grind)), cif_pos (by first | grind | (simp only [ix, xv, xw]; grind))])⟩) (Nat.le_of_ble_eq_true rfl) (Nat.le_of_ble_eq_true rfl)) (fun h4_ => ?_)
  refine lv_iload_n hx hb dX4_canSign_9 rfl (lv_at hl 3 rfl) ?_
  refine g_cRv (k2 := 3) (n2 := 18) (g_runS (rest := []) hC (c_X4_requireSum hE  s0) Y_X4_requireSum k_556 S_X4_requireSum hR.frz rfl hl.1 dX4_canSign_10 ⟨Nat.le_of_ble_eq_true rfl, Nat.le_of_ble_eq_true rfl⟩ ⟨Nat.le_of_ble_eq_true rfl, Nat.le_of_ble_eq_true rfl⟩ rfl (Nat.le_of_ble_eq_true rfl)) rfl rfl (g_up hC ht (fun X h => ⟨1, by rw [h.1]; rfl, (by unfold kCan; rw [cif_neg (by first | grind | (simp only [ix, xv, xw]; grind)), cif_pos (by first | grind | (simp only [ix, xv, xw]; grind))])⟩) (Nat.le_of_ble_eq_true rfl) (Nat.le_of_ble_eq_true rfl)) (fun h6_ => ?_)
  refine lv_aload_n hx hb dX4_canSign_13 rfl (lv_at hl 0 rfl) ?_
  refine lv_iload_n hx hb dX4_canSign_14 rfl (lv_at hl 1 rfl) ?_
  refine lv_iload_n hx hb dX4_canSign_15 rfl (lv_at hl 2 rfl) ?_
  refine lv_iload_n hx hb dX4_canSign_16 rfl (lv_at hl 3 rfl) ?_
  refine lv_aload_n hx hb dX4_canSign_17 rfl (lv_at hl 0 rfl) ?_
  refine g_get (v := .ref (α 3 4)) hC hR.sig (C := RX4) (T := TX4) (N := 6) rfl u4_in 3 (by decide) k_98 rfl dX4_canSign_18 ?_
  refine g_cRi (k2 := 3) (n2 := 18) (g_runV (rest := []) hC (c_X4_signsAlone hE (α := α) (ξ := ξ) (M := M) (N := N) p0 k0 s0 0 (by decide)) Y_X4_signsAlone k_619 I_X4_signsAlone V_X4_signsAlone hR.sig rfl hR rfl hl.1 dX4_canSign_21 ⟨Nat.le_of_ble_eq_true rfl, Nat.le_of_ble_eq_true rfl⟩ ⟨Nat.le_of_ble_eq_true rfl, Nat.le_of_ble_eq_true rfl⟩ rfl (Nat.le_of_ble_eq_true rfl)) rfl rfl g_no (fun r7_ h8_ => ?_)
  exact g_zret hC hr (bz.nar h8_) dX4_canSign_24 (Nat.le_of_ble_eq_true rfl) (Nat.le_of_ble_eq_true rfl) ⟨(by unfold kCan; rw [cif_neg (by first | grind | (simp only [ix, xv, xw]; grind)), cif_neg (by first | grind | (simp only [ix, xv, xw]; grind))]), h8_⟩
set_option maxHeartbeats 4000000 in
set_option maxRecDepth 100000 in
theorem c_X4_canSignTogether {l : Launch} {E : gV} (hE : gOK l E) {α : Nat → Nat → Nat} {ξ : F2} {M : Nat → F2} {N : Nat → Nat} (p0 : Int32) (o0 : Int32) (k0 : Int32) (s0 : Int32) : gM l E yX4_canSignTogether cX4_canSignTogether 5 (some .boolean) ({ frames := 9, cells := 5, slots := 30, locals := 161 } : Room) [.ref (α 3 0), .int p0, .int o0, .int k0, .int s0] (fun H => RX E α ξ M N H) (gQR (gPi (fun r => kTog (N 3) p0 o0 k0 s0 = 0 ∧ (bz (fTog (xv ξ (M 0)) (N 0) (M 0 5 0) p0 o0 k0 s0) r)))) (fun X => gCode ["java/lang/IndexOutOfBoundsException", "java/lang/IllegalArgumentException", "java/lang/UnsupportedOperationException"] (kTog (N 3) p0 o0 k0 s0) X) gN := by
  refine gM_body hE (by decide +kernel) (Nat.le_of_ble_eq_true rfl) ?_
  intro p_ e_ s m args below meth c hC ht hr hname hP ls hl
  have hx := hC.2.2.1
  have hb := hC.2.2.2.1
  have hl : lv_has ls 5 [(0, .ref (α 3 0)), (1, .int p0), (2, .int o0), (3, .int k0), (4, .int s0)] := hl
  have hR : RX E α ξ M N s.heap := hP
  have hSr := hR.inv.src (M 0)
  obtain ⟨hN0, hN1, hN2, hN3, -, hHo, hDe⟩ := hR.inv
  refine lv_aload_n hx hb dX4_canSignTogether_0 rfl (lv_at hl 0 rfl) ?_
  refine lv_iload_n hx hb dX4_canSignTogether_1 rfl (lv_at hl 1 rfl) ?_
  refine g_cRv (k2 := 1) (n2 := 6) (g_runV (rest := []) hC (c_X4_requirePerson hE (α := α) (ξ := ξ) (M := M) (N := N) p0) Y_X4_requirePerson k_243 I_X4_requirePerson V_X4_requirePerson hR.sig rfl hR rfl hl.1 dX4_canSignTogether_2 ⟨Nat.le_of_ble_eq_true rfl, Nat.le_of_ble_eq_true rfl⟩ ⟨Nat.le_of_ble_eq_true rfl, Nat.le_of_ble_eq_true rfl⟩ rfl (Nat.le_of_ble_eq_true rfl)) rfl rfl (g_up hC ht (fun X h => ⟨0, by rw [h.1]; rfl, (by unfold kTog; rw [cif_pos (by first | grind | (simp only [ix, xv, xw]; grind))])⟩) (Nat.le_of_ble_eq_true rfl) (Nat.le_of_ble_eq_true rfl)) (fun h2_ => ?_)
  refine lv_aload_n hx hb dX4_canSignTogether_5 rfl (lv_at hl 0 rfl) ?_
  refine lv_iload_n hx hb dX4_canSignTogether_6 rfl (lv_at hl 2 rfl) ?_
  refine g_cRv (k2 := 2) (n2 := 12) (g_runV (rest := []) hC (c_X4_requirePerson hE (α := α) (ξ := ξ) (M := M) (N := N) o0) Y_X4_requirePerson k_243 I_X4_requirePerson V_X4_requirePerson hR.sig rfl hR rfl hl.1 dX4_canSignTogether_7 ⟨Nat.le_of_ble_eq_true rfl, Nat.le_of_ble_eq_true rfl⟩ ⟨Nat.le_of_ble_eq_true rfl, Nat.le_of_ble_eq_true rfl⟩ rfl (Nat.le_of_ble_eq_true rfl)) rfl rfl (g_up hC ht (fun X h => ⟨0, by rw [h.1]; rfl, (by unfold kTog; rw [cif_pos (by first | grind | (simp only [ix, xv, xw]; grind))])⟩) (Nat.le_of_ble_eq_true rfl) (Nat.le_of_ble_eq_true rfl)) (fun h4_ => ?_)
  refine lv_iload_n hx hb dX4_canSignTogether_10 rfl (lv_at hl 3 rfl) ?_
  refine g_cRv (k2 := 3) (n2 := 18) (g_runS (rest := []) hC (c_X4_requireKind hE  k0) Y_X4_requireKind k_409 S_X4_requireKind hR.frz rfl hl.1 dX4_canSignTogether_11 ⟨Nat.le_of_ble_eq_true rfl, Nat.le_of_ble_eq_true rfl⟩ ⟨Nat.le_of_ble_eq_true rfl, Nat.le_of_ble_eq_true rfl⟩ rfl (Nat.le_of_ble_eq_true rfl)) rfl rfl (g_up hC ht (fun X h => ⟨1, by rw [h.1]; rfl, (by unfold kTog; rw [cif_neg (by first | grind | (simp only [ix, xv, xw]; grind)), cif_pos (by first | grind | (simp only [ix, xv, xw]; grind))])⟩) (Nat.le_of_ble_eq_true rfl) (Nat.le_of_ble_eq_true rfl)) (fun h6_ => ?_)
  refine lv_iload hx hb dX4_canSignTogether_14 (lv_at hl 4 rfl) ?_
  refine g_cRv (k2 := 4) (n2 := 24) (g_runS (rest := []) hC (c_X4_requireSum hE  s0) Y_X4_requireSum k_556 S_X4_requireSum hR.frz rfl hl.1 dX4_canSignTogether_16 ⟨Nat.le_of_ble_eq_true rfl, Nat.le_of_ble_eq_true rfl⟩ ⟨Nat.le_of_ble_eq_true rfl, Nat.le_of_ble_eq_true rfl⟩ rfl (Nat.le_of_ble_eq_true rfl)) rfl rfl (g_up hC ht (fun X h => ⟨1, by rw [h.1]; rfl, (by unfold kTog; rw [cif_neg (by first | grind | (simp only [ix, xv, xw]; grind)), cif_pos (by first | grind | (simp only [ix, xv, xw]; grind))])⟩) (Nat.le_of_ble_eq_true rfl) (Nat.le_of_ble_eq_true rfl)) (fun h8_ => ?_)
  refine lv_iload_n hx hb dX4_canSignTogether_19 rfl (lv_at hl 1 rfl) ?_
  refine lv_iload_n hx hb dX4_canSignTogether_20 rfl (lv_at hl 2 rfl) ?_
  refine g_cRv (k2 := 5) (n2 := 30) (g_runS (rest := []) hC (c_X4_requireTwo hE  p0 o0) Y_X4_requireTwo k_637 S_X4_requireTwo hR.frz rfl hl.1 dX4_canSignTogether_21 ⟨Nat.le_of_ble_eq_true rfl, Nat.le_of_ble_eq_true rfl⟩ ⟨Nat.le_of_ble_eq_true rfl, Nat.le_of_ble_eq_true rfl⟩ rfl (Nat.le_of_ble_eq_true rfl)) rfl rfl (g_up hC ht (fun X h => ⟨2, by rw [h.1]; rfl, (by unfold kTog; rw [cif_neg (by first | grind | (simp only [ix, xv, xw]; grind)), cif_neg (by first | grind | (simp only [ix, xv, xw]; grind)), cif_pos (by first | grind | (simp only [ix, xv, xw]; grind))])⟩) (Nat.le_of_ble_eq_true rfl) (Nat.le_of_ble_eq_true rfl)) (fun h10_ => ?_)
  refine lv_aload_n hx hb dX4_canSignTogether_24 rfl (lv_at hl 0 rfl) ?_
  refine lv_iload_n hx hb dX4_canSignTogether_25 rfl (lv_at hl 1 rfl) ?_
  refine lv_iload_n hx hb dX4_canSignTogether_26 rfl (lv_at hl 2 rfl) ?_
  refine lv_iload_n hx hb dX4_canSignTogether_27 rfl (lv_at hl 3 rfl) ?_
  refine lv_iload hx hb dX4_canSignTogether_28 (lv_at hl 4 rfl) ?_
  refine g_cRi (k2 := 5) (n2 := 30) (g_runV (rest := []) hC (c_X4_signTwo hE (α := α) (ξ := ξ) (M := M) (N := N) p0 o0 k0 s0) Y_X4_signTwo k_641 I_X4_signTwo V_X4_signTwo hR.sig rfl hR rfl hl.1 dX4_canSignTogether_30 ⟨Nat.le_of_ble_eq_true rfl, Nat.le_of_ble_eq_true rfl⟩ ⟨Nat.le_of_ble_eq_true rfl, Nat.le_of_ble_eq_true rfl⟩ rfl (Nat.le_of_ble_eq_true rfl)) rfl rfl g_no (fun r11_ h12_ => ?_)
  exact g_zret hC hr (bz.nar h12_) dX4_canSignTogether_33 (Nat.le_of_ble_eq_true rfl) (Nat.le_of_ble_eq_true rfl) ⟨(by unfold kTog; rw [cif_neg (by first | grind | (simp only [ix, xv, xw]; grind)), cif_neg (by first | grind | (simp only [ix, xv, xw]; grind)), cif_neg (by first | grind | (simp only [ix, xv, xw]; grind))]), h12_⟩
set_option maxHeartbeats 4000000 in
set_option maxRecDepth 100000 in
theorem c_X4_signers {l : Launch} {E : gV} (hE : gOK l E) {α : Nat → Nat → Nat} {ξ : F2} {M : Nat → F2} {N : Nat → Nat} (k0 : Int32) (s0 : Int32) : gM l E yX4_signers cX4_signers 5 (some .int) ({ frames := 9, cells := 2, slots := 12, locals := 160 } : Room) [.ref (α 3 0), .int k0, .int s0] (fun H => RX E α ξ M N H) (gQR (gPi (fun r => kAsk k0 s0 = 0 ∧ (r = nI (fCnt (fun t => fHas (xv ξ (M 0)) (N 0) (M 0 5 0) (nI t) k0 115 s0) (N 3)))))) (fun X => gCode ["java/lang/IllegalArgumentException"] (kAsk k0 s0) X) gN := by
  refine gM_body hE (by decide +kernel) (Nat.le_of_ble_eq_true rfl) ?_
  intro p_ e_ s m args below meth c hC ht hr hname hP ls hl
  have hx := hC.2.2.1
  have hb := hC.2.2.2.1
  have hl : lv_has ls 5 [(0, .ref (α 3 0)), (1, .int k0), (2, .int s0)] := hl
  have hR : RX E α ξ M N s.heap := hP
  have hSr := hR.inv.src (M 0)
  obtain ⟨hN0, hN1, hN2, hN3, -, hHo, hDe⟩ := hR.inv
  refine lv_iload_n hx hb dX4_signers_0 rfl (lv_at hl 1 rfl) ?_
  refine g_cRv (k2 := 1) (n2 := 6) (g_runS (rest := []) hC (c_X4_requireKind hE  k0) Y_X4_requireKind k_409 S_X4_requireKind hR.frz rfl hl.1 dX4_signers_1 ⟨Nat.le_of_ble_eq_true rfl, Nat.le_of_ble_eq_true rfl⟩ ⟨Nat.le_of_ble_eq_true rfl, Nat.le_of_ble_eq_true rfl⟩ rfl (Nat.le_of_ble_eq_true rfl)) rfl rfl (g_up hC ht (fun X h => ⟨0, by rw [h.1]; rfl, (by unfold kAsk; rw [cif_pos (by first | grind | (simp only [ix, xv, xw]; grind))])⟩) (Nat.le_of_ble_eq_true rfl) (Nat.le_of_ble_eq_true rfl)) (fun h2_ => ?_)
  refine lv_iload_n hx hb dX4_signers_4 rfl (lv_at hl 2 rfl) ?_
  refine g_cRv (k2 := 2) (n2 := 12) (g_runS (rest := []) hC (c_X4_requireSum hE  s0) Y_X4_requireSum k_556 S_X4_requireSum hR.frz rfl hl.1 dX4_signers_5 ⟨Nat.le_of_ble_eq_true rfl, Nat.le_of_ble_eq_true rfl⟩ ⟨Nat.le_of_ble_eq_true rfl, Nat.le_of_ble_eq_true rfl⟩ rfl (Nat.le_of_ble_eq_true rfl)) rfl rfl (g_up hC ht (fun X h => ⟨0, by rw [h.1]; rfl, (by unfold kAsk; rw [cif_pos (by first | grind | (simp only [ix, xv, xw]; grind))])⟩) (Nat.le_of_ble_eq_true rfl) (Nat.le_of_ble_eq_true rfl)) (fun h4_ => ?_)
  refine lv_iconst (v := 0) hx hb dX4_signers_8 (by decide) ?_
  refine lv_istore_n (lv' := [(3, .int 0), (0, .ref (α 3 0)), (1, .int k0), (2, .int s0)]) hx hb dX4_signers_9 rfl hl (by decide) rfl (fun ls hl => ?_)
  refine lv_iconst (v := 0) hx hb dX4_signers_10 (by decide) ?_
  refine lv_istore (lv' := [(4, .int 0), (3, .int 0), (0, .ref (α 3 0)), (1, .int k0), (2, .int s0)]) hx hb dX4_signers_11 hl (by decide) rfl (fun ls hl => ?_)
  have loop : ∀ (n_ : Nat) (q : Nat) (r : Int32) (ls : Array Slot), N 3 - q < n_ → (q ≤ N 3) → (r = nI (fCnt (fun t => fHas (xv ξ (M 0)) (N 0) (M 0 5 0) (nI t) k0 115 s0) q)) → lv_has ls 5 [(0, .ref (α 3 0)), (1, .int k0), (2, .int s0), (3, .int r), (4, .int (nI q))] → W p_ l e_ ({ frames := 9, cells := 2, slots := 12, locals := 160 } : Room) s m args below meth c s.heap [] 2 12 (vx_MQ below (gQR (gPi (fun r => kAsk k0 s0 = 0 ∧ (r = nI (fCnt (fun t => fHas (xv ξ (M 0)) (N 0) (M 0 5 0) (nI t) k0 115 s0) (N 3)))))) (gX (fun X => gCode ["java/lang/IllegalArgumentException"] (kAsk k0 s0) X)) args s 2 12 gN) (F0 m 13 ls []) := by
    intro n_
    induction n_ with
    | zero => intro q r ls h_; exact absurd h_ (Nat.not_lt_zero _)
    | succ n_ ih_loop =>
      intro q r ls hn_ i1 i2 hl
      refine lv_iload hx hb dX4_signers_13 (lv_at hl 4 rfl) ?_
      refine lv_aload_n hx hb dX4_signers_15 rfl (lv_at hl 0 rfl) ?_
      refine g_get (v := .int (nI (N 3))) hC hR.sig (C := RX4) (T := TX4) (N := 6) rfl u4_in 5 (by decide) k_100 rfl dX4_signers_16 ?_
      refine lv_icmp_ge (tgt := 46) hx hb dX4_signers_19 (by decide) (fun c5_ => ?_) (fun c5_ => ?_)
      · have n6_ : (N 3) ≤ q := le_nI (by omega) (by omega) c5_
        refine lv_iload_n hx hb dX4_signers_46 rfl (lv_at hl 3 rfl) ?_
        exact g_iret hC hr dX4_signers_47 (Nat.le_of_ble_eq_true rfl) (Nat.le_of_ble_eq_true rfl) ⟨(by unfold kAsk; rw [cif_neg (by first | grind | (simp only [ix, xv, xw]; grind))]), (by rw [i2, show q = N 3 by omega])⟩
      · have n6_ : q < (N 3) := not_le_nI (by omega) (by omega) c5_
        refine lv_aload_n hx hb dX4_signers_22 rfl (lv_at hl 0 rfl) ?_
        refine lv_iload hx hb dX4_signers_23 (lv_at hl 4 rfl) ?_
        refine lv_iload_n hx hb dX4_signers_25 rfl (lv_at hl 1 rfl) ?_
        refine lv_iload_n hx hb dX4_signers_26 rfl (lv_at hl 2 rfl) ?_
        refine lv_aload_n hx hb dX4_signers_27 rfl (lv_at hl 0 rfl) ?_
        refine g_get (v := .ref (α 3 4)) hC hR.sig (C := RX4) (T := TX4) (N := 6) rfl u4_in 3 (by decide) k_98 rfl dX4_signers_28 ?_
        refine g_cRi (k2 := 2) (n2 := 12) (g_runV (rest := []) hC (c_X4_signsAlone hE (α := α) (ξ := ξ) (M := M) (N := N) (nI q) k0 s0 0 (by decide)) Y_X4_signsAlone k_619 I_X4_signsAlone V_X4_signsAlone hR.sig rfl hR rfl hl.1 dX4_signers_31 ⟨Nat.le_of_ble_eq_true rfl, Nat.le_of_ble_eq_true rfl⟩ ⟨Nat.le_of_ble_eq_true rfl, Nat.le_of_ble_eq_true rfl⟩ rfl (Nat.le_of_ble_eq_true rfl)) rfl rfl g_no (fun r7_ h8_ => ?_)
        refine lv_if_eq (tgt := 40) hx hb dX4_signers_34 (by decide) (fun c9_ => ?_) (fun c9_ => ?_)
        · have q10_ := bz.f h8_ c9_
          refine lv_iinc (v := nI (q + 1)) (lv' := [(4, .int (nI (q + 1))), (0, .ref (α 3 0)), (1, .int k0), (2, .int s0), (3, .int r)]) hx hb dX4_signers_40 hl (k := 4) rfl (g_inc _) (by decide) rfl (fun ls hl => ?_)
          refine lv_goto (tgt := 13) hx hb dX4_signers_43 (by decide) ?_
          exact ih_loop (q + 1) r ls (by omega) (by omega) (by rw [i2]; exact congrArg nI (fCnt_f (by first | assumption | grind)).symm) (lv_sub hl [1, 2, 3, 4, 0] rfl)
        · have q10_ := bz.t h8_ c9_
          refine lv_iinc (v := r + 1) (lv' := [(3, .int (r + 1)), (0, .ref (α 3 0)), (1, .int k0), (2, .int s0), (4, .int (nI q))]) hx hb dX4_signers_37 hl (k := 3) rfl rfl (by decide) rfl (fun ls hl => ?_)
          refine lv_iinc (v := nI (q + 1)) (lv' := [(4, .int (nI (q + 1))), (3, .int (r + 1)), (0, .ref (α 3 0)), (1, .int k0), (2, .int s0)]) hx hb dX4_signers_40 hl (k := 4) rfl (g_inc _) (by decide) rfl (fun ls hl => ?_)
          refine lv_goto (tgt := 13) hx hb dX4_signers_43 (by decide) ?_
          exact ih_loop (q + 1) (r + 1) ls (by omega) (by omega) (by rw [i2]; exact nI_cnt_t (by first | assumption | grind)) (lv_sub hl [2, 3, 4, 1, 0] rfl)
  exact loop ((N 3 - (0)) + 1) 0 0 ls (by omega) (by omega) rfl (lv_sub hl [2, 3, 4, 1, 0] rfl)
set_option maxHeartbeats 4000000 in
set_option maxRecDepth 100000 in
theorem c_X4_pairs {l : Launch} {E : gV} (hE : gOK l E) {α : Nat → Nat → Nat} {ξ : F2} {M : Nat → F2} {N : Nat → Nat} (k0 : Int32) (s0 : Int32) : gM l E yX4_pairs cX4_pairs 9 (some .int) ({ frames := 9, cells := 2, slots := 12, locals := 160 } : Room) [.ref (α 3 0), .int k0, .int s0] (fun H => RX E α ξ M N H) (gQR (gPi (fun r => kAsk k0 s0 = 0 ∧ (r = fPX (N 3) (fCnt (fun t => ¬ fHas (xv ξ (M 0)) (N 0) (M 0 5 0) (nI t) k0 115 s0) (N 3)) (fCnt (fun t => ¬ fHas (xv ξ (M 0)) (N 0) (M 0 5 0) (nI t) k0 115 s0 ∧ fHas (xv ξ (M 0)) (N 0) (M 0 5 0) (nI t) k0 97 s0) (N 3)) (fCnt (fun t => ¬ fHas (xv ξ (M 0)) (N 0) (M 0 5 0) (nI t) k0 115 s0 ∧ fHas (xv ξ (M 0)) (N 0) (M 0 5 0) (nI t) k0 98 s0) (N 3)) (fCnt (fun t => ¬ fHas (xv ξ (M 0)) (N 0) (M 0 5 0) (nI t) k0 115 s0 ∧ fHas (xv ξ (M 0)) (N 0) (M 0 5 0) (nI t) k0 97 s0 ∧ fHas (xv ξ (M 0)) (N 0) (M 0 5 0) (nI t) k0 98 s0) (N 3)))))) (fun X => gCode ["java/lang/IllegalArgumentException"] (kAsk k0 s0) X) gN := by
  refine gM_body hE (by decide +kernel) (Nat.le_of_ble_eq_true rfl) ?_
  intro p_ e_ s m args below meth c hC ht hr hname hP ls hl
  have hx := hC.2.2.1
  have hb := hC.2.2.2.1
  have hl : lv_has ls 9 [(0, .ref (α 3 0)), (1, .int k0), (2, .int s0)] := hl
  have hR : RX E α ξ M N s.heap := hP
  have hSr := hR.inv.src (M 0)
  obtain ⟨hN0, hN1, hN2, hN3, -, hHo, hDe⟩ := hR.inv
  refine lv_iload_n hx hb dX4_pairs_0 rfl (lv_at hl 1 rfl) ?_
  refine g_cRv (k2 := 1) (n2 := 6) (g_runS (rest := []) hC (c_X4_requireKind hE  k0) Y_X4_requireKind k_409 S_X4_requireKind hR.frz rfl hl.1 dX4_pairs_1 ⟨Nat.le_of_ble_eq_true rfl, Nat.le_of_ble_eq_true rfl⟩ ⟨Nat.le_of_ble_eq_true rfl, Nat.le_of_ble_eq_true rfl⟩ rfl (Nat.le_of_ble_eq_true rfl)) rfl rfl (g_up hC ht (fun X h => ⟨0, by rw [h.1]; rfl, (by unfold kAsk; rw [cif_pos (by first | grind | (simp only [ix, xv, xw]; grind))])⟩) (Nat.le_of_ble_eq_true rfl) (Nat.le_of_ble_eq_true rfl)) (fun h2_ => ?_)
  refine lv_iload_n hx hb dX4_pairs_4 rfl (lv_at hl 2 rfl) ?_
  refine g_cRv (k2 := 2) (n2 := 12) (g_runS (rest := []) hC (c_X4_requireSum hE  s0) Y_X4_requireSum k_556 S_X4_requireSum hR.frz rfl hl.1 dX4_pairs_5 ⟨Nat.le_of_ble_eq_true rfl, Nat.le_of_ble_eq_true rfl⟩ ⟨Nat.le_of_ble_eq_true rfl, Nat.le_of_ble_eq_true rfl⟩ rfl (Nat.le_of_ble_eq_true rfl)) rfl rfl (g_up hC ht (fun X h => ⟨0, by rw [h.1]; rfl, (by unfold kAsk; rw [cif_pos (by first | grind | (simp only [ix, xv, xw]; grind))])⟩) (Nat.le_of_ble_eq_true rfl) (Nat.le_of_ble_eq_true rfl)) (fun h4_ => ?_)
  refine lv_iconst (v := 0) hx hb dX4_pairs_8 (by decide) ?_
  refine lv_istore_n (lv' := [(3, .int 0), (0, .ref (α 3 0)), (1, .int k0), (2, .int s0)]) hx hb dX4_pairs_9 rfl hl (by decide) rfl (fun ls hl => ?_)
  refine lv_iconst (v := 0) hx hb dX4_pairs_10 (by decide) ?_
  refine lv_istore (lv' := [(4, .int 0), (3, .int 0), (0, .ref (α 3 0)), (1, .int k0), (2, .int s0)]) hx hb dX4_pairs_11 hl (by decide) rfl (fun ls hl => ?_)
  refine lv_iconst (v := 0) hx hb dX4_pairs_13 (by decide) ?_
  refine lv_istore (lv' := [(5, .int 0), (4, .int 0), (3, .int 0), (0, .ref (α 3 0)), (1, .int k0), (2, .int s0)]) hx hb dX4_pairs_14 hl (by decide) rfl (fun ls hl => ?_)
  refine lv_iconst (v := 0) hx hb dX4_pairs_16 (by decide) ?_
  refine lv_istore (lv' := [(6, .int 0), (5, .int 0), (4, .int 0), (3, .int 0), (0, .ref (α 3 0)), (1, .int k0), (2, .int s0)]) hx hb dX4_pairs_17 hl (by decide) rfl (fun ls hl => ?_)
  refine lv_iconst (v := 0) hx hb dX4_pairs_19 (by decide) ?_
  refine lv_istore (lv' := [(7, .int 0), (6, .int 0), (5, .int 0), (4, .int 0), (3, .int 0), (0, .ref (α 3 0)), (1, .int k0), (2, .int s0)]) hx hb dX4_pairs_20 hl (by decide) rfl (fun ls hl => ?_)
  have loop : ∀ (n_ : Nat) (q : Nat) (co : Int32) (ca : Int32) (cb : Int32) (cc : Int32) (ls : Array Slot), N 3 - q < n_ → (q ≤ N 3) → (co = nI (fCnt (fun t => ¬ fHas (xv ξ (M 0)) (N 0) (M 0 5 0) (nI t) k0 115 s0) q)) → (ca = nI (fCnt (fun t => ¬ fHas (xv ξ (M 0)) (N 0) (M 0 5 0) (nI t) k0 115 s0 ∧ fHas (xv ξ (M 0)) (N 0) (M 0 5 0) (nI t) k0 97 s0) q)) → (cb = nI (fCnt (fun t => ¬ fHas (xv ξ (M 0)) (N 0) (M 0 5 0) (nI t) k0 115 s0 ∧ fHas (xv ξ (M 0)) (N 0) (M 0 5 0) (nI t) k0 98 s0) q)) → (cc = nI (fCnt (fun t => ¬ fHas (xv ξ (M 0)) (N 0) (M 0 5 0) (nI t) k0 115 s0 ∧ fHas (xv ξ (M 0)) (N 0) (M 0 5 0) (nI t) k0 97 s0 ∧ fHas (xv ξ (M 0)) (N 0) (M 0 5 0) (nI t) k0 98 s0) q)) → lv_has ls 9 [(0, .ref (α 3 0)), (1, .int k0), (2, .int s0), (3, .int co), (4, .int ca), (5, .int cb), (6, .int cc), (7, .int (nI q))] → W p_ l e_ ({ frames := 9, cells := 2, slots := 12, locals := 160 } : Room) s m args below meth c s.heap [] 2 12 (vx_MQ below (gQR (gPi (fun r => kAsk k0 s0 = 0 ∧ (r = fPX (N 3) (fCnt (fun t => ¬ fHas (xv ξ (M 0)) (N 0) (M 0 5 0) (nI t) k0 115 s0) (N 3)) (fCnt (fun t => ¬ fHas (xv ξ (M 0)) (N 0) (M 0 5 0) (nI t) k0 115 s0 ∧ fHas (xv ξ (M 0)) (N 0) (M 0 5 0) (nI t) k0 97 s0) (N 3)) (fCnt (fun t => ¬ fHas (xv ξ (M 0)) (N 0) (M 0 5 0) (nI t) k0 115 s0 ∧ fHas (xv ξ (M 0)) (N 0) (M 0 5 0) (nI t) k0 98 s0) (N 3)) (fCnt (fun t => ¬ fHas (xv ξ (M 0)) (N 0) (M 0 5 0) (nI t) k0 115 s0 ∧ fHas (xv ξ (M 0)) (N 0) (M 0 5 0) (nI t) k0 97 s0 ∧ fHas (xv ξ (M 0)) (N 0) (M 0 5 0) (nI t) k0 98 s0) (N 3)))))) (gX (fun X => gCode ["java/lang/IllegalArgumentException"] (kAsk k0 s0) X)) args s 2 12 gN) (F0 m 22 ls []) := by
    intro n_
    induction n_ with
    | zero => intro q co ca cb cc ls h_; exact absurd h_ (Nat.not_lt_zero _)
    | succ n_ ih_loop =>
      intro q co ca cb cc ls hn_ i1 io ia ib ic hl
      refine lv_iload hx hb dX4_pairs_22 (lv_at hl 7 rfl) ?_
      refine lv_aload_n hx hb dX4_pairs_24 rfl (lv_at hl 0 rfl) ?_
      refine g_get (v := .int (nI (N 3))) hC hR.sig (C := RX4) (T := TX4) (N := 6) rfl u4_in 5 (by decide) k_100 rfl dX4_pairs_25 ?_
      refine lv_icmp_ge (tgt := 112) hx hb dX4_pairs_28 (by decide) (fun c5_ => ?_) (fun c5_ => ?_)
      · have n6_ : (N 3) ≤ q := le_nI (by omega) (by omega) c5_
        have hq : q = N 3 := by omega
        rw [hq] at io ia ib ic hl
        have ho8 := fCnt_le (fun t => ¬ fHas (xv ξ (M 0)) (N 0) (M 0 5 0) (nI t) k0 115 s0) (N 3)
        have ha8 := fCnt_le (fun t => ¬ fHas (xv ξ (M 0)) (N 0) (M 0 5 0) (nI t) k0 115 s0 ∧ fHas (xv ξ (M 0)) (N 0) (M 0 5 0) (nI t) k0 97 s0) (N 3)
        have hb8 := fCnt_le (fun t => ¬ fHas (xv ξ (M 0)) (N 0) (M 0 5 0) (nI t) k0 115 s0 ∧ fHas (xv ξ (M 0)) (N 0) (M 0 5 0) (nI t) k0 98 s0) (N 3)
        have hc8 := fCnt_le (fun t => ¬ fHas (xv ξ (M 0)) (N 0) (M 0 5 0) (nI t) k0 115 s0 ∧ fHas (xv ξ (M 0)) (N 0) (M 0 5 0) (nI t) k0 97 s0 ∧ fHas (xv ξ (M 0)) (N 0) (M 0 5 0) (nI t) k0 98 s0) (N 3)
        subst io ia ib ic
        refine lv_aload_n hx hb dX4_pairs_112 rfl (lv_at hl 0 rfl) ?_
        refine g_get (v := .int (nI (N 3))) hC hR.sig (C := RX4) (T := TX4) (N := 6) rfl u4_in 5 (by decide) k_100 rfl dX4_pairs_113 ?_
        refine g_cRi (k2 := 2) (n2 := 12) (g_runS (rest := []) hC (c_X4_pairsAmong hE (N 3) (by omega)) Y_X4_pairsAmong k_659 S_X4_pairsAmong trivial rfl hl.1 dX4_pairs_116 ⟨Nat.le_of_ble_eq_true rfl, Nat.le_of_ble_eq_true rfl⟩ ⟨Nat.le_of_ble_eq_true rfl, Nat.le_of_ble_eq_true rfl⟩ rfl (Nat.le_of_ble_eq_true rfl)) rfl rfl g_no (fun r7_ h8_ => ?_)
        obtain rfl := h8_
        refine lv_iload_n hx hb dX4_pairs_119 rfl (lv_at hl 3 rfl) ?_
        refine g_cRi (k2 := 2) (n2 := 12) (g_runS (rest := [.int (nI ((N 3) * ((N 3) - 1) / 2))]) hC (c_X4_pairsAmong hE (fCnt (fun t => ¬ fHas (xv ξ (M 0)) (N 0) (M 0 5 0) (nI t) k0 115 s0) (N 3)) (by omega)) Y_X4_pairsAmong k_659 S_X4_pairsAmong trivial rfl hl.1 dX4_pairs_120 ⟨Nat.le_of_ble_eq_true rfl, Nat.le_of_ble_eq_true rfl⟩ ⟨Nat.le_of_ble_eq_true rfl, Nat.le_of_ble_eq_true rfl⟩ rfl (Nat.le_of_ble_eq_true rfl)) rfl rfl g_no (fun r9_ h10_ => ?_)
        obtain rfl := h10_
        refine lv_isub hx hb dX4_pairs_123 ?_
        refine lv_istore (lv' := [(7, .int ((nI ((N 3) * ((N 3) - 1) / 2)) - (nI ((fCnt (fun t => ¬ fHas (xv ξ (M 0)) (N 0) (M 0 5 0) (nI t) k0 115 s0) (N 3)) * ((fCnt (fun t => ¬ fHas (xv ξ (M 0)) (N 0) (M 0 5 0) (nI t) k0 115 s0) (N 3)) - 1) / 2)))), (0, .ref (α 3 0)), (1, .int k0), (2, .int s0), (3, .int (nI (fCnt (fun t => ¬ fHas (xv ξ (M 0)) (N 0) (M 0 5 0) (nI t) k0 115 s0) (N 3)))), (4, .int (nI (fCnt (fun t => ¬ fHas (xv ξ (M 0)) (N 0) (M 0 5 0) (nI t) k0 115 s0 ∧ fHas (xv ξ (M 0)) (N 0) (M 0 5 0) (nI t) k0 97 s0) (N 3)))), (5, .int (nI (fCnt (fun t => ¬ fHas (xv ξ (M 0)) (N 0) (M 0 5 0) (nI t) k0 115 s0 ∧ fHas (xv ξ (M 0)) (N 0) (M 0 5 0) (nI t) k0 98 s0) (N 3)))), (6, .int (nI (fCnt (fun t => ¬ fHas (xv ξ (M 0)) (N 0) (M 0 5 0) (nI t) k0 115 s0 ∧ fHas (xv ξ (M 0)) (N 0) (M 0 5 0) (nI t) k0 97 s0 ∧ fHas (xv ξ (M 0)) (N 0) (M 0 5 0) (nI t) k0 98 s0) (N 3))))]) hx hb dX4_pairs_124 hl (by decide) rfl (fun ls hl => ?_)
        refine lv_iload hx hb dX4_pairs_126 (lv_at hl 5 rfl) ?_
        refine lv_iload hx hb dX4_pairs_128 (lv_at hl 6 rfl) ?_
        refine lv_imul hx hb dX4_pairs_130 ?_
        refine lv_iload hx hb dX4_pairs_131 (lv_at hl 7 rfl) ?_
        refine lv_isub hx hb dX4_pairs_133 ?_
        refine lv_iload hx hb dX4_pairs_134 (lv_at hl 7 rfl) ?_
        refine g_cRi (k2 := 2) (n2 := 12) (g_runS (rest := [.int (((nI (fCnt (fun t => ¬ fHas (xv ξ (M 0)) (N 0) (M 0 5 0) (nI t) k0 115 s0 ∧ fHas (xv ξ (M 0)) (N 0) (M 0 5 0) (nI t) k0 97 s0) (N 3))) * (nI (fCnt (fun t => ¬ fHas (xv ξ (M 0)) (N 0) (M 0 5 0) (nI t) k0 115 s0 ∧ fHas (xv ξ (M 0)) (N 0) (M 0 5 0) (nI t) k0 98 s0) (N 3)))) - (nI (fCnt (fun t => ¬ fHas (xv ξ (M 0)) (N 0) (M 0 5 0) (nI t) k0 115 s0 ∧ fHas (xv ξ (M 0)) (N 0) (M 0 5 0) (nI t) k0 97 s0 ∧ fHas (xv ξ (M 0)) (N 0) (M 0 5 0) (nI t) k0 98 s0) (N 3))))]) hC (c_X4_pairsAmong hE (fCnt (fun t => ¬ fHas (xv ξ (M 0)) (N 0) (M 0 5 0) (nI t) k0 115 s0 ∧ fHas (xv ξ (M 0)) (N 0) (M 0 5 0) (nI t) k0 97 s0 ∧ fHas (xv ξ (M 0)) (N 0) (M 0 5 0) (nI t) k0 98 s0) (N 3)) (by omega)) Y_X4_pairsAmong k_659 S_X4_pairsAmong trivial rfl hl.1 dX4_pairs_136 ⟨Nat.le_of_ble_eq_true rfl, Nat.le_of_ble_eq_true rfl⟩ ⟨Nat.le_of_ble_eq_true rfl, Nat.le_of_ble_eq_true rfl⟩ rfl (Nat.le_of_ble_eq_true rfl)) rfl rfl g_no (fun r11_ h12_ => ?_)
        obtain rfl := h12_
        refine lv_isub hx hb dX4_pairs_139 ?_
        refine lv_istore (lv' := [(8, .int ((((nI (fCnt (fun t => ¬ fHas (xv ξ (M 0)) (N 0) (M 0 5 0) (nI t) k0 115 s0 ∧ fHas (xv ξ (M 0)) (N 0) (M 0 5 0) (nI t) k0 97 s0) (N 3))) * (nI (fCnt (fun t => ¬ fHas (xv ξ (M 0)) (N 0) (M 0 5 0) (nI t) k0 115 s0 ∧ fHas (xv ξ (M 0)) (N 0) (M 0 5 0) (nI t) k0 98 s0) (N 3)))) - (nI (fCnt (fun t => ¬ fHas (xv ξ (M 0)) (N 0) (M 0 5 0) (nI t) k0 115 s0 ∧ fHas (xv ξ (M 0)) (N 0) (M 0 5 0) (nI t) k0 97 s0 ∧ fHas (xv ξ (M 0)) (N 0) (M 0 5 0) (nI t) k0 98 s0) (N 3)))) - (nI ((fCnt (fun t => ¬ fHas (xv ξ (M 0)) (N 0) (M 0 5 0) (nI t) k0 115 s0 ∧ fHas (xv ξ (M 0)) (N 0) (M 0 5 0) (nI t) k0 97 s0 ∧ fHas (xv ξ (M 0)) (N 0) (M 0 5 0) (nI t) k0 98 s0) (N 3)) * ((fCnt (fun t => ¬ fHas (xv ξ (M 0)) (N 0) (M 0 5 0) (nI t) k0 115 s0 ∧ fHas (xv ξ (M 0)) (N 0) (M 0 5 0) (nI t) k0 97 s0 ∧ fHas (xv ξ (M 0)) (N 0) (M 0 5 0) (nI t) k0 98 s0) (N 3)) - 1) / 2)))), (7, .int ((nI ((N 3) * ((N 3) - 1) / 2)) - (nI ((fCnt (fun t => ¬ fHas (xv ξ (M 0)) (N 0) (M 0 5 0) (nI t) k0 115 s0) (N 3)) * ((fCnt (fun t => ¬ fHas (xv ξ (M 0)) (N 0) (M 0 5 0) (nI t) k0 115 s0) (N 3)) - 1) / 2)))), (0, .ref (α 3 0)), (1, .int k0), (2, .int s0), (3, .int (nI (fCnt (fun t => ¬ fHas (xv ξ (M 0)) (N 0) (M 0 5 0) (nI t) k0 115 s0) (N 3)))), (4, .int (nI (fCnt (fun t => ¬ fHas (xv ξ (M 0)) (N 0) (M 0 5 0) (nI t) k0 115 s0 ∧ fHas (xv ξ (M 0)) (N 0) (M 0 5 0) (nI t) k0 97 s0) (N 3)))), (5, .int (nI (fCnt (fun t => ¬ fHas (xv ξ (M 0)) (N 0) (M 0 5 0) (nI t) k0 115 s0 ∧ fHas (xv ξ (M 0)) (N 0) (M 0 5 0) (nI t) k0 98 s0) (N 3)))), (6, .int (nI (fCnt (fun t => ¬ fHas (xv ξ (M 0)) (N 0) (M 0 5 0) (nI t) k0 115 s0 ∧ fHas (xv ξ (M 0)) (N 0) (M 0 5 0) (nI t) k0 97 s0 ∧ fHas (xv ξ (M 0)) (N 0) (M 0 5 0) (nI t) k0 98 s0) (N 3))))]) hx hb dX4_pairs_140 hl (by decide) rfl (fun ls hl => ?_)
        refine lv_iload hx hb dX4_pairs_142 (lv_at hl 1 rfl) ?_
        refine lv_iload hx hb dX4_pairs_144 (lv_at hl 0 rfl) ?_
        refine lv_iadd hx hb dX4_pairs_146 ?_
        exact g_iret hC hr dX4_pairs_147 (Nat.le_of_ble_eq_true rfl) (Nat.le_of_ble_eq_true rfl) ⟨(by unfold kAsk; rw [cif_neg (by first | grind | (simp only [ix, xv, xw]; grind))]), rfl⟩
      · have n6_ : q < (N 3) := not_le_nI (by omega) (by omega) c5_
        refine lv_aload_n hx hb dX4_pairs_31 rfl (lv_at hl 0 rfl) ?_
        refine lv_iload hx hb dX4_pairs_32 (lv_at hl 7 rfl) ?_
        refine lv_iload_n hx hb dX4_pairs_34 rfl (lv_at hl 1 rfl) ?_
        refine lv_iload_n hx hb dX4_pairs_35 rfl (lv_at hl 2 rfl) ?_
        refine lv_aload_n hx hb dX4_pairs_36 rfl (lv_at hl 0 rfl) ?_
        refine g_get (v := .ref (α 3 4)) hC hR.sig (C := RX4) (T := TX4) (N := 6) rfl u4_in 3 (by decide) k_98 rfl dX4_pairs_37 ?_
        refine g_cRi (k2 := 2) (n2 := 12) (g_runV (rest := []) hC (c_X4_handsOf hE (α := α) (ξ := ξ) (M := M) (N := N) (nI q) k0 s0 0 (by decide)) Y_X4_handsOf k_623 I_X4_handsOf V_X4_handsOf hR.sig rfl hR rfl hl.1 dX4_pairs_40 ⟨Nat.le_of_ble_eq_true rfl, Nat.le_of_ble_eq_true rfl⟩ ⟨Nat.le_of_ble_eq_true rfl, Nat.le_of_ble_eq_true rfl⟩ rfl (Nat.le_of_ble_eq_true rfl)) rfl rfl g_no (fun r13_ h14_ => ?_)
        rw [fHnd_eq] at h14_
        have hb1 := bts_b1 (fHas (xv ξ (M 0)) (N 0) (M 0 5 0) (nI q) k0 115 s0) (fHas (xv ξ (M 0)) (N 0) (M 0 5 0) (nI q) k0 97 s0) (fHas (xv ξ (M 0)) (N 0) (M 0 5 0) (nI q) k0 98 s0)
        have hb2 := bts_b2 (fHas (xv ξ (M 0)) (N 0) (M 0 5 0) (nI q) k0 115 s0) (fHas (xv ξ (M 0)) (N 0) (M 0 5 0) (nI q) k0 97 s0) (fHas (xv ξ (M 0)) (N 0) (M 0 5 0) (nI q) k0 98 s0)
        have hb4 := bts_b4 (fHas (xv ξ (M 0)) (N 0) (M 0 5 0) (nI q) k0 115 s0) (fHas (xv ξ (M 0)) (N 0) (M 0 5 0) (nI q) k0 97 s0) (fHas (xv ξ (M 0)) (N 0) (M 0 5 0) (nI q) k0 98 s0)
        have hb6 := bts_b6 (fHas (xv ξ (M 0)) (N 0) (M 0 5 0) (nI q) k0 115 s0) (fHas (xv ξ (M 0)) (N 0) (M 0 5 0) (nI q) k0 97 s0) (fHas (xv ξ (M 0)) (N 0) (M 0 5 0) (nI q) k0 98 s0)
        rw [← h14_] at hb1 hb2 hb4 hb6
        refine lv_istore (lv' := [(8, .int r13_), (0, .ref (α 3 0)), (1, .int k0), (2, .int s0), (3, .int co), (4, .int ca), (5, .int cb), (6, .int cc), (7, .int (nI q))]) hx hb dX4_pairs_43 hl (by decide) rfl (fun ls hl => ?_)
        refine lv_iload hx hb dX4_pairs_45 (lv_at hl 0 rfl) ?_
        refine lv_iconst (v := 1) hx hb dX4_pairs_47 (by decide) ?_
        refine lv_iand hx hb dX4_pairs_48 ?_
        refine lv_if_ne (tgt := 106) hx hb dX4_pairs_49 (by decide) (fun c15_ => ?_) (fun c15_ => ?_)
        · refine lv_iinc (v := nI (q + 1)) (lv' := [(7, .int (nI (q + 1))), (8, .int r13_), (0, .ref (α 3 0)), (1, .int k0), (2, .int s0), (3, .int co), (4, .int ca), (5, .int cb), (6, .int cc)]) hx hb dX4_pairs_106 hl (k := 8) rfl (g_inc _) (by decide) rfl (fun ls hl => ?_)
          refine lv_goto (tgt := 22) hx hb dX4_pairs_109 (by decide) ?_
          exact ih_loop (q + 1) co ca cb cc ls (by omega) (by omega) (by rw [io]; exact congrArg nI (fCnt_f (by first | assumption | grind)).symm) (by rw [ia]; exact congrArg nI (fCnt_f (by first | assumption | grind)).symm) (by rw [ib]; exact congrArg nI (fCnt_f (by first | assumption | grind)).symm) (by rw [ic]; exact congrArg nI (fCnt_f (by first | assumption | grind)).symm) (lv_sub hl [2, 3, 4, 5, 6, 7, 8, 0] rfl)
        · refine lv_iinc (v := co + 1) (lv' := [(3, .int (co + 1)), (8, .int r13_), (0, .ref (α 3 0)), (1, .int k0), (2, .int s0), (4, .int ca), (5, .int cb), (6, .int cc), (7, .int (nI q))]) hx hb dX4_pairs_52 hl (k := 4) rfl rfl (by decide) rfl (fun ls hl => ?_)
          refine lv_iload hx hb dX4_pairs_55 (lv_at hl 5 rfl) ?_
          refine lv_iload hx hb dX4_pairs_57 (lv_at hl 1 rfl) ?_
          refine lv_iconst (v := 2) hx hb dX4_pairs_59 (by decide) ?_
          refine lv_iand hx hb dX4_pairs_60 ?_
          refine lv_if_eq (tgt := 68) hx hb dX4_pairs_61 (by decide) (fun c17_ => ?_) (fun c17_ => ?_)
          · refine lv_iconst (v := 0) hx hb dX4_pairs_68 (by decide) ?_
            refine lv_iadd hx hb dX4_pairs_69 ?_
            refine lv_istore (lv' := [(4, .int (ca + 0)), (3, .int (co + 1)), (8, .int r13_), (0, .ref (α 3 0)), (1, .int k0), (2, .int s0), (5, .int cb), (6, .int cc), (7, .int (nI q))]) hx hb dX4_pairs_70 hl (by decide) rfl (fun ls hl => ?_)
            refine lv_iload hx hb dX4_pairs_72 (lv_at hl 6 rfl) ?_
            refine lv_iload hx hb dX4_pairs_74 (lv_at hl 2 rfl) ?_
            refine lv_iconst (v := 4) hx hb dX4_pairs_76 (by decide) ?_
            refine lv_iand hx hb dX4_pairs_77 ?_
            refine lv_if_eq (tgt := 85) hx hb dX4_pairs_78 (by decide) (fun c19_ => ?_) (fun c19_ => ?_)
            · refine lv_iconst (v := 0) hx hb dX4_pairs_85 (by decide) ?_
              refine lv_iadd hx hb dX4_pairs_86 ?_
              refine lv_istore (lv' := [(5, .int (cb + 0)), (4, .int (ca + 0)), (3, .int (co + 1)), (8, .int r13_), (0, .ref (α 3 0)), (1, .int k0), (2, .int s0), (6, .int cc), (7, .int (nI q))]) hx hb dX4_pairs_87 hl (by decide) rfl (fun ls hl => ?_)
              refine lv_iload hx hb dX4_pairs_89 (lv_at hl 7 rfl) ?_
              refine lv_iload hx hb dX4_pairs_91 (lv_at hl 3 rfl) ?_
              refine lv_bipush (v := 6) hx hb dX4_pairs_93 (by decide) ?_
              refine lv_icmp_ne (tgt := 102) hx hb dX4_pairs_95 (by decide) (fun c21_ => ?_) (fun c21_ => ?_)
              · refine lv_iconst (v := 0) hx hb dX4_pairs_102 (by decide) ?_
                refine lv_iadd hx hb dX4_pairs_103 ?_
                refine lv_istore (lv' := [(6, .int (cc + 0)), (5, .int (cb + 0)), (4, .int (ca + 0)), (3, .int (co + 1)), (8, .int r13_), (0, .ref (α 3 0)), (1, .int k0), (2, .int s0), (7, .int (nI q))]) hx hb dX4_pairs_104 hl (by decide) rfl (fun ls hl => ?_)
                refine lv_iinc (v := nI (q + 1)) (lv' := [(7, .int (nI (q + 1))), (6, .int (cc + 0)), (5, .int (cb + 0)), (4, .int (ca + 0)), (3, .int (co + 1)), (8, .int r13_), (0, .ref (α 3 0)), (1, .int k0), (2, .int s0)]) hx hb dX4_pairs_106 hl (k := 8) rfl (g_inc _) (by decide) rfl (fun ls hl => ?_)
                refine lv_goto (tgt := 22) hx hb dX4_pairs_109 (by decide) ?_
                exact ih_loop (q + 1) (co + 1) (ca + 0) (cb + 0) (cc + 0) ls (by omega) (by omega) (by rw [io]; exact nI_cnt_t (by first | assumption | grind)) (by rw [ia]; exact nI_cnt_f (by first | assumption | grind)) (by rw [ib]; exact nI_cnt_f (by first | assumption | grind)) (by rw [ic]; exact nI_cnt_f (by first | assumption | grind)) (lv_sub hl [6, 7, 8, 4, 3, 2, 1, 0] rfl)
              · refine lv_iconst (v := 1) hx hb dX4_pairs_98 (by decide) ?_
                refine lv_goto (tgt := 103) hx hb dX4_pairs_99 (by decide) ?_
                refine lv_iadd hx hb dX4_pairs_103 ?_
                refine lv_istore (lv' := [(6, .int (cc + 1)), (5, .int (cb + 0)), (4, .int (ca + 0)), (3, .int (co + 1)), (8, .int r13_), (0, .ref (α 3 0)), (1, .int k0), (2, .int s0), (7, .int (nI q))]) hx hb dX4_pairs_104 hl (by decide) rfl (fun ls hl => ?_)
                refine lv_iinc (v := nI (q + 1)) (lv' := [(7, .int (nI (q + 1))), (6, .int (cc + 1)), (5, .int (cb + 0)), (4, .int (ca + 0)), (3, .int (co + 1)), (8, .int r13_), (0, .ref (α 3 0)), (1, .int k0), (2, .int s0)]) hx hb dX4_pairs_106 hl (k := 8) rfl (g_inc _) (by decide) rfl (fun ls hl => ?_)
                refine lv_goto (tgt := 22) hx hb dX4_pairs_109 (by decide) ?_
                exact ih_loop (q + 1) (co + 1) (ca + 0) (cb + 0) (cc + 1) ls (by omega) (by omega) (by rw [io]; exact nI_cnt_t (by first | assumption | grind)) (by rw [ia]; exact nI_cnt_f (by first | assumption | grind)) (by rw [ib]; exact nI_cnt_f (by first | assumption | grind)) (by rw [ic]; exact nI_cnt_t (by first | assumption | grind)) (lv_sub hl [6, 7, 8, 4, 3, 2, 1, 0] rfl)
            · refine lv_iconst (v := 1) hx hb dX4_pairs_81 (by decide) ?_
              refine lv_goto (tgt := 86) hx hb dX4_pairs_82 (by decide) ?_
              refine lv_iadd hx hb dX4_pairs_86 ?_
              refine lv_istore (lv' := [(5, .int (cb + 1)), (4, .int (ca + 0)), (3, .int (co + 1)), (8, .int r13_), (0, .ref (α 3 0)), (1, .int k0), (2, .int s0), (6, .int cc), (7, .int (nI q))]) hx hb dX4_pairs_87 hl (by decide) rfl (fun ls hl => ?_)
              refine lv_iload hx hb dX4_pairs_89 (lv_at hl 7 rfl) ?_
              refine lv_iload hx hb dX4_pairs_91 (lv_at hl 3 rfl) ?_
              refine lv_bipush (v := 6) hx hb dX4_pairs_93 (by decide) ?_
              refine lv_icmp_ne (tgt := 102) hx hb dX4_pairs_95 (by decide) (fun c22_ => ?_) (fun c22_ => ?_)
              · refine lv_iconst (v := 0) hx hb dX4_pairs_102 (by decide) ?_
                refine lv_iadd hx hb dX4_pairs_103 ?_
                refine lv_istore (lv' := [(6, .int (cc + 0)), (5, .int (cb + 1)), (4, .int (ca + 0)), (3, .int (co + 1)), (8, .int r13_), (0, .ref (α 3 0)), (1, .int k0), (2, .int s0), (7, .int (nI q))]) hx hb dX4_pairs_104 hl (by decide) rfl (fun ls hl => ?_)
                refine lv_iinc (v := nI (q + 1)) (lv' := [(7, .int (nI (q + 1))), (6, .int (cc + 0)), (5, .int (cb + 1)), (4, .int (ca + 0)), (3, .int (co + 1)), (8, .int r13_), (0, .ref (α 3 0)), (1, .int k0), (2, .int s0)]) hx hb dX4_pairs_106 hl (k := 8) rfl (g_inc _) (by decide) rfl (fun ls hl => ?_)
                refine lv_goto (tgt := 22) hx hb dX4_pairs_109 (by decide) ?_
                exact ih_loop (q + 1) (co + 1) (ca + 0) (cb + 1) (cc + 0) ls (by omega) (by omega) (by rw [io]; exact nI_cnt_t (by first | assumption | grind)) (by rw [ia]; exact nI_cnt_f (by first | assumption | grind)) (by rw [ib]; exact nI_cnt_t (by first | assumption | grind)) (by rw [ic]; exact nI_cnt_f (by first | assumption | grind)) (lv_sub hl [6, 7, 8, 4, 3, 2, 1, 0] rfl)
              · refine lv_iconst (v := 1) hx hb dX4_pairs_98 (by decide) ?_
                refine lv_goto (tgt := 103) hx hb dX4_pairs_99 (by decide) ?_
                refine lv_iadd hx hb dX4_pairs_103 ?_
                refine lv_istore (lv' := [(6, .int (cc + 1)), (5, .int (cb + 1)), (4, .int (ca + 0)), (3, .int (co + 1)), (8, .int r13_), (0, .ref (α 3 0)), (1, .int k0), (2, .int s0), (7, .int (nI q))]) hx hb dX4_pairs_104 hl (by decide) rfl (fun ls hl => ?_)
                refine lv_iinc (v := nI (q + 1)) (lv' := [(7, .int (nI (q + 1))), (6, .int (cc + 1)), (5, .int (cb + 1)), (4, .int (ca + 0)), (3, .int (co + 1)), (8, .int r13_), (0, .ref (α 3 0)), (1, .int k0), (2, .int s0)]) hx hb dX4_pairs_106 hl (k := 8) rfl (g_inc _) (by decide) rfl (fun ls hl => ?_)
                refine lv_goto (tgt := 22) hx hb dX4_pairs_109 (by decide) ?_
                exact ih_loop (q + 1) (co + 1) (ca + 0) (cb + 1) (cc + 1) ls (by omega) (by omega) (by rw [io]; exact nI_cnt_t (by first | assumption | grind)) (by rw [ia]; exact nI_cnt_f (by first | assumption | grind)) (by rw [ib]; exact nI_cnt_t (by first | assumption | grind)) (by rw [ic]; exact nI_cnt_t (by first | assumption | grind)) (lv_sub hl [6, 7, 8, 4, 3, 2, 1, 0] rfl)
          · refine lv_iconst (v := 1) hx hb dX4_pairs_64 (by decide) ?_
            refine lv_goto (tgt := 69) hx hb dX4_pairs_65 (by decide) ?_
            refine lv_iadd hx hb dX4_pairs_69 ?_
            refine lv_istore (lv' := [(4, .int (ca + 1)), (3, .int (co + 1)), (8, .int r13_), (0, .ref (α 3 0)), (1, .int k0), (2, .int s0), (5, .int cb), (6, .int cc), (7, .int (nI q))]) hx hb dX4_pairs_70 hl (by decide) rfl (fun ls hl => ?_)
            refine lv_iload hx hb dX4_pairs_72 (lv_at hl 6 rfl) ?_
            refine lv_iload hx hb dX4_pairs_74 (lv_at hl 2 rfl) ?_
            refine lv_iconst (v := 4) hx hb dX4_pairs_76 (by decide) ?_
            refine lv_iand hx hb dX4_pairs_77 ?_
            refine lv_if_eq (tgt := 85) hx hb dX4_pairs_78 (by decide) (fun c23_ => ?_) (fun c23_ => ?_)
            · refine lv_iconst (v := 0) hx hb dX4_pairs_85 (by decide) ?_
              refine lv_iadd hx hb dX4_pairs_86 ?_
              refine lv_istore (lv' := [(5, .int (cb + 0)), (4, .int (ca + 1)), (3, .int (co + 1)), (8, .int r13_), (0, .ref (α 3 0)), (1, .int k0), (2, .int s0), (6, .int cc), (7, .int (nI q))]) hx hb dX4_pairs_87 hl (by decide) rfl (fun ls hl => ?_)
              refine lv_iload hx hb dX4_pairs_89 (lv_at hl 7 rfl) ?_
              refine lv_iload hx hb dX4_pairs_91 (lv_at hl 3 rfl) ?_
              refine lv_bipush (v := 6) hx hb dX4_pairs_93 (by decide) ?_
              refine lv_icmp_ne (tgt := 102) hx hb dX4_pairs_95 (by decide) (fun c25_ => ?_) (fun c25_ => ?_)
              · refine lv_iconst (v := 0) hx hb dX4_pairs_102 (by decide) ?_
                refine lv_iadd hx hb dX4_pairs_103 ?_
                refine lv_istore (lv' := [(6, .int (cc + 0)), (5, .int (cb + 0)), (4, .int (ca + 1)), (3, .int (co + 1)), (8, .int r13_), (0, .ref (α 3 0)), (1, .int k0), (2, .int s0), (7, .int (nI q))]) hx hb dX4_pairs_104 hl (by decide) rfl (fun ls hl => ?_)
                refine lv_iinc (v := nI (q + 1)) (lv' := [(7, .int (nI (q + 1))), (6, .int (cc + 0)), (5, .int (cb + 0)), (4, .int (ca + 1)), (3, .int (co + 1)), (8, .int r13_), (0, .ref (α 3 0)), (1, .int k0), (2, .int s0)]) hx hb dX4_pairs_106 hl (k := 8) rfl (g_inc _) (by decide) rfl (fun ls hl => ?_)
                refine lv_goto (tgt := 22) hx hb dX4_pairs_109 (by decide) ?_
                exact ih_loop (q + 1) (co + 1) (ca + 1) (cb + 0) (cc + 0) ls (by omega) (by omega) (by rw [io]; exact nI_cnt_t (by first | assumption | grind)) (by rw [ia]; exact nI_cnt_t (by first | assumption | grind)) (by rw [ib]; exact nI_cnt_f (by first | assumption | grind)) (by rw [ic]; exact nI_cnt_f (by first | assumption | grind)) (lv_sub hl [6, 7, 8, 4, 3, 2, 1, 0] rfl)
              · refine lv_iconst (v := 1) hx hb dX4_pairs_98 (by decide) ?_
                refine lv_goto (tgt := 103) hx hb dX4_pairs_99 (by decide) ?_
                refine lv_iadd hx hb dX4_pairs_103 ?_
                refine lv_istore (lv' := [(6, .int (cc + 1)), (5, .int (cb + 0)), (4, .int (ca + 1)), (3, .int (co + 1)), (8, .int r13_), (0, .ref (α 3 0)), (1, .int k0), (2, .int s0), (7, .int (nI q))]) hx hb dX4_pairs_104 hl (by decide) rfl (fun ls hl => ?_)
                refine lv_iinc (v := nI (q + 1)) (lv' := [(7, .int (nI (q + 1))), (6, .int (cc + 1)), (5, .int (cb + 0)), (4, .int (ca + 1)), (3, .int (co + 1)), (8, .int r13_), (0, .ref (α 3 0)), (1, .int k0), (2, .int s0)]) hx hb dX4_pairs_106 hl (k := 8) rfl (g_inc _) (by decide) rfl (fun ls hl => ?_)
                refine lv_goto (tgt := 22) hx hb dX4_pairs_109 (by decide) ?_
                exact ih_loop (q + 1) (co + 1) (ca + 1) (cb + 0) (cc + 1) ls (by omega) (by omega) (by rw [io]; exact nI_cnt_t (by first | assumption | grind)) (by rw [ia]; exact nI_cnt_t (by first | assumption | grind)) (by rw [ib]; exact nI_cnt_f (by first | assumption | grind)) (by rw [ic]; exact nI_cnt_t (by first | assumption | grind)) (lv_sub hl [6, 7, 8, 4, 3, 2, 1, 0] rfl)
            · refine lv_iconst (v := 1) hx hb dX4_pairs_81 (by decide) ?_
              refine lv_goto (tgt := 86) hx hb dX4_pairs_82 (by decide) ?_
              refine lv_iadd hx hb dX4_pairs_86 ?_
              refine lv_istore (lv' := [(5, .int (cb + 1)), (4, .int (ca + 1)), (3, .int (co + 1)), (8, .int r13_), (0, .ref (α 3 0)), (1, .int k0), (2, .int s0), (6, .int cc), (7, .int (nI q))]) hx hb dX4_pairs_87 hl (by decide) rfl (fun ls hl => ?_)
              refine lv_iload hx hb dX4_pairs_89 (lv_at hl 7 rfl) ?_
              refine lv_iload hx hb dX4_pairs_91 (lv_at hl 3 rfl) ?_
              refine lv_bipush (v := 6) hx hb dX4_pairs_93 (by decide) ?_
              refine lv_icmp_ne (tgt := 102) hx hb dX4_pairs_95 (by decide) (fun c26_ => ?_) (fun c26_ => ?_)
              · refine lv_iconst (v := 0) hx hb dX4_pairs_102 (by decide) ?_
                refine lv_iadd hx hb dX4_pairs_103 ?_
                refine lv_istore (lv' := [(6, .int (cc + 0)), (5, .int (cb + 1)), (4, .int (ca + 1)), (3, .int (co + 1)), (8, .int r13_), (0, .ref (α 3 0)), (1, .int k0), (2, .int s0), (7, .int (nI q))]) hx hb dX4_pairs_104 hl (by decide) rfl (fun ls hl => ?_)
                refine lv_iinc (v := nI (q + 1)) (lv' := [(7, .int (nI (q + 1))), (6, .int (cc + 0)), (5, .int (cb + 1)), (4, .int (ca + 1)), (3, .int (co + 1)), (8, .int r13_), (0, .ref (α 3 0)), (1, .int k0), (2, .int s0)]) hx hb dX4_pairs_106 hl (k := 8) rfl (g_inc _) (by decide) rfl (fun ls hl => ?_)
                refine lv_goto (tgt := 22) hx hb dX4_pairs_109 (by decide) ?_
                exact ih_loop (q + 1) (co + 1) (ca + 1) (cb + 1) (cc + 0) ls (by omega) (by omega) (by rw [io]; exact nI_cnt_t (by first | assumption | grind)) (by rw [ia]; exact nI_cnt_t (by first | assumption | grind)) (by rw [ib]; exact nI_cnt_t (by first | assumption | grind)) (by rw [ic]; exact nI_cnt_f (by first | assumption | grind)) (lv_sub hl [6, 7, 8, 4, 3, 2, 1, 0] rfl)
              · refine lv_iconst (v := 1) hx hb dX4_pairs_98 (by decide) ?_
                refine lv_goto (tgt := 103) hx hb dX4_pairs_99 (by decide) ?_
                refine lv_iadd hx hb dX4_pairs_103 ?_
                refine lv_istore (lv' := [(6, .int (cc + 1)), (5, .int (cb + 1)), (4, .int (ca + 1)), (3, .int (co + 1)), (8, .int r13_), (0, .ref (α 3 0)), (1, .int k0), (2, .int s0), (7, .int (nI q))]) hx hb dX4_pairs_104 hl (by decide) rfl (fun ls hl => ?_)
                refine lv_iinc (v := nI (q + 1)) (lv' := [(7, .int (nI (q + 1))), (6, .int (cc + 1)), (5, .int (cb + 1)), (4, .int (ca + 1)), (3, .int (co + 1)), (8, .int r13_), (0, .ref (α 3 0)), (1, .int k0), (2, .int s0)]) hx hb dX4_pairs_106 hl (k := 8) rfl (g_inc _) (by decide) rfl (fun ls hl => ?_)
                refine lv_goto (tgt := 22) hx hb dX4_pairs_109 (by decide) ?_
                exact ih_loop (q + 1) (co + 1) (ca + 1) (cb + 1) (cc + 1) ls (by omega) (by omega) (by rw [io]; exact nI_cnt_t (by first | assumption | grind)) (by rw [ia]; exact nI_cnt_t (by first | assumption | grind)) (by rw [ib]; exact nI_cnt_t (by first | assumption | grind)) (by rw [ic]; exact nI_cnt_t (by first | assumption | grind)) (lv_sub hl [6, 7, 8, 4, 3, 2, 1, 0] rfl)
  exact loop ((N 3 - (0)) + 1) 0 0 0 0 0 ls (by omega) (by omega) rfl rfl rfl rfl (lv_sub hl [5, 6, 7, 4, 3, 2, 1, 0] rfl)
set_option maxHeartbeats 4000000 in
set_option maxRecDepth 100000 in
theorem c_X4_pairsByTrying {l : Launch} {E : gV} (hE : gOK l E) {α : Nat → Nat → Nat} {ξ : F2} {M : Nat → F2} {N : Nat → Nat} (k0 : Int32) (s0 : Int32) : gM l E yX4_pairsByTrying cX4_pairsByTrying 6 (some .int) ({ frames := 9, cells := 2, slots := 12, locals := 160 } : Room) [.ref (α 3 0), .int k0, .int s0] (fun H => RX E α ξ M N H) (gQR (gPi (fun r => kAsk k0 s0 = 0 ∧ (r = nI (fTr (fun p o => fTog (xv ξ (M 0)) (N 0) (M 0 5 0) (nI p) (nI o) k0 s0) (N 3) (N 3)))))) (fun X => gCode ["java/lang/IllegalArgumentException"] (kAsk k0 s0) X) gN := by
  refine gM_body hE (by decide +kernel) (Nat.le_of_ble_eq_true rfl) ?_
  intro p_ e_ s m args below meth c hC ht hr hname hP ls hl
  have hx := hC.2.2.1
  have hb := hC.2.2.2.1
  have hl : lv_has ls 6 [(0, .ref (α 3 0)), (1, .int k0), (2, .int s0)] := hl
  have hR : RX E α ξ M N s.heap := hP
  have hSr := hR.inv.src (M 0)
  obtain ⟨hN0, hN1, hN2, hN3, -, hHo, hDe⟩ := hR.inv
  refine lv_iload_n hx hb dX4_pairsByTrying_0 rfl (lv_at hl 1 rfl) ?_
  refine g_cRv (k2 := 1) (n2 := 6) (g_runS (rest := []) hC (c_X4_requireKind hE  k0) Y_X4_requireKind k_409 S_X4_requireKind hR.frz rfl hl.1 dX4_pairsByTrying_1 ⟨Nat.le_of_ble_eq_true rfl, Nat.le_of_ble_eq_true rfl⟩ ⟨Nat.le_of_ble_eq_true rfl, Nat.le_of_ble_eq_true rfl⟩ rfl (Nat.le_of_ble_eq_true rfl)) rfl rfl (g_up hC ht (fun X h => ⟨0, by rw [h.1]; rfl, (by unfold kAsk; rw [cif_pos (by first | grind | (simp only [ix, xv, xw]; grind))])⟩) (Nat.le_of_ble_eq_true rfl) (Nat.le_of_ble_eq_true rfl)) (fun h2_ => ?_)
  refine lv_iload_n hx hb dX4_pairsByTrying_4 rfl (lv_at hl 2 rfl) ?_
  refine g_cRv (k2 := 2) (n2 := 12) (g_runS (rest := []) hC (c_X4_requireSum hE  s0) Y_X4_requireSum k_556 S_X4_requireSum hR.frz rfl hl.1 dX4_pairsByTrying_5 ⟨Nat.le_of_ble_eq_true rfl, Nat.le_of_ble_eq_true rfl⟩ ⟨Nat.le_of_ble_eq_true rfl, Nat.le_of_ble_eq_true rfl⟩ rfl (Nat.le_of_ble_eq_true rfl)) rfl rfl (g_up hC ht (fun X h => ⟨0, by rw [h.1]; rfl, (by unfold kAsk; rw [cif_pos (by first | grind | (simp only [ix, xv, xw]; grind))])⟩) (Nat.le_of_ble_eq_true rfl) (Nat.le_of_ble_eq_true rfl)) (fun h4_ => ?_)
  refine lv_iconst (v := 0) hx hb dX4_pairsByTrying_8 (by decide) ?_
  refine lv_istore_n (lv' := [(3, .int 0), (0, .ref (α 3 0)), (1, .int k0), (2, .int s0)]) hx hb dX4_pairsByTrying_9 rfl hl (by decide) rfl (fun ls hl => ?_)
  refine lv_iconst (v := 0) hx hb dX4_pairsByTrying_10 (by decide) ?_
  refine lv_istore (lv' := [(4, .int 0), (3, .int 0), (0, .ref (α 3 0)), (1, .int k0), (2, .int s0)]) hx hb dX4_pairsByTrying_11 hl (by decide) rfl (fun ls hl => ?_)
  have loop : ∀ (n_ : Nat) (pp : Nat) (r : Int32) (ls : Array Slot), N 3 - pp < n_ → (pp ≤ N 3) → (r = nI (fTr (fun p o => fTog (xv ξ (M 0)) (N 0) (M 0 5 0) (nI p) (nI o) k0 s0) (N 3) pp)) → lv_has ls 6 [(0, .ref (α 3 0)), (1, .int k0), (2, .int s0), (3, .int r), (4, .int (nI pp))] → W p_ l e_ ({ frames := 9, cells := 2, slots := 12, locals := 160 } : Room) s m args below meth c s.heap [] 2 12 (vx_MQ below (gQR (gPi (fun r => kAsk k0 s0 = 0 ∧ (r = nI (fTr (fun p o => fTog (xv ξ (M 0)) (N 0) (M 0 5 0) (nI p) (nI o) k0 s0) (N 3) (N 3)))))) (gX (fun X => gCode ["java/lang/IllegalArgumentException"] (kAsk k0 s0) X)) args s 2 12 gN) (F0 m 13 ls []) := by
    intro n_
    induction n_ with
    | zero => intro pp r ls h_; exact absurd h_ (Nat.not_lt_zero _)
    | succ n_ ih_loop =>
      intro pp r ls hn_ i1 i2 hl
      refine lv_iload hx hb dX4_pairsByTrying_13 (lv_at hl 4 rfl) ?_
      refine lv_aload_n hx hb dX4_pairsByTrying_15 rfl (lv_at hl 0 rfl) ?_
      refine g_get (v := .int (nI (N 3))) hC hR.sig (C := RX4) (T := TX4) (N := 6) rfl u4_in 5 (by decide) k_100 rfl dX4_pairsByTrying_16 ?_
      refine lv_icmp_ge (tgt := 65) hx hb dX4_pairsByTrying_19 (by decide) (fun c5_ => ?_) (fun c5_ => ?_)
      · have n6_ : (N 3) ≤ pp := le_nI (by omega) (by omega) c5_
        refine lv_iload_n hx hb dX4_pairsByTrying_65 rfl (lv_at hl 3 rfl) ?_
        exact g_iret hC hr dX4_pairsByTrying_66 (Nat.le_of_ble_eq_true rfl) (Nat.le_of_ble_eq_true rfl) ⟨(by unfold kAsk; rw [cif_neg (by first | grind | (simp only [ix, xv, xw]; grind))]), (by rw [i2, show pp = N 3 by omega])⟩
      · have n6_ : pp < (N 3) := not_le_nI (by omega) (by omega) c5_
        refine lv_iload hx hb dX4_pairsByTrying_22 (lv_at hl 4 rfl) ?_
        refine lv_iconst (v := 1) hx hb dX4_pairsByTrying_24 (by decide) ?_
        refine g_iadd1 hx hb dX4_pairsByTrying_25 ?_
        refine lv_istore (lv' := [(5, .int (nI (pp + 1))), (0, .ref (α 3 0)), (1, .int k0), (2, .int s0), (3, .int r), (4, .int (nI pp))]) hx hb dX4_pairsByTrying_26 hl (by decide) rfl (fun ls hl => ?_)
        have loop2 : ∀ (n_ : Nat) (q : Nat) (r2 : Int32) (ls : Array Slot), N 3 - q < n_ → (pp < q ∧ q ≤ N 3) → (r2 = nI (fTr (fun p o => fTog (xv ξ (M 0)) (N 0) (M 0 5 0) (nI p) (nI o) k0 s0) (N 3) pp + fCnt (fun o => pp < o ∧ fTog (xv ξ (M 0)) (N 0) (M 0 5 0) (nI pp) (nI o) k0 s0) q)) → lv_has ls 6 [(0, .ref (α 3 0)), (1, .int k0), (2, .int s0), (3, .int r2), (4, .int (nI pp)), (5, .int (nI q))] → W p_ l e_ ({ frames := 9, cells := 2, slots := 12, locals := 160 } : Room) s m args below meth c s.heap [] 2 12 (vx_MQ below (gQR (gPi (fun r => kAsk k0 s0 = 0 ∧ (r = nI (fTr (fun p o => fTog (xv ξ (M 0)) (N 0) (M 0 5 0) (nI p) (nI o) k0 s0) (N 3) (N 3)))))) (gX (fun X => gCode ["java/lang/IllegalArgumentException"] (kAsk k0 s0) X)) args s 2 12 gN) (F0 m 28 ls []) := by
          intro n_
          induction n_ with
          | zero => intro q r2 ls h_; exact absurd h_ (Nat.not_lt_zero _)
          | succ n_ ih_loop2 =>
            intro q r2 ls hn_ i3 i4 hl
            refine lv_iload hx hb dX4_pairsByTrying_28 (lv_at hl 5 rfl) ?_
            refine lv_aload_n hx hb dX4_pairsByTrying_30 rfl (lv_at hl 0 rfl) ?_
            refine g_get (v := .int (nI (N 3))) hC hR.sig (C := RX4) (T := TX4) (N := 6) rfl u4_in 5 (by decide) k_100 rfl dX4_pairsByTrying_31 ?_
            refine lv_icmp_ge (tgt := 59) hx hb dX4_pairsByTrying_34 (by decide) (fun c7_ => ?_) (fun c7_ => ?_)
            · have n8_ : (N 3) ≤ q := le_nI (by omega) (by omega) c7_
              refine lv_iinc (v := nI (pp + 1)) (lv' := [(4, .int (nI (pp + 1))), (0, .ref (α 3 0)), (1, .int k0), (2, .int s0), (3, .int r2), (5, .int (nI q))]) hx hb dX4_pairsByTrying_59 hl (k := 4) rfl (g_inc _) (by decide) rfl (fun ls hl => ?_)
              refine lv_goto (tgt := 13) hx hb dX4_pairsByTrying_62 (by decide) ?_
              exact ih_loop (pp + 1) r2 ls (by omega) (by omega) (by rw [i4, show q = N 3 by omega]; rfl) (lv_sub hl [1, 2, 3, 4, 0] rfl)
            · have n8_ : q < (N 3) := not_le_nI (by omega) (by omega) c7_
              refine lv_aload_n hx hb dX4_pairsByTrying_37 rfl (lv_at hl 0 rfl) ?_
              refine lv_iload hx hb dX4_pairsByTrying_38 (lv_at hl 4 rfl) ?_
              refine lv_iload hx hb dX4_pairsByTrying_40 (lv_at hl 5 rfl) ?_
              refine lv_iload_n hx hb dX4_pairsByTrying_42 rfl (lv_at hl 1 rfl) ?_
              refine lv_iload_n hx hb dX4_pairsByTrying_43 rfl (lv_at hl 2 rfl) ?_
              refine g_cRi (k2 := 2) (n2 := 12) (g_runV (rest := []) hC (c_X4_signTwo hE (α := α) (ξ := ξ) (M := M) (N := N) (nI pp) (nI q) k0 s0) Y_X4_signTwo k_641 I_X4_signTwo V_X4_signTwo hR.sig rfl hR rfl hl.1 dX4_pairsByTrying_44 ⟨Nat.le_of_ble_eq_true rfl, Nat.le_of_ble_eq_true rfl⟩ ⟨Nat.le_of_ble_eq_true rfl, Nat.le_of_ble_eq_true rfl⟩ rfl (Nat.le_of_ble_eq_true rfl)) rfl rfl g_no (fun r9_ h10_ => ?_)
              refine lv_if_eq (tgt := 53) hx hb dX4_pairsByTrying_47 (by decide) (fun c11_ => ?_) (fun c11_ => ?_)
              · have q12_ := bz.f h10_ c11_
                refine lv_iinc (v := nI (q + 1)) (lv' := [(5, .int (nI (q + 1))), (0, .ref (α 3 0)), (1, .int k0), (2, .int s0), (3, .int r2), (4, .int (nI pp))]) hx hb dX4_pairsByTrying_53 hl (k := 5) rfl (g_inc _) (by decide) rfl (fun ls hl => ?_)
                refine lv_goto (tgt := 28) hx hb dX4_pairsByTrying_56 (by decide) ?_
                exact ih_loop2 (q + 1) r2 ls (by omega) ⟨by omega, by omega⟩ (by rw [i4, fCnt_f (fun z => absurd z.2 (by assumption))]) (lv_sub hl [1, 2, 3, 4, 5, 0] rfl)
              · have q12_ := bz.t h10_ c11_
                refine lv_iinc (v := r2 + 1) (lv' := [(3, .int (r2 + 1)), (0, .ref (α 3 0)), (1, .int k0), (2, .int s0), (4, .int (nI pp)), (5, .int (nI q))]) hx hb dX4_pairsByTrying_50 hl (k := 3) rfl rfl (by decide) rfl (fun ls hl => ?_)
                refine lv_iinc (v := nI (q + 1)) (lv' := [(5, .int (nI (q + 1))), (3, .int (r2 + 1)), (0, .ref (α 3 0)), (1, .int k0), (2, .int s0), (4, .int (nI pp))]) hx hb dX4_pairsByTrying_53 hl (k := 5) rfl (g_inc _) (by decide) rfl (fun ls hl => ?_)
                refine lv_goto (tgt := 28) hx hb dX4_pairsByTrying_56 (by decide) ?_
                exact ih_loop2 (q + 1) (r2 + 1) ls (by omega) ⟨by omega, by omega⟩ (by rw [i4]; exact nI_cntA_t (C := fun o => pp < o ∧ fTog (xv ξ (M 0)) (N 0) (M 0 5 0) (nI pp) (nI o) k0 s0) ⟨by omega, by assumption⟩) (lv_sub hl [2, 3, 4, 1, 5, 0] rfl)
        exact loop2 ((N 3 - (pp + 1)) + 1) (pp + 1) r ls (by omega) ⟨by omega, by omega⟩ (by rw [i2, fTr_0]) (lv_sub hl [1, 2, 3, 4, 5, 0] rfl)
  exact loop ((N 3 - (0)) + 1) 0 0 ls (by omega) (by omega) rfl (lv_sub hl [2, 3, 4, 1, 0] rfl)
