set_option maxHeartbeats 4000000 in
set_option maxRecDepth 100000 in
theorem c_X4_requireLackingPower {l : Launch} {E : gV} (hE : gOK l E) {α : Nat → Nat → Nat} {ξ : F2} {M : Nat → F2} {N : Nat → Nat} (i : Nat) (hi : i < N 1) : gM l E yX4_requireLackingPower cX4_requireLackingPower 1 none ({ frames := 8, cells := 1, slots := 6, locals := 140 } : Room) [.ref (α 1 i)] (fun H => RX E α ξ M N H) (gQR (gPv (¬ (ξ 20 i = 45 ∨ ξ 20 i = 107)))) (fun X => X = "java/util/NoSuchElementException" ∧ ¬ (¬ (ξ 20 i = 45 ∨ ξ 20 i = 107))) gN := by
  refine gM_body hE (by decide +kernel) (Nat.le_of_ble_eq_true rfl) ?_
  intro p_ e_ s m args below meth c hC ht hr hname hP ls hl
  have hx := hC.2.2.1
  have hb := hC.2.2.2.1
  have hl : lv_has ls 1 [(0, .ref (α 1 i))] := hl
  have hR : RX E α ξ M N s.heap := hP
  have hSr := hR.inv.src (M 0)
  obtain ⟨hN0, hN1, hN2, hN3, -, hHo, hDe⟩ := hR.inv
  refine lv_aload_n hx hb dX4_requireLackingPower_0 rfl (lv_at hl 0 rfl) ?_
  refine g_get (v := .int (ξ 20 i)) hC (hR.deed (i := i) (by omega)) (C := RX0) (T := TX0) (N := 16) rfl u0_in 10 (by decide) k_319 rfl dX4_requireLackingPower_1 ?_
  refine lv_bipush (v := 45) hx hb dX4_requireLackingPower_4 (by decide) ?_
  refine lv_icmp_eq (tgt := 18) hx hb dX4_requireLackingPower_6 (by decide) (fun c1_ => ?_) (fun c1_ => ?_)
  · exact g_throwNW hC ht hR.frz th_159 dNse_0 dNse_1 dNse_2 dNse_5 k_928 sx_321 hl.1 dX4_requireLackingPower_18 dX4_requireLackingPower_21 dX4_requireLackingPower_22 dX4_requireLackingPower_25 dX4_requireLackingPower_28 ⟨Nat.le_of_ble_eq_true rfl, Nat.le_of_ble_eq_true rfl⟩ ⟨Nat.le_of_ble_eq_true rfl, Nat.le_of_ble_eq_true rfl⟩ (Nat.le_of_ble_eq_true rfl) (Nat.le_of_ble_eq_true rfl) ⟨rfl, by grind⟩
  · refine lv_aload_n hx hb dX4_requireLackingPower_9 rfl (lv_at hl 0 rfl) ?_
    refine g_get (v := .int (ξ 20 i)) hC (hR.deed (i := i) (by omega)) (C := RX0) (T := TX0) (N := 16) rfl u0_in 10 (by decide) k_319 rfl dX4_requireLackingPower_10 ?_
    refine lv_bipush (v := 107) hx hb dX4_requireLackingPower_13 (by decide) ?_
    refine lv_icmp_ne (tgt := 29) hx hb dX4_requireLackingPower_15 (by decide) (fun c2_ => ?_) (fun c2_ => ?_)
    · exact g_vret hC hr dX4_requireLackingPower_29 (Nat.le_of_ble_eq_true rfl) (Nat.le_of_ble_eq_true rfl) (by grind)
    · exact g_throwNW hC ht hR.frz th_159 dNse_0 dNse_1 dNse_2 dNse_5 k_928 sx_321 hl.1 dX4_requireLackingPower_18 dX4_requireLackingPower_21 dX4_requireLackingPower_22 dX4_requireLackingPower_25 dX4_requireLackingPower_28 ⟨Nat.le_of_ble_eq_true rfl, Nat.le_of_ble_eq_true rfl⟩ ⟨Nat.le_of_ble_eq_true rfl, Nat.le_of_ble_eq_true rfl⟩ (Nat.le_of_ble_eq_true rfl) (Nat.le_of_ble_eq_true rfl) ⟨rfl, by grind⟩
set_option maxHeartbeats 4000000 in
set_option maxRecDepth 100000 in
theorem c_X4_addPerson {l : Launch} {E : gV} (hE : gOK l E) {α : Nat → Nat → Nat} {ξ : F2} {M : Nat → F2} {N : Nat → Nat} {B : Nat → Prop} : gM l E yX4_addPerson cX4_addPerson 1 (some .int) ({ frames := 8, cells := 1, slots := 6, locals := 140 } : Room) [.ref (α 3 0)] (fun H => RB E B α ξ M N H) (gQW (gAB E B) (gWi (fun r H => xPost E B (α 3 0) (kAdd (N 3)) (ξ) (M 0) (updN N 3 (N 3 + 1)) (r = nI (N 3)) H))) (fun X => gCode ["java/lang/IllegalStateException"] (kAdd (N 3)) X) (gAB E B) := by
  refine gM_body hE (by decide +kernel) (Nat.le_of_ble_eq_true rfl) ?_
  intro p_ e_ s m args below meth c hC ht hr hname hP ls hl
  have hx := hC.2.2.1
  have hb := hC.2.2.2.1
  have hl : lv_has ls 1 [(0, .ref (α 3 0))] := hl
  have hS : va_S ((gAB E B)) s.heap s.heap [] := va_S.rf
  have hRB : RB E B α ξ M N s.heap := hP
  have hR : RX E α ξ M N s.heap := hRB.1
  have hSr := hR.inv.src (M 0)
  obtain ⟨hN0, hN1, hN2, hN3, -, hHo, hDe⟩ := hR.inv
  have hAl : ∀ q, s.heap.size ≤ q → gAB E B q := fun q hq => hRB.al hq
  refine lv_aload_n hx hb dX4_addPerson_0 rfl (lv_at hl 0 rfl) ?_
  refine g_get (v := .int (nI (N 3))) hC hR.sig (C := RX4) (T := TX4) (N := 6) rfl u4_in 5 (by decide) k_731 rfl dX4_addPerson_1 ?_
  refine lv_bipush (v := 8) hx hb dX4_addPerson_4 (by decide) ?_
  refine lv_icmp_lt (tgt := 19) hx hb dX4_addPerson_6 (by decide) (fun c1_ => ?_) (fun c1_ => ?_)
  · have n2_ : (N 3) < 8 := (nI_ltI (by omega) (by omega)).mp c1_
    refine lv_aload_n hx hb dX4_addPerson_19 rfl (lv_at hl 0 rfl) ?_
    refine lv_dup hx hb dX4_addPerson_20 rfl ?_
    refine g_get (v := .int (nI (N 3))) hC hR.sig (C := RX4) (T := TX4) (N := 6) rfl u4_in 5 (by decide) k_731 rfl dX4_addPerson_21 ?_
    refine lv_iconst (v := 1) hx hb dX4_addPerson_24 (by decide) ?_
    refine g_iadd1 hx hb dX4_addPerson_25 ?_
    refine x_putS (n := (N 3) + 1) (by omega) (by omega) hC hRB hS k_731 dX4_addPerson_26 (fun H lo hRB hS => ?_)
    have hR := hRB.1
    refine lv_aload_n hx hb dX4_addPerson_29 rfl (lv_at hl 0 rfl) ?_
    refine g_get (v := .int (nI ((N 3) + 1))) hC hR.sig (C := RX4) (T := TX4) (N := 6) rfl u4_in 5 (by decide) k_731 rfl dX4_addPerson_30 ?_
    refine lv_iconst (v := 1) hx hb dX4_addPerson_33 (by decide) ?_
    refine g_isub1 hx hb dX4_addPerson_34 ?_
    exact g_iretW hC hr dX4_addPerson_35 hS (Nat.le_of_ble_eq_true rfl) (Nat.le_of_ble_eq_true rfl) (xPost_0 (by unfold kAdd; rw [cif_neg (by first | grind | (simp only [ix, xv, xw]; grind))]) hRB (by first | rfl | exact updM_s | simp only [ix, ix, updM_s]) (by first | rfl | exact ha2) rfl rfl (rfl))
  · have n2_ : 8 ≤ (N 3) := Nat.not_lt.mp (fun z => c1_ (show nI ((N 3)) < nI (8) from (nI_ltI (by omega) (by omega)).mpr z))
    exact g_throw hC ht hR.frz th_36 k_752 sx_38 hl.1 dX4_addPerson_9 dX4_addPerson_12 dX4_addPerson_13 dX4_addPerson_15 dX4_addPerson_18 ⟨Nat.le_of_ble_eq_true rfl, Nat.le_of_ble_eq_true rfl⟩ ⟨Nat.le_of_ble_eq_true rfl, Nat.le_of_ble_eq_true rfl⟩ (Nat.le_of_ble_eq_true rfl) (Nat.le_of_ble_eq_true rfl) ⟨0, rfl, (by unfold kAdd; rw [cif_pos (by first | grind | (simp only [ix, xv, xw]; grind))])⟩
set_option maxHeartbeats 4000000 in
set_option maxRecDepth 100000 in
theorem c_X4_leave {l : Launch} {E : gV} (hE : gOK l E) {α : Nat → Nat → Nat} {ξ : F2} {M : Nat → F2} {N : Nat → Nat} {B : Nat → Prop} (p0 : Int32) (s0 : Int32) (hn : N 2 < 512) : gM l E yX4_leave cX4_leave 4 (some .int) ({ frames := 10, cells := 4, slots := 1030, locals := 255 } : Room) [.ref (α 3 0), .int p0, .int s0] (fun H => RB E B α ξ M N H) (gQW (gAB E B) (gWi (fun r H => xPost E B (α 3 0) (kLeave (N 3) p0 s0) (papX ξ (N 2) 2 p0 s0) (tk (M 0) 2 p0 s0) (updN N 2 (N 2 + 1)) (r = if M 0 2 (ix p0) = -2 then -1 else M 0 2 (ix p0)) H))) (fun X => gCode ["java/lang/IndexOutOfBoundsException", "java/lang/IllegalArgumentException"] (kLeave (N 3) p0 s0) X) (gAB E B) := by
  refine gM_body hE (by decide +kernel) (Nat.le_of_ble_eq_true rfl) ?_
  intro p_ e_ s m args below meth c hC ht hr hname hP ls hl
  have hx := hC.2.2.1
  have hb := hC.2.2.2.1
  have hl : lv_has ls 4 [(0, .ref (α 3 0)), (1, .int p0), (2, .int s0)] := hl
  have hS : va_S ((gAB E B)) s.heap s.heap [] := va_S.rf
  have hRB : RB E B α ξ M N s.heap := hP
  have hR : RX E α ξ M N s.heap := hRB.1
  have hSr := hR.inv.src (M 0)
  obtain ⟨hN0, hN1, hN2, hN3, -, hHo, hDe⟩ := hR.inv
  have hAl : ∀ q, s.heap.size ≤ q → gAB E B q := fun q hq => hRB.al hq
  refine lv_aload_n hx hb dX4_leave_0 rfl (lv_at hl 0 rfl) ?_
  refine lv_iload_n hx hb dX4_leave_1 rfl (lv_at hl 1 rfl) ?_
  refine g_cRv (k2 := 1) (n2 := 6) (g_runV (rest := []) hC (c_X4_requirePerson hE (α := α) (ξ := ξ) (M := M) (N := N) p0) Y_X4_requirePerson k_36 I_X4_requirePerson V_X4_requirePerson hR.sig rfl hR rfl hl.1 dX4_leave_2 ⟨Nat.le_of_ble_eq_true rfl, Nat.le_of_ble_eq_true rfl⟩ ⟨Nat.le_of_ble_eq_true rfl, Nat.le_of_ble_eq_true rfl⟩ rfl (Nat.le_of_ble_eq_true rfl)) rfl rfl (g_up hC ht (fun X h => ⟨0, by rw [h.1]; rfl, (by unfold kLeave; rw [cif_pos (by first | grind | (simp only [ix, xv, xw]; grind))])⟩) (Nat.le_of_ble_eq_true rfl) (Nat.le_of_ble_eq_true rfl)) (fun h2_ => ?_)
  refine lv_iload_n hx hb dX4_leave_5 rfl (lv_at hl 2 rfl) ?_
  refine lv_iconst (v := (-1)) hx hb dX4_leave_6 (by decide) ?_
  refine lv_icmp_eq (tgt := 15) hx hb dX4_leave_7 (by decide) (fun c3_ => ?_) (fun c3_ => ?_)
  · refine lv_iload_n hx hb dX4_leave_15 rfl (lv_at hl 1 rfl) ?_
    refine lv_iload_n hx hb dX4_leave_16 rfl (lv_at hl 2 rfl) ?_
    refine lv_icmp_ne (tgt := 30) hx hb dX4_leave_17 (by decide) (fun c4_ => ?_) (fun c4_ => ?_)
    · refine lv_aload_n hx hb dX4_leave_30 rfl (lv_at hl 0 rfl) ?_
      refine lv_iload_n hx hb dX4_leave_31 rfl (lv_at hl 1 rfl) ?_
      obtain ⟨j_p0, hj_p0, rfl⟩ := isP_of (n := N 3) (p := p0) (by assumption) (by omega)
      have ej_p0 : (nI j_p0).toNatClampNeg = j_p0 := nI_clamp (by omega)
      have ipj_p0 : isP (N 3) (nI j_p0) := isP_nI hj_p0 (by omega)
      refine g_cRi (k2 := 1) (n2 := 6) (g_runV (rest := []) hC (c_X4_substituteOrNone hE (α := α) (ξ := ξ) (M := M) (N := N) j_p0 (by omega)) Y_X4_substituteOrNone k_132 I_X4_substituteOrNone V_X4_substituteOrNone hR.sig rfl hR rfl hl.1 dX4_leave_32 ⟨Nat.le_of_ble_eq_true rfl, Nat.le_of_ble_eq_true rfl⟩ ⟨Nat.le_of_ble_eq_true rfl, Nat.le_of_ble_eq_true rfl⟩ rfl (Nat.le_of_ble_eq_true rfl)) rfl rfl g_no (fun r5_ h6_ => ?_)
      obtain rfl := h6_
      refine lv_istore_n (lv' := [(3, .int (if M 0 2 j_p0 = -2 then -1 else M 0 2 j_p0)), (0, .ref (α 3 0)), (1, .int (nI j_p0)), (2, .int s0)]) hx hb dX4_leave_35 rfl hl (by decide) rfl (fun ls hl => ?_)
      refine lv_aload_n hx hb dX4_leave_36 rfl (lv_at hl 1 rfl) ?_
      refine lv_iconst (v := 2) hx hb dX4_leave_37 (by decide) ?_
      refine lv_iload_n hx hb dX4_leave_38 rfl (lv_at hl 2 rfl) ?_
      refine lv_iload_n hx hb dX4_leave_39 rfl (lv_at hl 3 rfl) ?_
      refine g_cWv (k2 := 3) (n2 := 1009) (g_runV (rest := []) hC (c_X4_tell hE (α := α) (ξ := ξ) (M := M) (N := N) (B := B) 2 (nI j_p0) s0 hn) Y_X4_tell k_141 I_X4_tell V_X4_tell hR.sig rfl hRB rfl hl.1 dX4_leave_40 ⟨Nat.le_of_ble_eq_true rfl, Nat.le_of_ble_eq_true rfl⟩ ⟨Nat.le_of_ble_eq_true rfl, Nat.le_of_ble_eq_true rfl⟩ rfl (Nat.le_of_ble_eq_true rfl)) hS (fun _ h => h) rfl rfl (fun H lo h8_ _ _ hS => ?_)
      obtain ⟨xT, tT, hRB⟩ := h8_
      have hR := hRB.1
      refine lv_iload_n hx hb dX4_leave_43 rfl (lv_at hl 0 rfl) ?_
      exact g_iretW hC hr dX4_leave_44 hS (Nat.le_of_ble_eq_true rfl) (Nat.le_of_ble_eq_true rfl) (xPost_0 (by unfold kLeave; rw [cif_neg (by first | grind | (simp only [ix, ej_p0, xv, xw]; grind)), cif_neg (by first | grind | (simp only [ix, ej_p0, xv, xw]; grind))]) hRB (by first | rfl | exact updM_s | simp only [ix, ej_p0, updM_s]) (by first | rfl | exact ha2) (by first | rfl | simp only [ix, ej_p0]) rfl ((by first | rfl | simp only [ix, ej_p0])))
    · exact g_throw hC ht hR.frz th_47 k_125 sx_49 hl.1 dX4_leave_20 dX4_leave_23 dX4_leave_24 dX4_leave_26 dX4_leave_29 ⟨Nat.le_of_ble_eq_true rfl, Nat.le_of_ble_eq_true rfl⟩ ⟨Nat.le_of_ble_eq_true rfl, Nat.le_of_ble_eq_true rfl⟩ (Nat.le_of_ble_eq_true rfl) (Nat.le_of_ble_eq_true rfl) ⟨1, rfl, (by unfold kLeave; rw [cif_neg (by first | grind | (simp only [ix, xv, xw]; grind)), cif_pos (by first | grind | (simp only [ix, xv, xw]; grind))])⟩
  · refine lv_aload_n hx hb dX4_leave_10 rfl (lv_at hl 0 rfl) ?_
    refine lv_iload_n hx hb dX4_leave_11 rfl (lv_at hl 2 rfl) ?_
    refine g_cRv (k2 := 2) (n2 := 12) (g_runV (rest := []) hC (c_X4_requirePerson hE (α := α) (ξ := ξ) (M := M) (N := N) s0) Y_X4_requirePerson k_36 I_X4_requirePerson V_X4_requirePerson hR.sig rfl hR rfl hl.1 dX4_leave_12 ⟨Nat.le_of_ble_eq_true rfl, Nat.le_of_ble_eq_true rfl⟩ ⟨Nat.le_of_ble_eq_true rfl, Nat.le_of_ble_eq_true rfl⟩ rfl (Nat.le_of_ble_eq_true rfl)) rfl rfl (g_up hC ht (fun X h => ⟨0, by rw [h.1]; rfl, (by unfold kLeave; rw [cif_pos (by first | grind | (simp only [ix, xv, xw]; grind))])⟩) (Nat.le_of_ble_eq_true rfl) (Nat.le_of_ble_eq_true rfl)) (fun h10_ => ?_)
    refine lv_iload_n hx hb dX4_leave_15 rfl (lv_at hl 1 rfl) ?_
    refine lv_iload_n hx hb dX4_leave_16 rfl (lv_at hl 2 rfl) ?_
    refine lv_icmp_ne (tgt := 30) hx hb dX4_leave_17 (by decide) (fun c11_ => ?_) (fun c11_ => ?_)
    · refine lv_aload_n hx hb dX4_leave_30 rfl (lv_at hl 0 rfl) ?_
      refine lv_iload_n hx hb dX4_leave_31 rfl (lv_at hl 1 rfl) ?_
      obtain ⟨j_p0, hj_p0, rfl⟩ := isP_of (n := N 3) (p := p0) (by assumption) (by omega)
      have ej_p0 : (nI j_p0).toNatClampNeg = j_p0 := nI_clamp (by omega)
      have ipj_p0 : isP (N 3) (nI j_p0) := isP_nI hj_p0 (by omega)
      refine g_cRi (k2 := 2) (n2 := 12) (g_runV (rest := []) hC (c_X4_substituteOrNone hE (α := α) (ξ := ξ) (M := M) (N := N) j_p0 (by omega)) Y_X4_substituteOrNone k_132 I_X4_substituteOrNone V_X4_substituteOrNone hR.sig rfl hR rfl hl.1 dX4_leave_32 ⟨Nat.le_of_ble_eq_true rfl, Nat.le_of_ble_eq_true rfl⟩ ⟨Nat.le_of_ble_eq_true rfl, Nat.le_of_ble_eq_true rfl⟩ rfl (Nat.le_of_ble_eq_true rfl)) rfl rfl g_no (fun r12_ h13_ => ?_)
      obtain rfl := h13_
      refine lv_istore_n (lv' := [(3, .int (if M 0 2 j_p0 = -2 then -1 else M 0 2 j_p0)), (0, .ref (α 3 0)), (1, .int (nI j_p0)), (2, .int s0)]) hx hb dX4_leave_35 rfl hl (by decide) rfl (fun ls hl => ?_)
      refine lv_aload_n hx hb dX4_leave_36 rfl (lv_at hl 1 rfl) ?_
      refine lv_iconst (v := 2) hx hb dX4_leave_37 (by decide) ?_
      refine lv_iload_n hx hb dX4_leave_38 rfl (lv_at hl 2 rfl) ?_
      refine lv_iload_n hx hb dX4_leave_39 rfl (lv_at hl 3 rfl) ?_
      refine g_cWv (k2 := 4) (n2 := 1015) (g_runV (rest := []) hC (c_X4_tell hE (α := α) (ξ := ξ) (M := M) (N := N) (B := B) 2 (nI j_p0) s0 hn) Y_X4_tell k_141 I_X4_tell V_X4_tell hR.sig rfl hRB rfl hl.1 dX4_leave_40 ⟨Nat.le_of_ble_eq_true rfl, Nat.le_of_ble_eq_true rfl⟩ ⟨Nat.le_of_ble_eq_true rfl, Nat.le_of_ble_eq_true rfl⟩ rfl (Nat.le_of_ble_eq_true rfl)) hS (fun _ h => h) rfl rfl (fun H lo h15_ _ _ hS => ?_)
      obtain ⟨xT, tT, hRB⟩ := h15_
      have hR := hRB.1
      refine lv_iload_n hx hb dX4_leave_43 rfl (lv_at hl 0 rfl) ?_
      exact g_iretW hC hr dX4_leave_44 hS (Nat.le_of_ble_eq_true rfl) (Nat.le_of_ble_eq_true rfl) (xPost_0 (by unfold kLeave; rw [cif_neg (by first | grind | (simp only [ix, ej_p0, xv, xw]; grind)), cif_neg (by first | grind | (simp only [ix, ej_p0, xv, xw]; grind))]) hRB (by first | rfl | exact updM_s | simp only [ix, ej_p0, updM_s]) (by first | rfl | exact ha2) (by first | rfl | simp only [ix, ej_p0]) rfl ((by first | rfl | simp only [ix, ej_p0])))
    · exact g_throw hC ht hR.frz th_47 k_125 sx_49 hl.1 dX4_leave_20 dX4_leave_23 dX4_leave_24 dX4_leave_26 dX4_leave_29 ⟨Nat.le_of_ble_eq_true rfl, Nat.le_of_ble_eq_true rfl⟩ ⟨Nat.le_of_ble_eq_true rfl, Nat.le_of_ble_eq_true rfl⟩ (Nat.le_of_ble_eq_true rfl) (Nat.le_of_ble_eq_true rfl) ⟨1, rfl, (by unfold kLeave; rw [cif_neg (by first | grind | (simp only [ix, xv, xw]; grind)), cif_pos (by first | grind | (simp only [ix, xv, xw]; grind))])⟩
set_option maxHeartbeats 4000000 in
set_option maxRecDepth 100000 in
theorem c_X4_comeBack {l : Launch} {E : gV} (hE : gOK l E) {α : Nat → Nat → Nat} {ξ : F2} {M : Nat → F2} {N : Nat → Nat} {B : Nat → Prop} (p0 : Int32) (hn : N 2 < 512) : gM l E yX4_comeBack cX4_comeBack 3 (some .int) ({ frames := 10, cells := 4, slots := 1030, locals := 255 } : Room) [.ref (α 3 0), .int p0] (fun H => RB E B α ξ M N H) (gQW (gAB E B) (gWi (fun r H => xPost E B (α 3 0) (kBack (M 0 2 (ix p0) = -2) (N 3) p0) (papX ξ (N 2) 2 p0 (-2)) (tk (M 0) 2 p0 (-2)) (updN N 2 (N 2 + 1)) (r = if M 0 2 (ix p0) = -2 then -1 else M 0 2 (ix p0)) H))) (fun X => gCode ["java/lang/IndexOutOfBoundsException", "java/lang/IllegalStateException"] (kBack (M 0 2 (ix p0) = -2) (N 3) p0) X) (gAB E B) := by
  refine gM_body hE (by decide +kernel) (Nat.le_of_ble_eq_true rfl) ?_
  intro p_ e_ s m args below meth c hC ht hr hname hP ls hl
  have hx := hC.2.2.1
  have hb := hC.2.2.2.1
  have hl : lv_has ls 3 [(0, .ref (α 3 0)), (1, .int p0)] := hl
  have hS : va_S ((gAB E B)) s.heap s.heap [] := va_S.rf
  have hRB : RB E B α ξ M N s.heap := hP
  have hR : RX E α ξ M N s.heap := hRB.1
  have hSr := hR.inv.src (M 0)
  obtain ⟨hN0, hN1, hN2, hN3, -, hHo, hDe⟩ := hR.inv
  have hAl : ∀ q, s.heap.size ≤ q → gAB E B q := fun q hq => hRB.al hq
  refine lv_aload_n hx hb dX4_comeBack_0 rfl (lv_at hl 0 rfl) ?_
  refine lv_iload_n hx hb dX4_comeBack_1 rfl (lv_at hl 1 rfl) ?_
  refine g_cRv (k2 := 1) (n2 := 6) (g_runV (rest := []) hC (c_X4_requirePerson hE (α := α) (ξ := ξ) (M := M) (N := N) p0) Y_X4_requirePerson k_36 I_X4_requirePerson V_X4_requirePerson hR.sig rfl hR rfl hl.1 dX4_comeBack_2 ⟨Nat.le_of_ble_eq_true rfl, Nat.le_of_ble_eq_true rfl⟩ ⟨Nat.le_of_ble_eq_true rfl, Nat.le_of_ble_eq_true rfl⟩ rfl (Nat.le_of_ble_eq_true rfl)) rfl rfl (g_up hC ht (fun X h => ⟨0, by rw [h.1]; rfl, (by unfold kBack; rw [cif_pos (by first | grind | (simp only [ix, xv, xw]; grind))])⟩) (Nat.le_of_ble_eq_true rfl) (Nat.le_of_ble_eq_true rfl)) (fun h2_ => ?_)
  refine lv_aload_n hx hb dX4_comeBack_5 rfl (lv_at hl 0 rfl) ?_
  refine g_get (v := .ref (α 3 4)) hC hR.sig (C := RX4) (T := TX4) (N := 6) rfl u4_in 3 (by decide) k_729 rfl dX4_comeBack_6 ?_
  refine lv_iload_n hx hb dX4_comeBack_9 rfl (lv_at hl 1 rfl) ?_
  obtain ⟨j_p0, hj_p0, rfl⟩ := isP_of (n := N 3) (p := p0) (by assumption) (by omega)
  have ej_p0 : (nI j_p0).toNatClampNeg = j_p0 := nI_clamp (by omega)
  have ipj_p0 : isP (N 3) (nI j_p0) := isP_nI hj_p0 (by omega)
  refine g_cRi (k2 := 1) (n2 := 6) (g_runV (rest := []) hC (c_X1_substituteFor hE (α := α) (ξ := ξ) (M := M) (N := N) 0 (by decide) j_p0 (by omega)) Y_X1_substituteFor k_136 I_X1_substituteFor V_X1_substituteFor (hR.mom 0 (by decide)) rfl hR rfl hl.1 dX4_comeBack_10 ⟨Nat.le_of_ble_eq_true rfl, Nat.le_of_ble_eq_true rfl⟩ ⟨Nat.le_of_ble_eq_true rfl, Nat.le_of_ble_eq_true rfl⟩ rfl (Nat.le_of_ble_eq_true rfl)) rfl rfl g_no (fun r3_ h4_ => ?_)
  obtain rfl := h4_
  refine lv_bipush (v := (-2)) hx hb dX4_comeBack_13 (by decide) ?_
  refine lv_icmp_ne (tgt := 28) hx hb dX4_comeBack_15 (by decide) (fun c5_ => ?_) (fun c5_ => ?_)
  · refine lv_aload_n hx hb dX4_comeBack_28 rfl (lv_at hl 0 rfl) ?_
    refine lv_iload_n hx hb dX4_comeBack_29 rfl (lv_at hl 1 rfl) ?_
    refine g_cRi (k2 := 1) (n2 := 6) (g_runV (rest := []) hC (c_X4_substituteOrNone hE (α := α) (ξ := ξ) (M := M) (N := N) j_p0 (by omega)) Y_X4_substituteOrNone k_132 I_X4_substituteOrNone V_X4_substituteOrNone hR.sig rfl hR rfl hl.1 dX4_comeBack_30 ⟨Nat.le_of_ble_eq_true rfl, Nat.le_of_ble_eq_true rfl⟩ ⟨Nat.le_of_ble_eq_true rfl, Nat.le_of_ble_eq_true rfl⟩ rfl (Nat.le_of_ble_eq_true rfl)) rfl rfl g_no (fun r6_ h7_ => ?_)
    obtain rfl := h7_
    refine lv_istore_n (lv' := [(2, .int (if M 0 2 j_p0 = -2 then -1 else M 0 2 j_p0)), (0, .ref (α 3 0)), (1, .int (nI j_p0))]) hx hb dX4_comeBack_33 rfl hl (by decide) rfl (fun ls hl => ?_)
    refine lv_aload_n hx hb dX4_comeBack_34 rfl (lv_at hl 1 rfl) ?_
    refine lv_iconst (v := 2) hx hb dX4_comeBack_35 (by decide) ?_
    refine lv_iload_n hx hb dX4_comeBack_36 rfl (lv_at hl 2 rfl) ?_
    refine lv_bipush (v := (-2)) hx hb dX4_comeBack_37 (by decide) ?_
    refine g_cWv (k2 := 3) (n2 := 1009) (g_runV (rest := []) hC (c_X4_tell hE (α := α) (ξ := ξ) (M := M) (N := N) (B := B) 2 (nI j_p0) (-2) hn) Y_X4_tell k_141 I_X4_tell V_X4_tell hR.sig rfl hRB rfl hl.1 dX4_comeBack_39 ⟨Nat.le_of_ble_eq_true rfl, Nat.le_of_ble_eq_true rfl⟩ ⟨Nat.le_of_ble_eq_true rfl, Nat.le_of_ble_eq_true rfl⟩ rfl (Nat.le_of_ble_eq_true rfl)) hS (fun _ h => h) rfl rfl (fun H lo h9_ _ _ hS => ?_)
    obtain ⟨xT, tT, hRB⟩ := h9_
    have hR := hRB.1
    refine lv_iload_n hx hb dX4_comeBack_42 rfl (lv_at hl 0 rfl) ?_
    exact g_iretW hC hr dX4_comeBack_43 hS (Nat.le_of_ble_eq_true rfl) (Nat.le_of_ble_eq_true rfl) (xPost_0 (by unfold kBack; rw [cif_neg (by first | grind | (simp only [ix, ej_p0, xv, xw]; grind)), cif_neg (by first | grind | (simp only [ix, ej_p0, xv, xw]; grind))]) hRB (by first | rfl | exact updM_s | simp only [ix, ej_p0, updM_s]) (by first | rfl | exact ha2) (by first | rfl | simp only [ix, ej_p0]) rfl ((by first | rfl | simp only [ix, ej_p0])))
  · exact g_throw hC ht hR.frz th_36 k_263 sx_63 hl.1 dX4_comeBack_18 dX4_comeBack_21 dX4_comeBack_22 dX4_comeBack_24 dX4_comeBack_27 ⟨Nat.le_of_ble_eq_true rfl, Nat.le_of_ble_eq_true rfl⟩ ⟨Nat.le_of_ble_eq_true rfl, Nat.le_of_ble_eq_true rfl⟩ (Nat.le_of_ble_eq_true rfl) (Nat.le_of_ble_eq_true rfl) ⟨1, rfl, (by unfold kBack; rw [cif_neg (by first | grind | (simp only [ix, ej_p0, xv, xw]; grind)), cif_pos (by first | grind | (simp only [ix, ej_p0, xv, xw]; grind))])⟩
set_option maxHeartbeats 4000000 in
set_option maxRecDepth 100000 in
theorem c_X4_grant {l : Launch} {E : gV} (hE : gOK l E) {α : Nat → Nat → Nat} {ξ : F2} {M : Nat → F2} {N : Nat → Nat} {B : Nat → Prop} (h0 : Int32) (k0 : Int32) (ha : Int32) (li : Int32) (fi : Int32) (la : Int32) (hn : N 2 < 512) : gM l E yX4_grant cX4_grant 7 (some .int) ({ frames := 11, cells := 8, slots := 2050, locals := 277 } : Room) [.ref (α 3 0), .int h0, .int k0, .int ha, .int li, .int fi, .int la] (fun H => RB E B α ξ M N H) (gQW (gAB E B) (gWi (fun r H => xPost E B (α 3 0) (kGrant (N 3) (N 0) h0 k0 ha li fi la) (papX (powX ξ (N 0) (pwV h0 k0 ha fi la (-1))) (N 2) 0 (nI (N 0)) li) (tk (M 0) 0 (nI (N 0)) li) (updN (updN N 0 (N 0 + 1)) 2 (N 2 + 1)) (r = nI (N 0)) H))) (fun X => gCode ["java/lang/IndexOutOfBoundsException", "java/lang/IllegalArgumentException", "java/lang/IllegalStateException"] (kGrant (N 3) (N 0) h0 k0 ha li fi la) X) (gAB E B) := by
  refine gM_body hE (by decide +kernel) (Nat.le_of_ble_eq_true rfl) ?_
  intro p_ e_ s m args below meth c hC ht hr hname hP ls hl
  have hx := hC.2.2.1
  have hb := hC.2.2.2.1
  have hl : lv_has ls 7 [(0, .ref (α 3 0)), (1, .int h0), (2, .int k0), (3, .int ha), (4, .int li), (5, .int fi), (6, .int la)] := hl
  have hS : va_S ((gAB E B)) s.heap s.heap [] := va_S.rf
  have hRB : RB E B α ξ M N s.heap := hP
  have hR : RX E α ξ M N s.heap := hRB.1
  have hSr := hR.inv.src (M 0)
  obtain ⟨hN0, hN1, hN2, hN3, -, hHo, hDe⟩ := hR.inv
  have hAl : ∀ q, s.heap.size ≤ q → gAB E B q := fun q hq => hRB.al hq
  have hbit := fBit_hd ha
  refine lv_aload_n hx hb dX4_grant_0 rfl (lv_at hl 0 rfl) ?_
  refine lv_iload_n hx hb dX4_grant_1 rfl (lv_at hl 1 rfl) ?_
  refine g_cRv (k2 := 1) (n2 := 6) (g_runV (rest := []) hC (c_X4_requirePerson hE (α := α) (ξ := ξ) (M := M) (N := N) h0) Y_X4_requirePerson k_36 I_X4_requirePerson V_X4_requirePerson hR.sig rfl hR rfl hl.1 dX4_grant_2 ⟨Nat.le_of_ble_eq_true rfl, Nat.le_of_ble_eq_true rfl⟩ ⟨Nat.le_of_ble_eq_true rfl, Nat.le_of_ble_eq_true rfl⟩ rfl (Nat.le_of_ble_eq_true rfl)) rfl rfl (g_up hC ht (fun X h => ⟨0, by rw [h.1]; rfl, (by unfold kGrant; rw [cif_pos (by first | grind | (simp only [ix, xv, xw]; grind))])⟩) (Nat.le_of_ble_eq_true rfl) (Nat.le_of_ble_eq_true rfl)) (fun h2_ => ?_)
  refine lv_iload_n hx hb dX4_grant_5 rfl (lv_at hl 2 rfl) ?_
  refine g_cRv (k2 := 2) (n2 := 12) (g_runS (rest := []) hC (c_X4_requireKind hE  k0) Y_X4_requireKind k_280 S_X4_requireKind hR.frz rfl hl.1 dX4_grant_6 ⟨Nat.le_of_ble_eq_true rfl, Nat.le_of_ble_eq_true rfl⟩ ⟨Nat.le_of_ble_eq_true rfl, Nat.le_of_ble_eq_true rfl⟩ rfl (Nat.le_of_ble_eq_true rfl)) rfl rfl (g_up hC ht (fun X h => ⟨1, by rw [h.1]; rfl, (by unfold kGrant; rw [cif_neg (by first | grind | (simp only [ix, xv, xw]; grind)), cif_pos (by first | grind | (simp only [ix, xv, xw]; grind))])⟩) (Nat.le_of_ble_eq_true rfl) (Nat.le_of_ble_eq_true rfl)) (fun h4_ => ?_)
  refine lv_iload_n hx hb dX4_grant_9 rfl (lv_at hl 3 rfl) ?_
  refine g_cRi (k2 := 2) (n2 := 12) (g_runS (rest := []) hC (c_X4_bitOfHand hE ha) Y_X4_bitOfHand k_768 S_X4_bitOfHand trivial rfl hl.1 dX4_grant_10 ⟨Nat.le_of_ble_eq_true rfl, Nat.le_of_ble_eq_true rfl⟩ ⟨Nat.le_of_ble_eq_true rfl, Nat.le_of_ble_eq_true rfl⟩ rfl (Nat.le_of_ble_eq_true rfl)) rfl rfl g_no (fun r5_ h6_ => ?_)
  obtain rfl := h6_
  refine lv_if_ne (tgt := 26) hx hb dX4_grant_13 (by decide) (fun c7_ => ?_) (fun c7_ => ?_)
  · refine lv_iload hx hb dX4_grant_26 (lv_at hl 4 rfl) ?_
    refine lv_iload hx hb dX4_grant_28 (lv_at hl 5 rfl) ?_
    refine lv_iload hx hb dX4_grant_30 (lv_at hl 6 rfl) ?_
    refine g_cRv (k2 := 3) (n2 := 18) (g_runS (rest := []) hC (c_X4_requireLimitAndDays hE  li fi la) Y_X4_requireLimitAndDays k_772 S_X4_requireLimitAndDays hR.frz rfl hl.1 dX4_grant_32 ⟨Nat.le_of_ble_eq_true rfl, Nat.le_of_ble_eq_true rfl⟩ ⟨Nat.le_of_ble_eq_true rfl, Nat.le_of_ble_eq_true rfl⟩ rfl (Nat.le_of_ble_eq_true rfl)) rfl rfl (g_up hC ht (fun X h => ⟨1, by rw [h.1]; rfl, (by unfold kGrant; rw [cif_neg (by first | grind | (simp only [ix, xv, xw]; grind)), cif_pos (by first | grind | (simp only [ix, xv, xw]; grind))])⟩) (Nat.le_of_ble_eq_true rfl) (Nat.le_of_ble_eq_true rfl)) (fun h10_ => ?_)
    refine lv_aload_n hx hb dX4_grant_35 rfl (lv_at hl 0 rfl) ?_
    refine g_cRv (k2 := 4) (n2 := 24) (g_runV (rest := []) hC (c_X4_requireRoomForPower hE (α := α) (ξ := ξ) (M := M) (N := N) ) Y_X4_requireRoomForPower k_778 I_X4_requireRoomForPower V_X4_requireRoomForPower hR.sig rfl hR rfl hl.1 dX4_grant_36 ⟨Nat.le_of_ble_eq_true rfl, Nat.le_of_ble_eq_true rfl⟩ ⟨Nat.le_of_ble_eq_true rfl, Nat.le_of_ble_eq_true rfl⟩ rfl (Nat.le_of_ble_eq_true rfl)) rfl rfl (g_up hC ht (fun X h => ⟨2, by rw [h.1]; rfl, (by unfold kGrant; rw [cif_neg (by first | grind | (simp only [ix, xv, xw]; grind)), cif_neg (by first | grind | (simp only [ix, xv, xw]; grind)), cif_pos (by first | grind | (simp only [ix, xv, xw]; grind))])⟩) (Nat.le_of_ble_eq_true rfl) (Nat.le_of_ble_eq_true rfl)) (fun h12_ => ?_)
    refine lv_aload_n hx hb dX4_grant_39 rfl (lv_at hl 0 rfl) ?_
    obtain ⟨j_h0, hj_h0, rfl⟩ := isP_of (n := N 3) (p := h0) (by assumption) (by omega)
    have ej_h0 : (nI j_h0).toNatClampNeg = j_h0 := nI_clamp (by omega)
    have ipj_h0 : isP (N 3) (nI j_h0) := isP_nI hj_h0 (by omega)
    obtain ⟨x, hx_⟩ : ∃ x, x = s.heap.size := ⟨_, rfl⟩
    refine g_nwo (q := x) (ci := 4) hx_.symm hC rfl u3_in tyX3 tyX3_ok k_399 k_783 k_13 bl3_ok hS hAl (Nat.le_of_ble_eq_true rfl) (Nat.le_of_ble_eq_true rfl) dX4_grant_40 (fun H hB hz_ ho_ hS => ?_)
    have hxE : E.2.1.heap.size ≤ x := by have := gFz.le hR.frz; omega
    have hxn := hR.notV (x := x) (by omega)
    have hxB : ¬ B x := fun z => by have := hRB.2.2 x z; omega
    have hRB := hRB.keep (by omega) (fun q hq => ho_ q (by omega))
    have hR := hRB.1
    have hxl : x < H.size := by omega
    refine lv_dup hx hb dX4_grant_43 rfl ?_
    refine lv_aload_n hx hb dX4_grant_44 rfl (lv_at hl 0 rfl) ?_
    refine g_get (v := .ref (α 3 1)) hC hR.sig (C := RX4) (T := TX4) (N := 6) rfl u4_in 0 (by decide) k_726 rfl dX4_grant_45 ?_
    refine g_cRFi (k2 := 5) (n2 := 31) (g_runF (rest := [.ref x, .ref x, .ref (α 3 0)]) hC (c_Jx4a65c_size_8abf5 hE (α 3 1) (α 3 (14 + 0)) (N 0) (α 0)) Y_Jx4a65c_size_8abf5 k_165 F_Jx4a65c_size_8abf5 (hR.list 0 (by decide)).rcv rfl (hR.list 0 (by decide)) rfl hl.1 dX4_grant_48 ⟨Nat.le_of_ble_eq_true rfl, Nat.le_of_ble_eq_true rfl⟩ ⟨Nat.le_of_ble_eq_true rfl, Nat.le_of_ble_eq_true rfl⟩ rfl (Nat.le_of_ble_eq_true rfl)) rfl rfl g_no (fun r13_ h14_ => ?_)
    obtain rfl := h14_
    refine lv_iload_n hx hb dX4_grant_53 rfl (lv_at hl 1 rfl) ?_
    refine lv_iload_n hx hb dX4_grant_54 rfl (lv_at hl 2 rfl) ?_
    refine lv_iload_n hx hb dX4_grant_55 rfl (lv_at hl 3 rfl) ?_
    refine g_cRi (k2 := 5) (n2 := 31) (g_runS (rest := [.int k0, .int (nI j_h0), .int (nI (N 0)), .ref x, .ref x, .ref (α 3 0)]) hC (c_X4_bitOfHand hE ha) Y_X4_bitOfHand k_768 S_X4_bitOfHand trivial rfl hl.1 dX4_grant_56 ⟨Nat.le_of_ble_eq_true rfl, Nat.le_of_ble_eq_true rfl⟩ ⟨Nat.le_of_ble_eq_true rfl, Nat.le_of_ble_eq_true rfl⟩ rfl (Nat.le_of_ble_eq_true rfl)) rfl rfl g_no (fun r15_ h16_ => ?_)
    obtain rfl := h16_
    refine lv_iload hx hb dX4_grant_59 (lv_at hl 5 rfl) ?_
    refine lv_iload hx hb dX4_grant_61 (lv_at hl 6 rfl) ?_
    refine lv_null hx hb dX4_grant_63 ?_
    refine g_cWv (k2 := 5) (n2 := 31) (g_runI (rest := [.ref x, .ref (α 3 0)]) hC (c_X3_init_n hE x (N 0) (nI j_h0) k0 (fBit ha) fi la) Y_X3_init k_784 I_X3_init rfl hB rfl hl.1 dX4_grant_64 ⟨Nat.le_of_ble_eq_true rfl, Nat.le_of_ble_eq_true rfl⟩ ⟨Nat.le_of_ble_eq_true rfl, Nat.le_of_ble_eq_true rfl⟩ rfl (Nat.le_of_ble_eq_true rfl)) hS (fun q h => by rw [h]; exact ⟨hxE, hxB⟩) rfl rfl (fun H lo h18_ hz_ hk_ hS => ?_)
    have hB := h18_
    have hRB := hRB.keepN hxn hxE hz_ (fun q h1 h2 => hk_ q h1 h2)
    have hR := hRB.1
    have hxl : x < H.size := by omega
    have hBp : gA E x (.inr (4, [.int (nI (N 0)), .int ((pwV (nI j_h0) k0 ha fi la (-1)) 1), .int ((pwV (nI j_h0) k0 ha fi la (-1)) 2), .int (fBit ((pwV (nI j_h0) k0 ha fi la (-1)) 3)), .int ((pwV (nI j_h0) k0 ha fi la (-1)) 4), .int ((pwV (nI j_h0) k0 ha fi la (-1)) 5), srcV α ((pwV (nI j_h0) k0 ha fi la (-1)) 6)])) H := by
      rw [srcV_n (show pwV (nI j_h0) k0 ha fi la (-1) 6 < 0 from (by decide : (-1 : Int32) < 0))]
      exact hB
    refine lv_iload hx hb dX4_grant_67 (lv_at hl 4 rfl) ?_
    refine g_cWi (k2 := 8) (n2 := 2034) (g_runV (rest := []) hC (c_X4_keepPower hE (α := α) (ξ := ξ) (M := M) (N := N) (B := B) x hxE hxn hxB (pwV (nI j_h0) k0 ha fi la (-1)) li (by omega) hn ⟨_, hj_h0, rfl⟩ (Or.inl (show (-1 : Int32) < 0 by decide))) Y_X4_keepPower k_820 I_X4_keepPower V_X4_keepPower hR.sig rfl ⟨hRB, hBp⟩ rfl hl.1 dX4_grant_69 ⟨Nat.le_of_ble_eq_true rfl, Nat.le_of_ble_eq_true rfl⟩ ⟨Nat.le_of_ble_eq_true rfl, Nat.le_of_ble_eq_true rfl⟩ rfl (Nat.le_of_ble_eq_true rfl)) hS (fun _ h => h) rfl rfl (fun r19_ H lo h20_ _ _ hS => ?_)
    obtain ⟨rfl, α2, ha2, hRB⟩ := h20_
    have hR := hRB.1
    exact g_iretW hC hr dX4_grant_72 hS (Nat.le_of_ble_eq_true rfl) (Nat.le_of_ble_eq_true rfl) (xPost_0 (by unfold kGrant; rw [cif_neg (by first | grind | (simp only [ix, ej_h0, xv, xw]; grind)), cif_neg (by first | grind | (simp only [ix, ej_h0, xv, xw]; grind)), cif_neg (by first | grind | (simp only [ix, ej_h0, xv, xw]; grind))]) hRB (by first | rfl | exact updM_s | simp only [ix, ej_h0, updM_s]) (by first | rfl | exact ha2) (by first | rfl | simp only [ix, ej_h0]) rfl (rfl))
  · exact g_throw hC ht hR.frz th_47 k_771 sx_76 hl.1 dX4_grant_16 dX4_grant_19 dX4_grant_20 dX4_grant_22 dX4_grant_25 ⟨Nat.le_of_ble_eq_true rfl, Nat.le_of_ble_eq_true rfl⟩ ⟨Nat.le_of_ble_eq_true rfl, Nat.le_of_ble_eq_true rfl⟩ (Nat.le_of_ble_eq_true rfl) (Nat.le_of_ble_eq_true rfl) ⟨1, rfl, (by unfold kGrant; rw [cif_neg (by first | grind | (simp only [ix, xv, xw]; grind)), cif_pos (by first | grind | (simp only [ix, xv, xw]; grind))])⟩
set_option maxHeartbeats 4000000 in
set_option maxRecDepth 100000 in
theorem c_X4_delegate {l : Launch} {E : gV} (hE : gOK l E) {α : Nat → Nat → Nat} {ξ : F2} {M : Nat → F2} {N : Nat → Nat} {B : Nat → Prop} (p0 : Int32) (h0 : Int32) (li : Int32) (fi : Int32) (la : Int32) (hn : N 2 < 512) : gM l E yX4_delegate cX4_delegate 7 (some .int) ({ frames := 11, cells := 8, slots := 2050, locals := 277 } : Room) [.ref (α 3 0), .int p0, .int h0, .int li, .int fi, .int la] (fun H => RB E B α ξ M N H) (gQW (gAB E B) (gWi (fun r H => xPost E B (α 3 0) (kDel (xv ξ (M 0)) (N 3) (N 0) p0 h0 li fi la) (papX (powX ξ (N 0) (pwV h0 (ξ 2 (ix p0)) (ξ 3 (ix p0)) fi la p0)) (N 2) 0 (nI (N 0)) li) (tk (M 0) 0 (nI (N 0)) li) (updN (updN N 0 (N 0 + 1)) 2 (N 2 + 1)) (r = nI (N 0)) H))) (fun X => gCode ["java/lang/IndexOutOfBoundsException", "java/lang/IllegalArgumentException", "java/lang/UnsupportedOperationException", "java/lang/IllegalStateException"] (kDel (xv ξ (M 0)) (N 3) (N 0) p0 h0 li fi la) X) (gAB E B) := by
  refine gM_body hE (by decide +kernel) (Nat.le_of_ble_eq_true rfl) ?_
  intro p_ e_ s m args below meth c hC ht hr hname hP ls hl
  have hx := hC.2.2.1
  have hb := hC.2.2.2.1
  have hl : lv_has ls 7 [(0, .ref (α 3 0)), (1, .int p0), (2, .int h0), (3, .int li), (4, .int fi), (5, .int la)] := hl
  have hS : va_S ((gAB E B)) s.heap s.heap [] := va_S.rf
  have hRB : RB E B α ξ M N s.heap := hP
  have hR : RX E α ξ M N s.heap := hRB.1
  have hSr := hR.inv.src (M 0)
  obtain ⟨hN0, hN1, hN2, hN3, -, hHo, hDe⟩ := hR.inv
  have hAl : ∀ q, s.heap.size ≤ q → gAB E B q := fun q hq => hRB.al hq
  refine lv_aload_n hx hb dX4_delegate_0 rfl (lv_at hl 0 rfl) ?_
  refine lv_iload_n hx hb dX4_delegate_1 rfl (lv_at hl 1 rfl) ?_
  refine g_cRr (k2 := 1) (n2 := 6) (g_runV (rest := []) hC (c_X4_findPower hE (α := α) (ξ := ξ) (M := M) (N := N) p0) Y_X4_findPower k_834 I_X4_findPower V_X4_findPower hR.sig rfl hR rfl hl.1 dX4_delegate_2 ⟨Nat.le_of_ble_eq_true rfl, Nat.le_of_ble_eq_true rfl⟩ ⟨Nat.le_of_ble_eq_true rfl, Nat.le_of_ble_eq_true rfl⟩ rfl (Nat.le_of_ble_eq_true rfl)) rfl rfl (g_up hC ht (fun X h => ⟨0, by rw [h.1]; rfl, (by unfold kDel; rw [cif_pos (by first | grind | (simp only [ix, xv, xw]; grind))])⟩) (Nat.le_of_ble_eq_true rfl) (Nat.le_of_ble_eq_true rfl)) (fun r1_ h2_ => ?_)
  obtain ⟨g3_, rfl⟩ := h2_
  obtain ⟨j_p0, hj_p0, rfl⟩ := isP_of (n := N 0) (p := p0) g3_ (by omega)
  have ej_p0 : (nI j_p0).toNatClampNeg = j_p0 := nI_clamp (by omega)
  have ipj_p0 : isP (N 0) (nI j_p0) := isP_nI hj_p0 (by omega)
  rw [show ix (nI j_p0) = j_p0 from ej_p0]
  refine lv_astore (lv' := [(6, .ref (α 0 j_p0)), (0, .ref (α 3 0)), (1, .int (nI j_p0)), (2, .int h0), (3, .int li), (4, .int fi), (5, .int la)]) hx hb dX4_delegate_5 hl (by decide) rfl (fun ls hl => ?_)
  refine lv_aload_n hx hb dX4_delegate_7 rfl (lv_at hl 1 rfl) ?_
  refine lv_iload_n hx hb dX4_delegate_8 rfl (lv_at hl 3 rfl) ?_
  refine g_cRv (k2 := 2) (n2 := 12) (g_runV (rest := []) hC (c_X4_requirePerson hE (α := α) (ξ := ξ) (M := M) (N := N) h0) Y_X4_requirePerson k_36 I_X4_requirePerson V_X4_requirePerson hR.sig rfl hR rfl hl.1 dX4_delegate_9 ⟨Nat.le_of_ble_eq_true rfl, Nat.le_of_ble_eq_true rfl⟩ ⟨Nat.le_of_ble_eq_true rfl, Nat.le_of_ble_eq_true rfl⟩ rfl (Nat.le_of_ble_eq_true rfl)) rfl rfl (g_up hC ht (fun X h => ⟨0, by rw [h.1]; rfl, (by unfold kDel; rw [cif_pos (by first | grind | (simp only [ix, ej_p0, xv, xw]; grind))])⟩) (Nat.le_of_ble_eq_true rfl) (Nat.le_of_ble_eq_true rfl)) (fun h5_ => ?_)
  refine lv_iload_n hx hb dX4_delegate_12 rfl (lv_at hl 4 rfl) ?_
  refine lv_iload hx hb dX4_delegate_13 (lv_at hl 5 rfl) ?_
  refine lv_iload hx hb dX4_delegate_15 (lv_at hl 6 rfl) ?_
  refine g_cRv (k2 := 3) (n2 := 18) (g_runS (rest := []) hC (c_X4_requireLimitAndDays hE  li fi la) Y_X4_requireLimitAndDays k_772 S_X4_requireLimitAndDays hR.frz rfl hl.1 dX4_delegate_17 ⟨Nat.le_of_ble_eq_true rfl, Nat.le_of_ble_eq_true rfl⟩ ⟨Nat.le_of_ble_eq_true rfl, Nat.le_of_ble_eq_true rfl⟩ rfl (Nat.le_of_ble_eq_true rfl)) rfl rfl (g_up hC ht (fun X h => ⟨1, by rw [h.1]; rfl, (by unfold kDel; rw [cif_neg (by first | grind | (simp only [ix, ej_p0, xv, xw]; grind)), cif_pos (by first | grind | (simp only [ix, ej_p0, xv, xw]; grind))])⟩) (Nat.le_of_ble_eq_true rfl) (Nat.le_of_ble_eq_true rfl)) (fun h7_ => ?_)
  refine lv_iload_n hx hb dX4_delegate_20 rfl (lv_at hl 3 rfl) ?_
  refine lv_aload hx hb dX4_delegate_21 (lv_at hl 0 rfl) ?_
  refine g_get (v := .int (ξ 1 j_p0)) hC (hR.pow (i := j_p0) (by omega)) (C := RX3) (T := TX3) (N := 7) rfl u3_in 1 (by decide) k_792 rfl dX4_delegate_23 ?_
  refine lv_icmp_eq (tgt := 62) hx hb dX4_delegate_26 (by decide) (fun c8_ => ?_) (fun c8_ => ?_)
  · exact g_throw hC ht hR.frz th_116 k_840 sx_118 hl.1 dX4_delegate_62 dX4_delegate_65 dX4_delegate_66 dX4_delegate_68 dX4_delegate_71 ⟨Nat.le_of_ble_eq_true rfl, Nat.le_of_ble_eq_true rfl⟩ ⟨Nat.le_of_ble_eq_true rfl, Nat.le_of_ble_eq_true rfl⟩ (Nat.le_of_ble_eq_true rfl) (Nat.le_of_ble_eq_true rfl) ⟨2, rfl, (by unfold kDel; rw [cif_neg (by first | grind | (simp only [ix, ej_p0, xv, xw]; grind)), cif_neg (by first | grind | (simp only [ix, ej_p0, xv, xw]; grind)), cif_pos (by first | grind | (simp only [ix, ej_p0, xv, xw]; grind))])⟩
  · refine lv_iload_n hx hb dX4_delegate_29 rfl (lv_at hl 4 rfl) ?_
    refine lv_aload_n hx hb dX4_delegate_30 rfl (lv_at hl 1 rfl) ?_
    refine g_get (v := .ref (α 3 4)) hC hR.sig (C := RX4) (T := TX4) (N := 6) rfl u4_in 3 (by decide) k_729 rfl dX4_delegate_31 ?_
    refine lv_aload hx hb dX4_delegate_34 (lv_at hl 0 rfl) ?_
    refine g_cRi (k2 := 3) (n2 := 18) (g_runV (rest := [.int li]) hC (c_X1_limitOf hE (α := α) (ξ := ξ) (M := M) (N := N) 0 (by decide) j_p0 (by omega)) Y_X1_limitOf k_839 I_X1_limitOf V_X1_limitOf (hR.mom 0 (by decide)) rfl hR rfl hl.1 dX4_delegate_36 ⟨Nat.le_of_ble_eq_true rfl, Nat.le_of_ble_eq_true rfl⟩ ⟨Nat.le_of_ble_eq_true rfl, Nat.le_of_ble_eq_true rfl⟩ rfl (Nat.le_of_ble_eq_true rfl)) rfl rfl g_no (fun r9_ h10_ => ?_)
    obtain rfl := h10_
    refine lv_icmp_gt (tgt := 62) hx hb dX4_delegate_39 (by decide) (fun c11_ => ?_) (fun c11_ => ?_)
    · exact g_throw hC ht hR.frz th_116 k_840 sx_118 hl.1 dX4_delegate_62 dX4_delegate_65 dX4_delegate_66 dX4_delegate_68 dX4_delegate_71 ⟨Nat.le_of_ble_eq_true rfl, Nat.le_of_ble_eq_true rfl⟩ ⟨Nat.le_of_ble_eq_true rfl, Nat.le_of_ble_eq_true rfl⟩ (Nat.le_of_ble_eq_true rfl) (Nat.le_of_ble_eq_true rfl) ⟨2, rfl, (by unfold kDel; rw [cif_neg (by first | grind | (simp only [ix, ej_p0, xv, xw]; grind)), cif_neg (by first | grind | (simp only [ix, ej_p0, xv, xw]; grind)), cif_pos (by first | grind | (simp only [ix, ej_p0, xv, xw]; grind))])⟩
    · refine lv_iload hx hb dX4_delegate_42 (lv_at hl 5 rfl) ?_
      refine lv_aload hx hb dX4_delegate_44 (lv_at hl 0 rfl) ?_
      refine g_get (v := .int (ξ 4 j_p0)) hC (hR.pow (i := j_p0) (by omega)) (C := RX3) (T := TX3) (N := 7) rfl u3_in 4 (by decide) k_798 rfl dX4_delegate_46 ?_
      refine lv_icmp_lt (tgt := 62) hx hb dX4_delegate_49 (by decide) (fun c12_ => ?_) (fun c12_ => ?_)
      · exact g_throw hC ht hR.frz th_116 k_840 sx_118 hl.1 dX4_delegate_62 dX4_delegate_65 dX4_delegate_66 dX4_delegate_68 dX4_delegate_71 ⟨Nat.le_of_ble_eq_true rfl, Nat.le_of_ble_eq_true rfl⟩ ⟨Nat.le_of_ble_eq_true rfl, Nat.le_of_ble_eq_true rfl⟩ (Nat.le_of_ble_eq_true rfl) (Nat.le_of_ble_eq_true rfl) ⟨2, rfl, (by unfold kDel; rw [cif_neg (by first | grind | (simp only [ix, ej_p0, xv, xw]; grind)), cif_neg (by first | grind | (simp only [ix, ej_p0, xv, xw]; grind)), cif_pos (by first | grind | (simp only [ix, ej_p0, xv, xw]; grind))])⟩
      · refine lv_iload hx hb dX4_delegate_52 (lv_at hl 6 rfl) ?_
        refine lv_aload hx hb dX4_delegate_54 (lv_at hl 0 rfl) ?_
        refine g_get (v := .int (ξ 5 j_p0)) hC (hR.pow (i := j_p0) (by omega)) (C := RX3) (T := TX3) (N := 7) rfl u3_in 5 (by decide) k_801 rfl dX4_delegate_56 ?_
        refine lv_icmp_le (tgt := 72) hx hb dX4_delegate_59 (by decide) (fun c13_ => ?_) (fun c13_ => ?_)
        · refine lv_aload_n hx hb dX4_delegate_72 rfl (lv_at hl 1 rfl) ?_
          refine g_get (v := .ref (α 3 4)) hC hR.sig (C := RX4) (T := TX4) (N := 6) rfl u4_in 3 (by decide) k_729 rfl dX4_delegate_73 ?_
          refine lv_aload hx hb dX4_delegate_76 (lv_at hl 0 rfl) ?_
          refine g_cRi (k2 := 3) (n2 := 18) (g_runV (rest := []) hC (c_X1_isRevoked hE (α := α) (ξ := ξ) (M := M) (N := N) 0 (by decide) j_p0 (by omega)) Y_X1_isRevoked k_841 I_X1_isRevoked V_X1_isRevoked (hR.mom 0 (by decide)) rfl hR rfl hl.1 dX4_delegate_78 ⟨Nat.le_of_ble_eq_true rfl, Nat.le_of_ble_eq_true rfl⟩ ⟨Nat.le_of_ble_eq_true rfl, Nat.le_of_ble_eq_true rfl⟩ rfl (Nat.le_of_ble_eq_true rfl)) rfl rfl g_no (fun r14_ h15_ => ?_)
          refine lv_if_eq (tgt := 94) hx hb dX4_delegate_81 (by decide) (fun c16_ => ?_) (fun c16_ => ?_)
          · have q17_ := bz.f h15_ c16_
            refine lv_aload_n hx hb dX4_delegate_94 rfl (lv_at hl 1 rfl) ?_
            refine g_cRv (k2 := 4) (n2 := 24) (g_runV (rest := []) hC (c_X4_requireRoomForPower hE (α := α) (ξ := ξ) (M := M) (N := N) ) Y_X4_requireRoomForPower k_778 I_X4_requireRoomForPower V_X4_requireRoomForPower hR.sig rfl hR rfl hl.1 dX4_delegate_95 ⟨Nat.le_of_ble_eq_true rfl, Nat.le_of_ble_eq_true rfl⟩ ⟨Nat.le_of_ble_eq_true rfl, Nat.le_of_ble_eq_true rfl⟩ rfl (Nat.le_of_ble_eq_true rfl)) rfl rfl (g_up hC ht (fun X h => ⟨3, by rw [h.1]; rfl, (by unfold kDel; rw [cif_neg (by first | grind | (simp only [ix, ej_p0, xv, xw]; grind)), cif_neg (by first | grind | (simp only [ix, ej_p0, xv, xw]; grind)), cif_neg (by first | grind | (simp only [ix, ej_p0, xv, xw]; grind)), cif_pos (by first | grind | (simp only [ix, ej_p0, xv, xw]; grind))])⟩) (Nat.le_of_ble_eq_true rfl) (Nat.le_of_ble_eq_true rfl)) (fun h19_ => ?_)
            refine lv_aload_n hx hb dX4_delegate_98 rfl (lv_at hl 1 rfl) ?_
            obtain ⟨j_h0, hj_h0, rfl⟩ := isP_of (n := N 3) (p := h0) (by assumption) (by omega)
            have ej_h0 : (nI j_h0).toNatClampNeg = j_h0 := nI_clamp (by omega)
            have ipj_h0 : isP (N 3) (nI j_h0) := isP_nI hj_h0 (by omega)
            obtain ⟨x, hx_⟩ : ∃ x, x = s.heap.size := ⟨_, rfl⟩
            refine g_nwo (q := x) (ci := 4) hx_.symm hC rfl u3_in tyX3 tyX3_ok k_399 k_783 k_13 bl3_ok hS hAl (Nat.le_of_ble_eq_true rfl) (Nat.le_of_ble_eq_true rfl) dX4_delegate_99 (fun H hB hz_ ho_ hS => ?_)
            have hxE : E.2.1.heap.size ≤ x := by have := gFz.le hR.frz; omega
            have hxn := hR.notV (x := x) (by omega)
            have hxB : ¬ B x := fun z => by have := hRB.2.2 x z; omega
            have hRB := hRB.keep (by omega) (fun q hq => ho_ q (by omega))
            have hR := hRB.1
            have hxl : x < H.size := by omega
            refine lv_dup hx hb dX4_delegate_102 rfl ?_
            refine lv_aload_n hx hb dX4_delegate_103 rfl (lv_at hl 1 rfl) ?_
            refine g_get (v := .ref (α 3 1)) hC hR.sig (C := RX4) (T := TX4) (N := 6) rfl u4_in 0 (by decide) k_726 rfl dX4_delegate_104 ?_
            refine g_cRFi (k2 := 5) (n2 := 31) (g_runF (rest := [.ref x, .ref x, .ref (α 3 0)]) hC (c_Jx4a65c_size_8abf5 hE (α 3 1) (α 3 (14 + 0)) (N 0) (α 0)) Y_Jx4a65c_size_8abf5 k_165 F_Jx4a65c_size_8abf5 (hR.list 0 (by decide)).rcv rfl (hR.list 0 (by decide)) rfl hl.1 dX4_delegate_107 ⟨Nat.le_of_ble_eq_true rfl, Nat.le_of_ble_eq_true rfl⟩ ⟨Nat.le_of_ble_eq_true rfl, Nat.le_of_ble_eq_true rfl⟩ rfl (Nat.le_of_ble_eq_true rfl)) rfl rfl g_no (fun r20_ h21_ => ?_)
            obtain rfl := h21_
            refine lv_iload_n hx hb dX4_delegate_112 rfl (lv_at hl 3 rfl) ?_
            refine lv_aload hx hb dX4_delegate_113 (lv_at hl 0 rfl) ?_
            refine g_get (v := .int (ξ 2 j_p0)) hC (hR.pow (i := j_p0) (by omega)) (C := RX3) (T := TX3) (N := 7) rfl u3_in 2 (by decide) k_794 rfl dX4_delegate_115 ?_
            refine lv_aload hx hb dX4_delegate_118 (lv_at hl 0 rfl) ?_
            refine g_get (v := .int (fBit (ξ 3 j_p0))) hC (hR.pow (i := j_p0) (by omega)) (C := RX3) (T := TX3) (N := 7) rfl u3_in 3 (by decide) k_796 rfl dX4_delegate_120 ?_
            refine lv_iload hx hb dX4_delegate_123 (lv_at hl 5 rfl) ?_
            refine lv_iload hx hb dX4_delegate_125 (lv_at hl 6 rfl) ?_
            refine lv_aload hx hb dX4_delegate_127 (lv_at hl 0 rfl) ?_
            refine g_cWv (k2 := 5) (n2 := 31) (g_runI (rest := [.ref x, .ref (α 3 0)]) hC (c_X3_init_s hE x (N 0) (nI j_h0) (ξ 2 j_p0) (fBit (ξ 3 j_p0)) fi la (α 0 j_p0)) Y_X3_init k_784 I_X3_init rfl hB rfl hl.1 dX4_delegate_129 ⟨Nat.le_of_ble_eq_true rfl, Nat.le_of_ble_eq_true rfl⟩ ⟨Nat.le_of_ble_eq_true rfl, Nat.le_of_ble_eq_true rfl⟩ rfl (Nat.le_of_ble_eq_true rfl)) hS (fun q h => by rw [h]; exact ⟨hxE, hxB⟩) rfl rfl (fun H lo h23_ hz_ hk_ hS => ?_)
            have hB := h23_
            have hRB := hRB.keepN hxn hxE hz_ (fun q h1 h2 => hk_ q h1 h2)
            have hR := hRB.1
            have hxl : x < H.size := by omega
            have hBp : gA E x (.inr (4, [.int (nI (N 0)), .int ((pwV (nI j_h0) (ξ 2 j_p0) (ξ 3 j_p0) fi la (nI j_p0)) 1), .int ((pwV (nI j_h0) (ξ 2 j_p0) (ξ 3 j_p0) fi la (nI j_p0)) 2), .int (fBit ((pwV (nI j_h0) (ξ 2 j_p0) (ξ 3 j_p0) fi la (nI j_p0)) 3)), .int ((pwV (nI j_h0) (ξ 2 j_p0) (ξ 3 j_p0) fi la (nI j_p0)) 4), .int ((pwV (nI j_h0) (ξ 2 j_p0) (ξ 3 j_p0) fi la (nI j_p0)) 5), srcV α ((pwV (nI j_h0) (ξ 2 j_p0) (ξ 3 j_p0) fi la (nI j_p0)) 6)])) H := by
              rw [srcV_s (q := j_p0) (show pwV (nI j_h0) (ξ 2 j_p0) (ξ 3 j_p0) fi la (nI j_p0) 6 = nI j_p0 from rfl) (by omega)]
              exact hB
            refine lv_iload_n hx hb dX4_delegate_132 rfl (lv_at hl 4 rfl) ?_
            refine g_cWi (k2 := 8) (n2 := 2034) (g_runV (rest := []) hC (c_X4_keepPower hE (α := α) (ξ := ξ) (M := M) (N := N) (B := B) x hxE hxn hxB (pwV (nI j_h0) (ξ 2 j_p0) (ξ 3 j_p0) fi la (nI j_p0)) li (by omega) hn ⟨_, hj_h0, rfl⟩ (Or.inr ⟨j_p0, by omega, rfl⟩)) Y_X4_keepPower k_820 I_X4_keepPower V_X4_keepPower hR.sig rfl ⟨hRB, hBp⟩ rfl hl.1 dX4_delegate_133 ⟨Nat.le_of_ble_eq_true rfl, Nat.le_of_ble_eq_true rfl⟩ ⟨Nat.le_of_ble_eq_true rfl, Nat.le_of_ble_eq_true rfl⟩ rfl (Nat.le_of_ble_eq_true rfl)) hS (fun _ h => h) rfl rfl (fun r24_ H lo h25_ _ _ hS => ?_)
            obtain ⟨rfl, α2, ha2, hRB⟩ := h25_
            have hR := hRB.1
            exact g_iretW hC hr dX4_delegate_136 hS (Nat.le_of_ble_eq_true rfl) (Nat.le_of_ble_eq_true rfl) (xPost_0 (by unfold kDel; rw [cif_neg (by first | grind | (simp only [ix, ej_p0, ej_h0, xv, xw]; grind)), cif_neg (by first | grind | (simp only [ix, ej_p0, ej_h0, xv, xw]; grind)), cif_neg (by first | grind | (simp only [ix, ej_p0, ej_h0, xv, xw]; grind)), cif_neg (by first | grind | (simp only [ix, ej_p0, ej_h0, xv, xw]; grind))]) hRB (by first | rfl | exact updM_s | simp only [ix, ej_p0, ej_h0, updM_s]) (by first | rfl | exact ha2) (by first | rfl | simp only [ix, ej_p0, ej_h0]) rfl (rfl))
          · have q17_ := bz.t h15_ c16_
            exact g_throw hC ht hR.frz th_36 k_842 sx_125 hl.1 dX4_delegate_84 dX4_delegate_87 dX4_delegate_88 dX4_delegate_90 dX4_delegate_93 ⟨Nat.le_of_ble_eq_true rfl, Nat.le_of_ble_eq_true rfl⟩ ⟨Nat.le_of_ble_eq_true rfl, Nat.le_of_ble_eq_true rfl⟩ (Nat.le_of_ble_eq_true rfl) (Nat.le_of_ble_eq_true rfl) ⟨3, rfl, (by unfold kDel; rw [cif_neg (by first | grind | (simp only [ix, ej_p0, xv, xw]; grind)), cif_neg (by first | grind | (simp only [ix, ej_p0, xv, xw]; grind)), cif_neg (by first | grind | (simp only [ix, ej_p0, xv, xw]; grind)), cif_pos (by first | grind | (simp only [ix, ej_p0, xv, xw]; grind))])⟩
        · exact g_throw hC ht hR.frz th_116 k_840 sx_118 hl.1 dX4_delegate_62 dX4_delegate_65 dX4_delegate_66 dX4_delegate_68 dX4_delegate_71 ⟨Nat.le_of_ble_eq_true rfl, Nat.le_of_ble_eq_true rfl⟩ ⟨Nat.le_of_ble_eq_true rfl, Nat.le_of_ble_eq_true rfl⟩ (Nat.le_of_ble_eq_true rfl) (Nat.le_of_ble_eq_true rfl) ⟨2, rfl, (by unfold kDel; rw [cif_neg (by first | grind | (simp only [ix, ej_p0, xv, xw]; grind)), cif_neg (by first | grind | (simp only [ix, ej_p0, xv, xw]; grind)), cif_pos (by first | grind | (simp only [ix, ej_p0, xv, xw]; grind))])⟩
set_option maxHeartbeats 4000000 in
set_option maxRecDepth 100000 in
theorem c_X4_lower {l : Launch} {E : gV} (hE : gOK l E) {α : Nat → Nat → Nat} {ξ : F2} {M : Nat → F2} {N : Nat → Nat} {B : Nat → Prop} (p0 : Int32) (li : Int32) (hn : N 2 < 512) : gM l E yX4_lower cX4_lower 5 (some .int) ({ frames := 10, cells := 4, slots := 1030, locals := 255 } : Room) [.ref (α 3 0), .int p0, .int li] (fun H => RB E B α ξ M N H) (gQW (gAB E B) (gWi (fun r H => xPost E B (α 3 0) (kLower (xv ξ (M 0)) (N 0) p0 li) (papX ξ (N 2) 0 p0 li) (tk (M 0) 0 p0 li) (updN N 2 (N 2 + 1)) (r = M 0 0 (ix p0)) H))) (fun X => gCode ["java/lang/IndexOutOfBoundsException", "java/lang/IllegalArgumentException"] (kLower (xv ξ (M 0)) (N 0) p0 li) X) (gAB E B) := by
  refine gM_body hE (by decide +kernel) (Nat.le_of_ble_eq_true rfl) ?_
  intro p_ e_ s m args below meth c hC ht hr hname hP ls hl
  have hx := hC.2.2.1
  have hb := hC.2.2.2.1
  have hl : lv_has ls 5 [(0, .ref (α 3 0)), (1, .int p0), (2, .int li)] := hl
  have hS : va_S ((gAB E B)) s.heap s.heap [] := va_S.rf
  have hRB : RB E B α ξ M N s.heap := hP
  have hR : RX E α ξ M N s.heap := hRB.1
  have hSr := hR.inv.src (M 0)
  obtain ⟨hN0, hN1, hN2, hN3, -, hHo, hDe⟩ := hR.inv
  have hAl : ∀ q, s.heap.size ≤ q → gAB E B q := fun q hq => hRB.al hq
  refine lv_aload_n hx hb dX4_lower_0 rfl (lv_at hl 0 rfl) ?_
  refine lv_iload_n hx hb dX4_lower_1 rfl (lv_at hl 1 rfl) ?_
  refine g_cRr (k2 := 1) (n2 := 6) (g_runV (rest := []) hC (c_X4_findPower hE (α := α) (ξ := ξ) (M := M) (N := N) p0) Y_X4_findPower k_834 I_X4_findPower V_X4_findPower hR.sig rfl hR rfl hl.1 dX4_lower_2 ⟨Nat.le_of_ble_eq_true rfl, Nat.le_of_ble_eq_true rfl⟩ ⟨Nat.le_of_ble_eq_true rfl, Nat.le_of_ble_eq_true rfl⟩ rfl (Nat.le_of_ble_eq_true rfl)) rfl rfl (g_up hC ht (fun X h => ⟨0, by rw [h.1]; rfl, (by unfold kLower; rw [cif_pos (by first | grind | (simp only [ix, xv, xw]; grind))])⟩) (Nat.le_of_ble_eq_true rfl) (Nat.le_of_ble_eq_true rfl)) (fun r1_ h2_ => ?_)
  obtain ⟨g3_, rfl⟩ := h2_
  obtain ⟨j_p0, hj_p0, rfl⟩ := isP_of (n := N 0) (p := p0) g3_ (by omega)
  have ej_p0 : (nI j_p0).toNatClampNeg = j_p0 := nI_clamp (by omega)
  have ipj_p0 : isP (N 0) (nI j_p0) := isP_nI hj_p0 (by omega)
  rw [show ix (nI j_p0) = j_p0 from ej_p0]
  refine lv_astore_n (lv' := [(3, .ref (α 0 j_p0)), (0, .ref (α 3 0)), (1, .int (nI j_p0)), (2, .int li)]) hx hb dX4_lower_5 rfl hl (by decide) rfl (fun ls hl => ?_)
  refine lv_aload_n hx hb dX4_lower_6 rfl (lv_at hl 1 rfl) ?_
  refine g_get (v := .ref (α 3 4)) hC hR.sig (C := RX4) (T := TX4) (N := 6) rfl u4_in 3 (by decide) k_729 rfl dX4_lower_7 ?_
  refine lv_aload_n hx hb dX4_lower_10 rfl (lv_at hl 0 rfl) ?_
  refine g_cRi (k2 := 1) (n2 := 6) (g_runV (rest := []) hC (c_X1_limitOf hE (α := α) (ξ := ξ) (M := M) (N := N) 0 (by decide) j_p0 (by omega)) Y_X1_limitOf k_839 I_X1_limitOf V_X1_limitOf (hR.mom 0 (by decide)) rfl hR rfl hl.1 dX4_lower_11 ⟨Nat.le_of_ble_eq_true rfl, Nat.le_of_ble_eq_true rfl⟩ ⟨Nat.le_of_ble_eq_true rfl, Nat.le_of_ble_eq_true rfl⟩ rfl (Nat.le_of_ble_eq_true rfl)) rfl rfl g_no (fun r4_ h5_ => ?_)
  obtain rfl := h5_
  refine lv_istore (lv' := [(4, .int (M 0 0 j_p0)), (3, .ref (α 0 j_p0)), (0, .ref (α 3 0)), (1, .int (nI j_p0)), (2, .int li)]) hx hb dX4_lower_14 hl (by decide) rfl (fun ls hl => ?_)
  refine lv_iload_n hx hb dX4_lower_16 rfl (lv_at hl 4 rfl) ?_
  refine lv_iconst (v := 1) hx hb dX4_lower_17 (by decide) ?_
  refine lv_iload hx hb dX4_lower_18 (lv_at hl 0 rfl) ?_
  refine g_cRi (k2 := 1) (n2 := 6) (g_runS (rest := []) hC (c_X4_isBetween hE li 1 (M 0 0 j_p0)) Y_X4_isBetween k_283 S_X4_isBetween trivial rfl hl.1 dX4_lower_20 ⟨Nat.le_of_ble_eq_true rfl, Nat.le_of_ble_eq_true rfl⟩ ⟨Nat.le_of_ble_eq_true rfl, Nat.le_of_ble_eq_true rfl⟩ rfl (Nat.le_of_ble_eq_true rfl)) rfl rfl g_no (fun r6_ h7_ => ?_)
  refine lv_if_ne (tgt := 36) hx hb dX4_lower_23 (by decide) (fun c8_ => ?_) (fun c8_ => ?_)
  · have q9_ := bz.t h7_ c8_
    refine lv_aload_n hx hb dX4_lower_36 rfl (lv_at hl 2 rfl) ?_
    refine lv_iconst (v := 0) hx hb dX4_lower_37 (by decide) ?_
    refine lv_iload_n hx hb dX4_lower_38 rfl (lv_at hl 3 rfl) ?_
    refine lv_iload_n hx hb dX4_lower_39 rfl (lv_at hl 4 rfl) ?_
    refine g_cWv (k2 := 3) (n2 := 1009) (g_runV (rest := []) hC (c_X4_tell hE (α := α) (ξ := ξ) (M := M) (N := N) (B := B) 0 (nI j_p0) li hn) Y_X4_tell k_141 I_X4_tell V_X4_tell hR.sig rfl hRB rfl hl.1 dX4_lower_40 ⟨Nat.le_of_ble_eq_true rfl, Nat.le_of_ble_eq_true rfl⟩ ⟨Nat.le_of_ble_eq_true rfl, Nat.le_of_ble_eq_true rfl⟩ rfl (Nat.le_of_ble_eq_true rfl)) hS (fun _ h => h) rfl rfl (fun H lo h11_ _ _ hS => ?_)
    obtain ⟨xT, tT, hRB⟩ := h11_
    have hR := hRB.1
    refine lv_iload hx hb dX4_lower_43 (lv_at hl 0 rfl) ?_
    exact g_iretW hC hr dX4_lower_45 hS (Nat.le_of_ble_eq_true rfl) (Nat.le_of_ble_eq_true rfl) (xPost_0 (by unfold kLower; rw [cif_neg (by first | grind | (simp only [ix, ej_p0, xv, xw]; grind)), cif_neg (by first | grind | (simp only [ix, ej_p0, xv, xw]; grind))]) hRB (by first | rfl | exact updM_s | simp only [ix, ej_p0, updM_s]) (by first | rfl | exact ha2) (by first | rfl | simp only [ix, ej_p0]) rfl ((by first | rfl | simp only [ix, ej_p0])))
  · have q9_ := bz.f h7_ c8_
    exact g_throw hC ht hR.frz th_47 k_889 sx_137 hl.1 dX4_lower_26 dX4_lower_29 dX4_lower_30 dX4_lower_32 dX4_lower_35 ⟨Nat.le_of_ble_eq_true rfl, Nat.le_of_ble_eq_true rfl⟩ ⟨Nat.le_of_ble_eq_true rfl, Nat.le_of_ble_eq_true rfl⟩ (Nat.le_of_ble_eq_true rfl) (Nat.le_of_ble_eq_true rfl) ⟨1, rfl, (by unfold kLower; rw [cif_neg (by first | grind | (simp only [ix, ej_p0, xv, xw]; grind)), cif_pos (by first | grind | (simp only [ix, ej_p0, xv, xw]; grind))])⟩
set_option maxHeartbeats 4000000 in
set_option maxRecDepth 100000 in
theorem c_X4_revoke {l : Launch} {E : gV} (hE : gOK l E) {α : Nat → Nat → Nat} {ξ : F2} {M : Nat → F2} {N : Nat → Nat} {B : Nat → Prop} (p0 : Int32) (hn : N 2 < 512) : gM l E yX4_revoke cX4_revoke 3 (some .int) ({ frames := 10, cells := 4, slots := 1030, locals := 255 } : Room) [.ref (α 3 0), .int p0] (fun H => RB E B α ξ M N H) (gQW (gAB E B) (gWi (fun r H => xPost E B (α 3 0) (kRevoke (xv ξ (M 0)) (N 0) p0) (papX ξ (N 2) 1 p0 (-1)) (tk (M 0) 1 p0 (-1)) (updN N 2 (N 2 + 1)) (r = nI (fCnt (fun t => fCome (xv ξ (M 0)) t (ix p0)) (N 0))) H))) (fun X => gCode ["java/lang/IndexOutOfBoundsException", "java/lang/IllegalStateException"] (kRevoke (xv ξ (M 0)) (N 0) p0) X) (gAB E B) := by
  refine gM_body hE (by decide +kernel) (Nat.le_of_ble_eq_true rfl) ?_
  intro p_ e_ s m args below meth c hC ht hr hname hP ls hl
  have hx := hC.2.2.1
  have hb := hC.2.2.2.1
  have hl : lv_has ls 3 [(0, .ref (α 3 0)), (1, .int p0)] := hl
  have hS : va_S ((gAB E B)) s.heap s.heap [] := va_S.rf
  have hRB : RB E B α ξ M N s.heap := hP
  have hR : RX E α ξ M N s.heap := hRB.1
  have hSr := hR.inv.src (M 0)
  obtain ⟨hN0, hN1, hN2, hN3, -, hHo, hDe⟩ := hR.inv
  have hAl : ∀ q, s.heap.size ≤ q → gAB E B q := fun q hq => hRB.al hq
  refine lv_aload_n hx hb dX4_revoke_0 rfl (lv_at hl 0 rfl) ?_
  refine lv_iload_n hx hb dX4_revoke_1 rfl (lv_at hl 1 rfl) ?_
  refine g_cRr (k2 := 1) (n2 := 6) (g_runV (rest := []) hC (c_X4_findPower hE (α := α) (ξ := ξ) (M := M) (N := N) p0) Y_X4_findPower k_834 I_X4_findPower V_X4_findPower hR.sig rfl hR rfl hl.1 dX4_revoke_2 ⟨Nat.le_of_ble_eq_true rfl, Nat.le_of_ble_eq_true rfl⟩ ⟨Nat.le_of_ble_eq_true rfl, Nat.le_of_ble_eq_true rfl⟩ rfl (Nat.le_of_ble_eq_true rfl)) rfl rfl (g_up hC ht (fun X h => ⟨0, by rw [h.1]; rfl, (by unfold kRevoke; rw [cif_pos (by first | grind | (simp only [ix, xv, xw]; grind))])⟩) (Nat.le_of_ble_eq_true rfl) (Nat.le_of_ble_eq_true rfl)) (fun r1_ h2_ => ?_)
  obtain ⟨g3_, rfl⟩ := h2_
  obtain ⟨j_p0, hj_p0, rfl⟩ := isP_of (n := N 0) (p := p0) g3_ (by omega)
  have ej_p0 : (nI j_p0).toNatClampNeg = j_p0 := nI_clamp (by omega)
  have ipj_p0 : isP (N 0) (nI j_p0) := isP_nI hj_p0 (by omega)
  rw [show ix (nI j_p0) = j_p0 from ej_p0]
  refine lv_astore_n (lv' := [(2, .ref (α 0 j_p0)), (0, .ref (α 3 0)), (1, .int (nI j_p0))]) hx hb dX4_revoke_5 rfl hl (by decide) rfl (fun ls hl => ?_)
  refine lv_aload_n hx hb dX4_revoke_6 rfl (lv_at hl 1 rfl) ?_
  refine g_get (v := .ref (α 3 4)) hC hR.sig (C := RX4) (T := TX4) (N := 6) rfl u4_in 3 (by decide) k_729 rfl dX4_revoke_7 ?_
  refine lv_aload_n hx hb dX4_revoke_10 rfl (lv_at hl 0 rfl) ?_
  refine g_cRi (k2 := 1) (n2 := 6) (g_runV (rest := []) hC (c_X1_isRevoked hE (α := α) (ξ := ξ) (M := M) (N := N) 0 (by decide) j_p0 (by omega)) Y_X1_isRevoked k_841 I_X1_isRevoked V_X1_isRevoked (hR.mom 0 (by decide)) rfl hR rfl hl.1 dX4_revoke_11 ⟨Nat.le_of_ble_eq_true rfl, Nat.le_of_ble_eq_true rfl⟩ ⟨Nat.le_of_ble_eq_true rfl, Nat.le_of_ble_eq_true rfl⟩ rfl (Nat.le_of_ble_eq_true rfl)) rfl rfl g_no (fun r4_ h5_ => ?_)
  refine lv_if_eq (tgt := 27) hx hb dX4_revoke_14 (by decide) (fun c6_ => ?_) (fun c6_ => ?_)
  · have q7_ := bz.f h5_ c6_
    refine lv_aload_n hx hb dX4_revoke_27 rfl (lv_at hl 1 rfl) ?_
    refine lv_iconst (v := 1) hx hb dX4_revoke_28 (by decide) ?_
    refine lv_iload_n hx hb dX4_revoke_29 rfl (lv_at hl 2 rfl) ?_
    refine lv_iconst (v := (-1)) hx hb dX4_revoke_30 (by decide) ?_
    refine g_cWv (k2 := 3) (n2 := 1009) (g_runV (rest := []) hC (c_X4_tell hE (α := α) (ξ := ξ) (M := M) (N := N) (B := B) 1 (nI j_p0) (-1) hn) Y_X4_tell k_141 I_X4_tell V_X4_tell hR.sig rfl hRB rfl hl.1 dX4_revoke_31 ⟨Nat.le_of_ble_eq_true rfl, Nat.le_of_ble_eq_true rfl⟩ ⟨Nat.le_of_ble_eq_true rfl, Nat.le_of_ble_eq_true rfl⟩ rfl (Nat.le_of_ble_eq_true rfl)) hS (fun _ h => h) rfl rfl (fun H lo h9_ _ _ hS => ?_)
    obtain ⟨xT, tT, hRB⟩ := h9_
    have hR := hRB.1
    refine lv_aload_n hx hb dX4_revoke_34 rfl (lv_at hl 1 rfl) ?_
    refine lv_aload_n hx hb dX4_revoke_35 rfl (lv_at hl 0 rfl) ?_
    refine g_cRi (k2 := 3) (n2 := 1009) (g_runV (rest := []) hC (c_X4_countPowersFrom hE (α := aAdd α 2 (N 2) xT tT) (ξ := papX ξ (N 2) 1 (nI j_p0) (-1)) (M := updM M 0 (tk (M 0) 1 (nI j_p0) (-1))) (N := updN N 2 (N 2 + 1)) j_p0 hj_p0) Y_X4_countPowersFrom k_871 I_X4_countPowersFrom V_X4_countPowersFrom hR.sig rfl hR rfl hl.1 dX4_revoke_36 ⟨Nat.le_of_ble_eq_true rfl, Nat.le_of_ble_eq_true rfl⟩ ⟨Nat.le_of_ble_eq_true rfl, Nat.le_of_ble_eq_true rfl⟩ rfl (Nat.le_of_ble_eq_true rfl)) rfl rfl g_no (fun r10_ h11_ => ?_)
    have hcn : r10_ = nI (fCnt (fun t => fCome (xv ξ (M 0)) t j_p0) (N 0)) := h11_.trans (congrArg nI (fCnt_congr (fun t _ => fCome_congr (v := xv (papX ξ (N 2) 1 (nI j_p0) (-1)) ((updM M 0 (tk (M 0) 1 (nI j_p0) (-1))) 0)) (v' := xv ξ (M 0)) (fun _ => rfl) t _)))
    exact g_iretW hC hr dX4_revoke_39 hS (Nat.le_of_ble_eq_true rfl) (Nat.le_of_ble_eq_true rfl) (xPost_0 (by unfold kRevoke; rw [cif_neg (by first | grind | (simp only [ix, ej_p0, xv, xw]; grind)), cif_neg (by first | grind | (simp only [ix, ej_p0, xv, xw]; grind))]) hRB (by first | rfl | exact updM_s | simp only [ix, ej_p0, updM_s]) (by first | rfl | exact ha2) (by first | rfl | simp only [ix, ej_p0]) rfl ((by first | exact hcn | (simp only [ix, ej_p0]; exact hcn))))
  · have q7_ := bz.t h5_ c6_
    exact g_throw hC ht hR.frz th_36 k_842 sx_125 hl.1 dX4_revoke_17 dX4_revoke_20 dX4_revoke_21 dX4_revoke_23 dX4_revoke_26 ⟨Nat.le_of_ble_eq_true rfl, Nat.le_of_ble_eq_true rfl⟩ ⟨Nat.le_of_ble_eq_true rfl, Nat.le_of_ble_eq_true rfl⟩ (Nat.le_of_ble_eq_true rfl) (Nat.le_of_ble_eq_true rfl) ⟨1, rfl, (by unfold kRevoke; rw [cif_neg (by first | grind | (simp only [ix, ej_p0, xv, xw]; grind)), cif_pos (by first | grind | (simp only [ix, ej_p0, xv, xw]; grind))])⟩
