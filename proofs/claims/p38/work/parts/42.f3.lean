set_option maxHeartbeats 4000000 in
set_option maxRecDepth 100000 in
theorem c_X4_sign {l : Launch} {E : gV} (hE : gOK l E) {α : Nat → Nat → Nat} {ξ : F2} {M : Nat → F2} {N : Nat → Nat} {B : Nat → Prop} (p0 : Int32) (k0 : Int32) (a0 : Int32) (pa0 : Int32) : gM l E yX4_sign cX4_sign 5 (some .int) ({ frames := 10, cells := 8, slots := 1060, locals := 252 } : Room) [.ref (α 3 0), .int p0, .int k0, .int a0, .int pa0] (fun H => RB E B α ξ M N H) (gQW (gAB E B) (gWi (fun r H => xPost E B (α 3 0) (kSign (N 3) (N 1) p0 k0 a0 pa0) (deedX ξ (N 1) (kDeed ξ M N (ddV p0 (-1) k0 a0 pa0))) (M 0) (updN N 1 (N 1 + 1)) (r = nI (N 1)) H))) (fun X => gCode ["java/lang/IndexOutOfBoundsException", "java/lang/IllegalArgumentException", "java/lang/IllegalStateException"] (kSign (N 3) (N 1) p0 k0 a0 pa0) X) (gAB E B) := by
  refine gM_body hE (by decide +kernel) (Nat.le_of_ble_eq_true rfl) ?_
  intro p_ e_ s m args below meth c hC ht hr hname hP ls hl
  have hx := hC.2.2.1
  have hb := hC.2.2.2.1
  have hl : lv_has ls 5 [(0, .ref (α 3 0)), (1, .int p0), (2, .int k0), (3, .int a0), (4, .int pa0)] := hl
  have hS : va_S ((gAB E B)) s.heap s.heap [] := va_S.rf
  have hRB : RB E B α ξ M N s.heap := hP
  have hR : RX E α ξ M N s.heap := hRB.1
  have hSr := hR.inv.src (M 0)
  obtain ⟨hN0, hN1, hN2, hN3, -, hHo, hDe⟩ := hR.inv
  have hAl : ∀ q, s.heap.size ≤ q → gAB E B q := fun q hq => hRB.al hq
  refine lv_aload_n hx hb dX4_sign_0 rfl (lv_at hl 0 rfl) ?_
  refine lv_iload_n hx hb dX4_sign_1 rfl (lv_at hl 1 rfl) ?_
  refine g_cRv (k2 := 1) (n2 := 6) (g_runV (rest := []) hC (c_X4_requirePerson hE (α := α) (ξ := ξ) (M := M) (N := N) p0) Y_X4_requirePerson k_36 I_X4_requirePerson V_X4_requirePerson hR.sig rfl hR rfl hl.1 dX4_sign_2 ⟨Nat.le_of_ble_eq_true rfl, Nat.le_of_ble_eq_true rfl⟩ ⟨Nat.le_of_ble_eq_true rfl, Nat.le_of_ble_eq_true rfl⟩ rfl (Nat.le_of_ble_eq_true rfl)) rfl rfl (g_up hC ht (fun X h => ⟨0, by rw [h.1]; rfl, (by unfold kSign; rw [cif_pos (by first | grind | (simp only [ix, xv, xw]; grind))])⟩) (Nat.le_of_ble_eq_true rfl) (Nat.le_of_ble_eq_true rfl)) (fun h2_ => ?_)
  refine lv_iload_n hx hb dX4_sign_5 rfl (lv_at hl 2 rfl) ?_
  refine lv_iload_n hx hb dX4_sign_6 rfl (lv_at hl 3 rfl) ?_
  refine lv_iload hx hb dX4_sign_7 (lv_at hl 4 rfl) ?_
  refine g_cRv (k2 := 3) (n2 := 18) (g_runS (rest := []) hC (c_X4_requireDealing hE  k0 a0 pa0) Y_X4_requireDealing k_277 S_X4_requireDealing hR.frz rfl hl.1 dX4_sign_9 ⟨Nat.le_of_ble_eq_true rfl, Nat.le_of_ble_eq_true rfl⟩ ⟨Nat.le_of_ble_eq_true rfl, Nat.le_of_ble_eq_true rfl⟩ rfl (Nat.le_of_ble_eq_true rfl)) rfl rfl (g_up hC ht (fun X h => ⟨1, by rw [h.1]; rfl, (by unfold kSign; rw [cif_neg (by first | grind | (simp only [ix, xv, xw]; grind)), cif_pos (by first | grind | (simp only [ix, xv, xw]; grind))])⟩) (Nat.le_of_ble_eq_true rfl) (Nat.le_of_ble_eq_true rfl)) (fun h4_ => ?_)
  refine lv_aload_n hx hb dX4_sign_12 rfl (lv_at hl 0 rfl) ?_
  refine g_cRv (k2 := 4) (n2 := 24) (g_runV (rest := []) hC (c_X4_requireRoomForDeed hE (α := α) (ξ := ξ) (M := M) (N := N) ) Y_X4_requireRoomForDeed k_289 I_X4_requireRoomForDeed V_X4_requireRoomForDeed hR.sig rfl hR rfl hl.1 dX4_sign_13 ⟨Nat.le_of_ble_eq_true rfl, Nat.le_of_ble_eq_true rfl⟩ ⟨Nat.le_of_ble_eq_true rfl, Nat.le_of_ble_eq_true rfl⟩ rfl (Nat.le_of_ble_eq_true rfl)) rfl rfl (g_up hC ht (fun X h => ⟨2, by rw [h.1]; rfl, (by unfold kSign; rw [cif_neg (by first | grind | (simp only [ix, xv, xw]; grind)), cif_neg (by first | grind | (simp only [ix, xv, xw]; grind)), cif_pos (by first | grind | (simp only [ix, xv, xw]; grind))])⟩) (Nat.le_of_ble_eq_true rfl) (Nat.le_of_ble_eq_true rfl)) (fun h6_ => ?_)
  refine lv_aload_n hx hb dX4_sign_16 rfl (lv_at hl 0 rfl) ?_
  obtain ⟨j_p0, hj_p0, rfl⟩ := isP_of (n := N 3) (p := p0) (by assumption) (by omega)
  have ej_p0 : (nI j_p0).toNatClampNeg = j_p0 := nI_clamp (by omega)
  have ipj_p0 : isP (N 3) (nI j_p0) := isP_nI hj_p0 (by omega)
  obtain ⟨x, hx_⟩ : ∃ x, x = s.heap.size := ⟨_, rfl⟩
  refine g_nwo (q := x) (ci := 1) hx_.symm hC rfl u0_in tyX0 tyX0_ok k_294 k_295 k_22 bl0_ok hS hAl (Nat.le_of_ble_eq_true rfl) (Nat.le_of_ble_eq_true rfl) dX4_sign_17 (fun H hB hz_ ho_ hS => ?_)
  have hxE : E.2.1.heap.size ≤ x := by have := gFz.le hR.frz; omega
  have hxn := hR.notV (x := x) (by omega)
  have hxB : ¬ B x := fun z => by have := hRB.2.2 x z; omega
  have hRB := hRB.keep (by omega) (fun q hq => ho_ q (by omega))
  have hR := hRB.1
  have hxl : x < H.size := by omega
  refine lv_dup hx hb dX4_sign_20 rfl ?_
  refine lv_aload_n hx hb dX4_sign_21 rfl (lv_at hl 0 rfl) ?_
  refine g_get (v := .ref (α 3 2)) hC hR.sig (C := RX4) (T := TX4) (N := 6) rfl u4_in 1 (by decide) k_727 rfl dX4_sign_22 ?_
  refine g_cRFi (k2 := 5) (n2 := 40) (g_runF (rest := [.ref x, .ref x, .ref (α 3 0)]) hC (c_Jx4a65c_size_8abf5 hE (α 3 2) (α 3 (14 + 1)) (N 1) (α 1)) Y_Jx4a65c_size_8abf5 k_165 F_Jx4a65c_size_8abf5 (hR.list 1 (by decide)).rcv rfl (hR.list 1 (by decide)) rfl hl.1 dX4_sign_25 ⟨Nat.le_of_ble_eq_true rfl, Nat.le_of_ble_eq_true rfl⟩ ⟨Nat.le_of_ble_eq_true rfl, Nat.le_of_ble_eq_true rfl⟩ rfl (Nat.le_of_ble_eq_true rfl)) rfl rfl g_no (fun r7_ h8_ => ?_)
  obtain rfl := h8_
  refine lv_iload_n hx hb dX4_sign_30 rfl (lv_at hl 1 rfl) ?_
  refine lv_iconst (v := (-1)) hx hb dX4_sign_31 (by decide) ?_
  refine lv_iload_n hx hb dX4_sign_32 rfl (lv_at hl 2 rfl) ?_
  refine lv_iload_n hx hb dX4_sign_33 rfl (lv_at hl 3 rfl) ?_
  refine lv_iload hx hb dX4_sign_34 (lv_at hl 4 rfl) ?_
  refine g_cWv (k2 := 5) (n2 := 40) (g_runI (rest := [.ref x, .ref (α 3 0)]) hC (c_X0_init hE x (N 1) (nI j_p0) (-1) k0 a0 pa0) Y_X0_init k_296 I_X0_init rfl hB rfl hl.1 dX4_sign_36 ⟨Nat.le_of_ble_eq_true rfl, Nat.le_of_ble_eq_true rfl⟩ ⟨Nat.le_of_ble_eq_true rfl, Nat.le_of_ble_eq_true rfl⟩ rfl (Nat.le_of_ble_eq_true rfl)) hS (fun q h => by rw [h]; exact ⟨hxE, hxB⟩) rfl rfl (fun H lo h10_ hz_ hk_ hS => ?_)
  have hB := h10_
  have hRB := hRB.keepN hxn hxE hz_ (fun q h1 h2 => hk_ q h1 h2)
  have hR := hRB.1
  have hxl : x < H.size := by omega
  refine g_cWi (k2 := 6) (n2 := 1040) (g_runV (rest := []) hC (c_X4_keepDeed hE (α := α) (ξ := ξ) (M := M) (N := N) (B := B) x hxE hxn hxB (ddV (nI j_p0) (-1) k0 a0 pa0) (by omega) ⟨_, hj_p0, rfl⟩ (Or.inl rfl) rfl rfl) Y_X4_keepDeed k_360 I_X4_keepDeed V_X4_keepDeed hR.sig rfl ⟨hRB, hB⟩ rfl hl.1 dX4_sign_39 ⟨Nat.le_of_ble_eq_true rfl, Nat.le_of_ble_eq_true rfl⟩ ⟨Nat.le_of_ble_eq_true rfl, Nat.le_of_ble_eq_true rfl⟩ rfl (Nat.le_of_ble_eq_true rfl)) hS (fun _ h => h) rfl rfl (fun r11_ H lo h12_ _ _ hS => ?_)
  obtain ⟨rfl, α2, ha2, hRB⟩ := h12_
  have hR := hRB.1
  exact g_iretW hC hr dX4_sign_42 hS (Nat.le_of_ble_eq_true rfl) (Nat.le_of_ble_eq_true rfl) (xPost_0 (by unfold kSign; rw [cif_neg (by first | grind | (simp only [ix, ej_p0, xv, xw]; grind)), cif_neg (by first | grind | (simp only [ix, ej_p0, xv, xw]; grind)), cif_neg (by first | grind | (simp only [ix, ej_p0, xv, xw]; grind))]) hRB (by first | rfl | exact updM_s | simp only [ix, ej_p0, updM_s]) (by first | rfl | exact ha2) (by first | rfl | simp only [ix, ej_p0]) rfl (rfl))
set_option maxHeartbeats 4000000 in
set_option maxRecDepth 100000 in
theorem c_X4_signTogether {l : Launch} {E : gV} (hE : gOK l E) {α : Nat → Nat → Nat} {ξ : F2} {M : Nat → F2} {N : Nat → Nat} {B : Nat → Prop} (p0 : Int32) (o0 : Int32) (k0 : Int32) (a0 : Int32) (pa0 : Int32) : gM l E yX4_signTogether cX4_signTogether 6 (some .int) ({ frames := 10, cells := 8, slots := 1060, locals := 252 } : Room) [.ref (α 3 0), .int p0, .int o0, .int k0, .int a0, .int pa0] (fun H => RB E B α ξ M N H) (gQW (gAB E B) (gWi (fun r H => xPost E B (α 3 0) (kSignT (N 3) (N 1) p0 o0 k0 a0 pa0) (deedX ξ (N 1) (kDeed ξ M N (ddV p0 o0 k0 a0 pa0))) (M 0) (updN N 1 (N 1 + 1)) (r = nI (N 1)) H))) (fun X => gCode ["java/lang/IndexOutOfBoundsException", "java/lang/IllegalArgumentException", "java/lang/UnsupportedOperationException", "java/lang/IllegalStateException"] (kSignT (N 3) (N 1) p0 o0 k0 a0 pa0) X) (gAB E B) := by
  refine gM_body hE (by decide +kernel) (Nat.le_of_ble_eq_true rfl) ?_
  intro p_ e_ s m args below meth c hC ht hr hname hP ls hl
  have hx := hC.2.2.1
  have hb := hC.2.2.2.1
  have hl : lv_has ls 6 [(0, .ref (α 3 0)), (1, .int p0), (2, .int o0), (3, .int k0), (4, .int a0), (5, .int pa0)] := hl
  have hS : va_S ((gAB E B)) s.heap s.heap [] := va_S.rf
  have hRB : RB E B α ξ M N s.heap := hP
  have hR : RX E α ξ M N s.heap := hRB.1
  have hSr := hR.inv.src (M 0)
  obtain ⟨hN0, hN1, hN2, hN3, -, hHo, hDe⟩ := hR.inv
  have hAl : ∀ q, s.heap.size ≤ q → gAB E B q := fun q hq => hRB.al hq
  refine lv_aload_n hx hb dX4_signTogether_0 rfl (lv_at hl 0 rfl) ?_
  refine lv_iload_n hx hb dX4_signTogether_1 rfl (lv_at hl 1 rfl) ?_
  refine g_cRv (k2 := 1) (n2 := 6) (g_runV (rest := []) hC (c_X4_requirePerson hE (α := α) (ξ := ξ) (M := M) (N := N) p0) Y_X4_requirePerson k_36 I_X4_requirePerson V_X4_requirePerson hR.sig rfl hR rfl hl.1 dX4_signTogether_2 ⟨Nat.le_of_ble_eq_true rfl, Nat.le_of_ble_eq_true rfl⟩ ⟨Nat.le_of_ble_eq_true rfl, Nat.le_of_ble_eq_true rfl⟩ rfl (Nat.le_of_ble_eq_true rfl)) rfl rfl (g_up hC ht (fun X h => ⟨0, by rw [h.1]; rfl, (by unfold kSignT; rw [cif_pos (by first | grind | (simp only [ix, xv, xw]; grind))])⟩) (Nat.le_of_ble_eq_true rfl) (Nat.le_of_ble_eq_true rfl)) (fun h2_ => ?_)
  refine lv_aload_n hx hb dX4_signTogether_5 rfl (lv_at hl 0 rfl) ?_
  refine lv_iload_n hx hb dX4_signTogether_6 rfl (lv_at hl 2 rfl) ?_
  refine g_cRv (k2 := 2) (n2 := 12) (g_runV (rest := []) hC (c_X4_requirePerson hE (α := α) (ξ := ξ) (M := M) (N := N) o0) Y_X4_requirePerson k_36 I_X4_requirePerson V_X4_requirePerson hR.sig rfl hR rfl hl.1 dX4_signTogether_7 ⟨Nat.le_of_ble_eq_true rfl, Nat.le_of_ble_eq_true rfl⟩ ⟨Nat.le_of_ble_eq_true rfl, Nat.le_of_ble_eq_true rfl⟩ rfl (Nat.le_of_ble_eq_true rfl)) rfl rfl (g_up hC ht (fun X h => ⟨0, by rw [h.1]; rfl, (by unfold kSignT; rw [cif_pos (by first | grind | (simp only [ix, xv, xw]; grind))])⟩) (Nat.le_of_ble_eq_true rfl) (Nat.le_of_ble_eq_true rfl)) (fun h4_ => ?_)
  refine lv_iload_n hx hb dX4_signTogether_10 rfl (lv_at hl 3 rfl) ?_
  refine lv_iload hx hb dX4_signTogether_11 (lv_at hl 4 rfl) ?_
  refine lv_iload hx hb dX4_signTogether_13 (lv_at hl 5 rfl) ?_
  refine g_cRv (k2 := 4) (n2 := 24) (g_runS (rest := []) hC (c_X4_requireDealing hE  k0 a0 pa0) Y_X4_requireDealing k_277 S_X4_requireDealing hR.frz rfl hl.1 dX4_signTogether_15 ⟨Nat.le_of_ble_eq_true rfl, Nat.le_of_ble_eq_true rfl⟩ ⟨Nat.le_of_ble_eq_true rfl, Nat.le_of_ble_eq_true rfl⟩ rfl (Nat.le_of_ble_eq_true rfl)) rfl rfl (g_up hC ht (fun X h => ⟨1, by rw [h.1]; rfl, (by unfold kSignT; rw [cif_neg (by first | grind | (simp only [ix, xv, xw]; grind)), cif_pos (by first | grind | (simp only [ix, xv, xw]; grind))])⟩) (Nat.le_of_ble_eq_true rfl) (Nat.le_of_ble_eq_true rfl)) (fun h6_ => ?_)
  refine lv_iload_n hx hb dX4_signTogether_18 rfl (lv_at hl 1 rfl) ?_
  refine lv_iload_n hx hb dX4_signTogether_19 rfl (lv_at hl 2 rfl) ?_
  refine g_cRv (k2 := 5) (n2 := 30) (g_runS (rest := []) hC (c_X4_requireTwo hE  p0 o0) Y_X4_requireTwo k_534 S_X4_requireTwo hR.frz rfl hl.1 dX4_signTogether_20 ⟨Nat.le_of_ble_eq_true rfl, Nat.le_of_ble_eq_true rfl⟩ ⟨Nat.le_of_ble_eq_true rfl, Nat.le_of_ble_eq_true rfl⟩ rfl (Nat.le_of_ble_eq_true rfl)) rfl rfl (g_up hC ht (fun X h => ⟨2, by rw [h.1]; rfl, (by unfold kSignT; rw [cif_neg (by first | grind | (simp only [ix, xv, xw]; grind)), cif_neg (by first | grind | (simp only [ix, xv, xw]; grind)), cif_pos (by first | grind | (simp only [ix, xv, xw]; grind))])⟩) (Nat.le_of_ble_eq_true rfl) (Nat.le_of_ble_eq_true rfl)) (fun h8_ => ?_)
  refine lv_aload_n hx hb dX4_signTogether_23 rfl (lv_at hl 0 rfl) ?_
  refine g_cRv (k2 := 6) (n2 := 36) (g_runV (rest := []) hC (c_X4_requireRoomForDeed hE (α := α) (ξ := ξ) (M := M) (N := N) ) Y_X4_requireRoomForDeed k_289 I_X4_requireRoomForDeed V_X4_requireRoomForDeed hR.sig rfl hR rfl hl.1 dX4_signTogether_24 ⟨Nat.le_of_ble_eq_true rfl, Nat.le_of_ble_eq_true rfl⟩ ⟨Nat.le_of_ble_eq_true rfl, Nat.le_of_ble_eq_true rfl⟩ rfl (Nat.le_of_ble_eq_true rfl)) rfl rfl (g_up hC ht (fun X h => ⟨3, by rw [h.1]; rfl, (by unfold kSignT; rw [cif_neg (by first | grind | (simp only [ix, xv, xw]; grind)), cif_neg (by first | grind | (simp only [ix, xv, xw]; grind)), cif_neg (by first | grind | (simp only [ix, xv, xw]; grind)), cif_pos (by first | grind | (simp only [ix, xv, xw]; grind))])⟩) (Nat.le_of_ble_eq_true rfl) (Nat.le_of_ble_eq_true rfl)) (fun h10_ => ?_)
  obtain ⟨j_p0, hj_p0, rfl⟩ := isP_of (n := N 3) (p := p0) (by assumption) (by omega)
  have ej_p0 : (nI j_p0).toNatClampNeg = j_p0 := nI_clamp (by omega)
  have ipj_p0 : isP (N 3) (nI j_p0) := isP_nI hj_p0 (by omega)
  obtain ⟨j_o0, hj_o0, rfl⟩ := isP_of (n := N 3) (p := o0) (by assumption) (by omega)
  have ej_o0 : (nI j_o0).toNatClampNeg = j_o0 := nI_clamp (by omega)
  have ipj_o0 : isP (N 3) (nI j_o0) := isP_nI hj_o0 (by omega)
  refine lv_aload_n hx hb dX4_signTogether_27 rfl (lv_at hl 0 rfl) ?_
  obtain ⟨x, hx_⟩ : ∃ x, x = s.heap.size := ⟨_, rfl⟩
  refine g_nwo (q := x) (ci := 1) hx_.symm hC rfl u0_in tyX0 tyX0_ok k_294 k_295 k_22 bl0_ok hS hAl (Nat.le_of_ble_eq_true rfl) (Nat.le_of_ble_eq_true rfl) dX4_signTogether_28 (fun H hB hz_ ho_ hS => ?_)
  have hxE : E.2.1.heap.size ≤ x := by have := gFz.le hR.frz; omega
  have hxn := hR.notV (x := x) (by omega)
  have hxB : ¬ B x := fun z => by have := hRB.2.2 x z; omega
  have hRB := hRB.keep (by omega) (fun q hq => ho_ q (by omega))
  have hR := hRB.1
  have hxl : x < H.size := by omega
  refine lv_dup hx hb dX4_signTogether_31 rfl ?_
  refine lv_aload_n hx hb dX4_signTogether_32 rfl (lv_at hl 0 rfl) ?_
  refine g_get (v := .ref (α 3 2)) hC hR.sig (C := RX4) (T := TX4) (N := 6) rfl u4_in 1 (by decide) k_727 rfl dX4_signTogether_33 ?_
  refine g_cRFi (k2 := 7) (n2 := 52) (g_runF (rest := [.ref x, .ref x, .ref (α 3 0)]) hC (c_Jx4a65c_size_8abf5 hE (α 3 2) (α 3 (14 + 1)) (N 1) (α 1)) Y_Jx4a65c_size_8abf5 k_165 F_Jx4a65c_size_8abf5 (hR.list 1 (by decide)).rcv rfl (hR.list 1 (by decide)) rfl hl.1 dX4_signTogether_36 ⟨Nat.le_of_ble_eq_true rfl, Nat.le_of_ble_eq_true rfl⟩ ⟨Nat.le_of_ble_eq_true rfl, Nat.le_of_ble_eq_true rfl⟩ rfl (Nat.le_of_ble_eq_true rfl)) rfl rfl g_no (fun r11_ h12_ => ?_)
  obtain rfl := h12_
  refine lv_iload_n hx hb dX4_signTogether_41 rfl (lv_at hl 1 rfl) ?_
  refine lv_iload_n hx hb dX4_signTogether_42 rfl (lv_at hl 2 rfl) ?_
  refine lv_iload_n hx hb dX4_signTogether_43 rfl (lv_at hl 3 rfl) ?_
  refine lv_iload hx hb dX4_signTogether_44 (lv_at hl 4 rfl) ?_
  refine lv_iload hx hb dX4_signTogether_46 (lv_at hl 5 rfl) ?_
  refine g_cWv (k2 := 7) (n2 := 52) (g_runI (rest := [.ref x, .ref (α 3 0)]) hC (c_X0_init hE x (N 1) (nI j_p0) (nI j_o0) k0 a0 pa0) Y_X0_init k_296 I_X0_init rfl hB rfl hl.1 dX4_signTogether_48 ⟨Nat.le_of_ble_eq_true rfl, Nat.le_of_ble_eq_true rfl⟩ ⟨Nat.le_of_ble_eq_true rfl, Nat.le_of_ble_eq_true rfl⟩ rfl (Nat.le_of_ble_eq_true rfl)) hS (fun q h => by rw [h]; exact ⟨hxE, hxB⟩) rfl rfl (fun H lo h14_ hz_ hk_ hS => ?_)
  have hB := h14_
  have hRB := hRB.keepN hxn hxE hz_ (fun q h1 h2 => hk_ q h1 h2)
  have hR := hRB.1
  have hxl : x < H.size := by omega
  refine g_cWi (k2 := 8) (n2 := 1052) (g_runV (rest := []) hC (c_X4_keepDeed hE (α := α) (ξ := ξ) (M := M) (N := N) (B := B) x hxE hxn hxB (ddV (nI j_p0) (nI j_o0) k0 a0 pa0) (by omega) ⟨_, hj_p0, rfl⟩ (Or.inr ⟨_, hj_o0, rfl⟩) rfl rfl) Y_X4_keepDeed k_360 I_X4_keepDeed V_X4_keepDeed hR.sig rfl ⟨hRB, hB⟩ rfl hl.1 dX4_signTogether_51 ⟨Nat.le_of_ble_eq_true rfl, Nat.le_of_ble_eq_true rfl⟩ ⟨Nat.le_of_ble_eq_true rfl, Nat.le_of_ble_eq_true rfl⟩ rfl (Nat.le_of_ble_eq_true rfl)) hS (fun _ h => h) rfl rfl (fun r15_ H lo h16_ _ _ hS => ?_)
  obtain ⟨rfl, α2, ha2, hRB⟩ := h16_
  have hR := hRB.1
  exact g_iretW hC hr dX4_signTogether_54 hS (Nat.le_of_ble_eq_true rfl) (Nat.le_of_ble_eq_true rfl) (xPost_0 (by unfold kSignT; rw [cif_neg (by first | grind | (simp only [ix, ej_p0, ej_o0, xv, xw]; grind)), cif_neg (by first | grind | (simp only [ix, ej_p0, ej_o0, xv, xw]; grind)), cif_neg (by first | grind | (simp only [ix, ej_p0, ej_o0, xv, xw]; grind)), cif_neg (by first | grind | (simp only [ix, ej_p0, ej_o0, xv, xw]; grind))]) hRB (by first | rfl | exact updM_s | simp only [ix, ej_p0, ej_o0, updM_s]) (by first | rfl | exact ha2) (by first | rfl | simp only [ix, ej_p0, ej_o0]) rfl (rfl))
set_option maxHeartbeats 4000000 in
set_option maxRecDepth 100000 in
theorem c_X4_ratify {l : Launch} {E : gV} (hE : gOK l E) {α : Nat → Nat → Nat} {ξ : F2} {M : Nat → F2} {N : Nat → Nat} {B : Nat → Prop} (d0 : Int32) (p0 : Int32) : gM l E yX4_ratify cX4_ratify 4 (some .int) ({ frames := 9, cells := 4, slots := 30, locals := 161 } : Room) [.ref (α 3 0), .int d0, .int p0] (fun H => RB E B α ξ M N H) (gQW (gAB E B) (gWi (fun r H => xPost E B (α 3 0) (kRat (xv ξ (M 0)) (xw ξ) (M 0 5 0) (N 0) (N 1) (N 3) d0 p0) (up2 (up2 (up2 (up2 ξ 19 (ix d0) 114) 23 (ix d0) p0) 24 (ix d0) (M 0 5 0)) 25 (ix d0) (nI (N 2))) (M 0) (N) (r = ξ 18 (ix d0)) H))) (fun X => gCode ["java/lang/IndexOutOfBoundsException", "java/lang/IllegalStateException", "java/lang/UnsupportedOperationException"] (kRat (xv ξ (M 0)) (xw ξ) (M 0 5 0) (N 0) (N 1) (N 3) d0 p0) X) (gAB E B) := by
  refine gM_body hE (by decide +kernel) (Nat.le_of_ble_eq_true rfl) ?_
  intro p_ e_ s m args below meth c hC ht hr hname hP ls hl
  have hx := hC.2.2.1
  have hb := hC.2.2.2.1
  have hl : lv_has ls 4 [(0, .ref (α 3 0)), (1, .int d0), (2, .int p0)] := hl
  have hS : va_S ((gAB E B)) s.heap s.heap [] := va_S.rf
  have hRB : RB E B α ξ M N s.heap := hP
  have hR : RX E α ξ M N s.heap := hRB.1
  have hSr := hR.inv.src (M 0)
  obtain ⟨hN0, hN1, hN2, hN3, -, hHo, hDe⟩ := hR.inv
  have hAl : ∀ q, s.heap.size ≤ q → gAB E B q := fun q hq => hRB.al hq
  refine lv_aload_n hx hb dX4_ratify_0 rfl (lv_at hl 0 rfl) ?_
  refine lv_iload_n hx hb dX4_ratify_1 rfl (lv_at hl 1 rfl) ?_
  refine g_cRr (k2 := 1) (n2 := 6) (g_runV (rest := []) hC (c_X4_findDeed hE (α := α) (ξ := ξ) (M := M) (N := N) d0) Y_X4_findDeed k_561 I_X4_findDeed V_X4_findDeed hR.sig rfl hR rfl hl.1 dX4_ratify_2 ⟨Nat.le_of_ble_eq_true rfl, Nat.le_of_ble_eq_true rfl⟩ ⟨Nat.le_of_ble_eq_true rfl, Nat.le_of_ble_eq_true rfl⟩ rfl (Nat.le_of_ble_eq_true rfl)) rfl rfl (g_up hC ht (fun X h => ⟨0, by rw [h.1]; rfl, (by unfold kRat; rw [cif_pos (by first | grind | (simp only [ix, xv, xw]; grind))])⟩) (Nat.le_of_ble_eq_true rfl) (Nat.le_of_ble_eq_true rfl)) (fun r1_ h2_ => ?_)
  obtain ⟨g3_, rfl⟩ := h2_
  obtain ⟨j_d0, hj_d0, rfl⟩ := isP_of (n := N 1) (p := d0) g3_ (by omega)
  have ej_d0 : (nI j_d0).toNatClampNeg = j_d0 := nI_clamp (by omega)
  have ipj_d0 : isP (N 1) (nI j_d0) := isP_nI hj_d0 (by omega)
  rw [show ix (nI j_d0) = j_d0 from ej_d0]
  refine lv_astore_n (lv' := [(3, .ref (α 1 j_d0)), (0, .ref (α 3 0)), (1, .int (nI j_d0)), (2, .int p0)]) hx hb dX4_ratify_5 rfl hl (by decide) rfl (fun ls hl => ?_)
  refine lv_aload_n hx hb dX4_ratify_6 rfl (lv_at hl 1 rfl) ?_
  refine lv_iload_n hx hb dX4_ratify_7 rfl (lv_at hl 3 rfl) ?_
  refine g_cRv (k2 := 2) (n2 := 12) (g_runV (rest := []) hC (c_X4_requirePerson hE (α := α) (ξ := ξ) (M := M) (N := N) p0) Y_X4_requirePerson k_36 I_X4_requirePerson V_X4_requirePerson hR.sig rfl hR rfl hl.1 dX4_ratify_8 ⟨Nat.le_of_ble_eq_true rfl, Nat.le_of_ble_eq_true rfl⟩ ⟨Nat.le_of_ble_eq_true rfl, Nat.le_of_ble_eq_true rfl⟩ rfl (Nat.le_of_ble_eq_true rfl)) rfl rfl (g_up hC ht (fun X h => ⟨0, by rw [h.1]; rfl, (by unfold kRat; rw [cif_pos (by first | grind | (simp only [ix, ej_d0, xv, xw]; grind))])⟩) (Nat.le_of_ble_eq_true rfl) (Nat.le_of_ble_eq_true rfl)) (fun h5_ => ?_)
  refine lv_aload_n hx hb dX4_ratify_11 rfl (lv_at hl 0 rfl) ?_
  refine g_cRv (k2 := 3) (n2 := 18) (g_runS (rest := []) hC (c_X4_requireWaiting hE (α := α) (ξ := ξ) (M := M) (N := N) j_d0 (by omega)) Y_X4_requireWaiting k_566 S_X4_requireWaiting hR rfl hl.1 dX4_ratify_12 ⟨Nat.le_of_ble_eq_true rfl, Nat.le_of_ble_eq_true rfl⟩ ⟨Nat.le_of_ble_eq_true rfl, Nat.le_of_ble_eq_true rfl⟩ rfl (Nat.le_of_ble_eq_true rfl)) rfl rfl (g_up hC ht (fun X h => ⟨1, by rw [h.1]; rfl, (by unfold kRat; rw [cif_neg (by first | grind | (simp only [ix, ej_d0, xv, xw]; grind)), cif_pos (by first | grind | (simp only [ix, ej_d0, xv, xw]; grind))])⟩) (Nat.le_of_ble_eq_true rfl) (Nat.le_of_ble_eq_true rfl)) (fun h7_ => ?_)
  refine lv_aload_n hx hb dX4_ratify_15 rfl (lv_at hl 1 rfl) ?_
  refine lv_iload_n hx hb dX4_ratify_16 rfl (lv_at hl 3 rfl) ?_
  refine lv_aload_n hx hb dX4_ratify_17 rfl (lv_at hl 0 rfl) ?_
  refine g_get (v := .int (ξ 13 j_d0)) hC (hR.deed (i := j_d0) (by omega)) (C := RX0) (T := TX0) (N := 16) rfl u0_in 3 (by decide) k_308 rfl dX4_ratify_18 ?_
  refine lv_aload_n hx hb dX4_ratify_21 rfl (lv_at hl 0 rfl) ?_
  refine g_get (v := .int (ξ 18 j_d0)) hC (hR.deed (i := j_d0) (by omega)) (C := RX0) (T := TX0) (N := 16) rfl u0_in 8 (by decide) k_315 rfl dX4_ratify_22 ?_
  refine lv_aload_n hx hb dX4_ratify_25 rfl (lv_at hl 1 rfl) ?_
  refine g_get (v := .ref (α 3 4)) hC hR.sig (C := RX4) (T := TX4) (N := 6) rfl u4_in 3 (by decide) k_729 rfl dX4_ratify_26 ?_
  refine g_cRi (k2 := 3) (n2 := 18) (g_runV (rest := []) hC (c_X4_signsAlone hE (α := α) (ξ := ξ) (M := M) (N := N) p0 (ξ 13 j_d0) (ξ 18 j_d0) 0 (by decide)) Y_X4_signsAlone k_570 I_X4_signsAlone V_X4_signsAlone hR.sig rfl hR rfl hl.1 dX4_ratify_29 ⟨Nat.le_of_ble_eq_true rfl, Nat.le_of_ble_eq_true rfl⟩ ⟨Nat.le_of_ble_eq_true rfl, Nat.le_of_ble_eq_true rfl⟩ rfl (Nat.le_of_ble_eq_true rfl)) rfl rfl g_no (fun r8_ h9_ => ?_)
  refine lv_if_ne (tgt := 45) hx hb dX4_ratify_32 (by decide) (fun c10_ => ?_) (fun c10_ => ?_)
  · have q11_ := bz.t h9_ c10_
    refine lv_aload_n hx hb dX4_ratify_45 rfl (lv_at hl 0 rfl) ?_
    refine lv_bipush (v := 114) hx hb dX4_ratify_46 (by decide) ?_
    refine x_putK (ξ := ξ) (y := 114) (i := j_d0) 9 (by decide) (by decide) (by omega) hC hRB hS k_317 rfl rfl rfl rfl dX4_ratify_48 (fun H lo hRB hS => ?_)
    have hR := hRB.1
    refine lv_aload_n hx hb dX4_ratify_51 rfl (lv_at hl 0 rfl) ?_
    refine lv_iload_n hx hb dX4_ratify_52 rfl (lv_at hl 3 rfl) ?_
    refine x_putK (ξ := up2 ξ 19 j_d0 114) (y := p0) (i := j_d0) 13 (by decide) (by decide) (by omega) hC hRB hS k_324 rfl rfl rfl rfl dX4_ratify_53 (fun H lo hRB hS => ?_)
    have hR := hRB.1
    refine lv_aload_n hx hb dX4_ratify_56 rfl (lv_at hl 0 rfl) ?_
    refine lv_aload_n hx hb dX4_ratify_57 rfl (lv_at hl 1 rfl) ?_
    refine g_get (v := .ref (α 3 4)) hC hR.sig (C := RX4) (T := TX4) (N := 6) rfl u4_in 3 (by decide) k_729 rfl dX4_ratify_58 ?_
    refine g_get (v := .int (M 0 5 0)) hC (hR.mom 0 (by decide)) (C := RX1) (T := TX1) (N := 6) rfl u1_in 5 (by decide) k_710 rfl dX4_ratify_61 ?_
    refine x_putK (ξ := up2 (up2 ξ 19 j_d0 114) 23 j_d0 p0) (y := M 0 5 0) (i := j_d0) 14 (by decide) (by decide) (by omega) hC hRB hS k_325 rfl rfl rfl rfl dX4_ratify_64 (fun H lo hRB hS => ?_)
    have hR := hRB.1
    refine lv_aload_n hx hb dX4_ratify_67 rfl (lv_at hl 0 rfl) ?_
    refine lv_aload_n hx hb dX4_ratify_68 rfl (lv_at hl 1 rfl) ?_
    refine g_get (v := .ref (α 3 3)) hC hR.sig (C := RX4) (T := TX4) (N := 6) rfl u4_in 2 (by decide) k_728 rfl dX4_ratify_69 ?_
    refine g_cRFi (k2 := 3) (n2 := 18) (g_runF (rest := [.ref (α 1 j_d0)]) hC (c_Jx4a65c_size_8abf5 hE (α 3 3) (α 3 (14 + 2)) (N 2) (α 2)) Y_Jx4a65c_size_8abf5 k_165 F_Jx4a65c_size_8abf5 (hR.list 2 (by decide)).rcv rfl (hR.list 2 (by decide)) rfl hl.1 dX4_ratify_72 ⟨Nat.le_of_ble_eq_true rfl, Nat.le_of_ble_eq_true rfl⟩ ⟨Nat.le_of_ble_eq_true rfl, Nat.le_of_ble_eq_true rfl⟩ rfl (Nat.le_of_ble_eq_true rfl)) rfl rfl g_no (fun r12_ h13_ => ?_)
    obtain rfl := h13_
    refine x_putK (ξ := up2 (up2 (up2 ξ 19 j_d0 114) 23 j_d0 p0) 24 j_d0 (M 0 5 0)) (y := nI (N 2)) (i := j_d0) 15 (by decide) (by decide) (by omega) hC hRB hS k_326 rfl rfl rfl rfl dX4_ratify_77 (fun H lo hRB hS => ?_)
    have hR := hRB.1
    refine lv_aload_n hx hb dX4_ratify_80 rfl (lv_at hl 0 rfl) ?_
    refine g_get (v := .int (ξ 18 j_d0)) hC (hR.deed (i := j_d0) (by omega)) (C := RX0) (T := TX0) (N := 16) rfl u0_in 8 (by decide) k_315 rfl dX4_ratify_81 ?_
    exact g_iretW hC hr dX4_ratify_84 hS (Nat.le_of_ble_eq_true rfl) (Nat.le_of_ble_eq_true rfl) (xPost_0 (by unfold kRat; rw [cif_neg (by first | grind | (simp only [ix, ej_d0, xv, xw]; grind)), cif_neg (by first | grind | (simp only [ix, ej_d0, xv, xw]; grind)), cif_neg (by first | grind | (simp only [ix, ej_d0, xv, xw]; grind))]) hRB (by first | rfl | exact updM_s | simp only [ix, ej_d0, updM_s]) (by first | rfl | exact ha2) (by first | rfl | simp only [ix, ej_d0]) rfl ((by first | rfl | simp only [ix, ej_d0])))
  · have q11_ := bz.f h9_ c10_
    exact g_throw hC ht hR.frz th_116 k_574 sx_213 hl.1 dX4_ratify_35 dX4_ratify_38 dX4_ratify_39 dX4_ratify_41 dX4_ratify_44 ⟨Nat.le_of_ble_eq_true rfl, Nat.le_of_ble_eq_true rfl⟩ ⟨Nat.le_of_ble_eq_true rfl, Nat.le_of_ble_eq_true rfl⟩ (Nat.le_of_ble_eq_true rfl) (Nat.le_of_ble_eq_true rfl) ⟨2, rfl, (by unfold kRat; rw [cif_neg (by first | grind | (simp only [ix, ej_d0, xv, xw]; grind)), cif_neg (by first | grind | (simp only [ix, ej_d0, xv, xw]; grind)), cif_pos (by first | grind | (simp only [ix, ej_d0, xv, xw]; grind))])⟩
set_option maxHeartbeats 4000000 in
set_option maxRecDepth 100000 in
theorem c_X4_annul {l : Launch} {E : gV} (hE : gOK l E) {α : Nat → Nat → Nat} {ξ : F2} {M : Nat → F2} {N : Nat → Nat} {B : Nat → Prop} (d0 : Int32) (hn : N 2 < 512) : gM l E yX4_annul cX4_annul 3 (some .int) ({ frames := 10, cells := 6, slots := 1040, locals := 255 } : Room) [.ref (α 3 0), .int d0] (fun H => RB E B α ξ M N H) (gQW (gAB E B) (gWi (fun r H => xPost E B (α 3 0) (kAnnul (xw ξ) (N 1) d0) (papX (up2 ξ 19 (ix d0) 110) (N 2) 4 d0 (-1)) (tk (M 0) 4 d0 (-1)) (updN N 2 (N 2 + 1)) (r = nI (fCnt (fun t => upd (ξ 19) (ix d0) 110 t = 119) (N 1))) H))) (fun X => gCode ["java/lang/IndexOutOfBoundsException", "java/lang/IllegalStateException"] (kAnnul (xw ξ) (N 1) d0) X) (gAB E B) := by
  refine gM_body hE (by decide +kernel) (Nat.le_of_ble_eq_true rfl) ?_
  intro p_ e_ s m args below meth c hC ht hr hname hP ls hl
  have hx := hC.2.2.1
  have hb := hC.2.2.2.1
  have hl : lv_has ls 3 [(0, .ref (α 3 0)), (1, .int d0)] := hl
  have hS : va_S ((gAB E B)) s.heap s.heap [] := va_S.rf
  have hRB : RB E B α ξ M N s.heap := hP
  have hR : RX E α ξ M N s.heap := hRB.1
  have hSr := hR.inv.src (M 0)
  obtain ⟨hN0, hN1, hN2, hN3, -, hHo, hDe⟩ := hR.inv
  have hAl : ∀ q, s.heap.size ≤ q → gAB E B q := fun q hq => hRB.al hq
  refine lv_aload_n hx hb dX4_annul_0 rfl (lv_at hl 0 rfl) ?_
  refine lv_iload_n hx hb dX4_annul_1 rfl (lv_at hl 1 rfl) ?_
  refine g_cRr (k2 := 1) (n2 := 6) (g_runV (rest := []) hC (c_X4_findDeed hE (α := α) (ξ := ξ) (M := M) (N := N) d0) Y_X4_findDeed k_561 I_X4_findDeed V_X4_findDeed hR.sig rfl hR rfl hl.1 dX4_annul_2 ⟨Nat.le_of_ble_eq_true rfl, Nat.le_of_ble_eq_true rfl⟩ ⟨Nat.le_of_ble_eq_true rfl, Nat.le_of_ble_eq_true rfl⟩ rfl (Nat.le_of_ble_eq_true rfl)) rfl rfl (g_up hC ht (fun X h => ⟨0, by rw [h.1]; rfl, (by unfold kAnnul; rw [cif_pos (by first | grind | (simp only [ix, xv, xw]; grind))])⟩) (Nat.le_of_ble_eq_true rfl) (Nat.le_of_ble_eq_true rfl)) (fun r1_ h2_ => ?_)
  obtain ⟨g3_, rfl⟩ := h2_
  obtain ⟨j_d0, hj_d0, rfl⟩ := isP_of (n := N 1) (p := d0) g3_ (by omega)
  have ej_d0 : (nI j_d0).toNatClampNeg = j_d0 := nI_clamp (by omega)
  have ipj_d0 : isP (N 1) (nI j_d0) := isP_nI hj_d0 (by omega)
  rw [show ix (nI j_d0) = j_d0 from ej_d0]
  refine lv_astore_n (lv' := [(2, .ref (α 1 j_d0)), (0, .ref (α 3 0)), (1, .int (nI j_d0))]) hx hb dX4_annul_5 rfl hl (by decide) rfl (fun ls hl => ?_)
  refine lv_aload_n hx hb dX4_annul_6 rfl (lv_at hl 0 rfl) ?_
  refine g_cRv (k2 := 2) (n2 := 12) (g_runS (rest := []) hC (c_X4_requireWaiting hE (α := α) (ξ := ξ) (M := M) (N := N) j_d0 (by omega)) Y_X4_requireWaiting k_566 S_X4_requireWaiting hR rfl hl.1 dX4_annul_7 ⟨Nat.le_of_ble_eq_true rfl, Nat.le_of_ble_eq_true rfl⟩ ⟨Nat.le_of_ble_eq_true rfl, Nat.le_of_ble_eq_true rfl⟩ rfl (Nat.le_of_ble_eq_true rfl)) rfl rfl (g_up hC ht (fun X h => ⟨1, by rw [h.1]; rfl, (by unfold kAnnul; rw [cif_neg (by first | grind | (simp only [ix, ej_d0, xv, xw]; grind)), cif_pos (by first | grind | (simp only [ix, ej_d0, xv, xw]; grind))])⟩) (Nat.le_of_ble_eq_true rfl) (Nat.le_of_ble_eq_true rfl)) (fun h5_ => ?_)
  refine lv_aload_n hx hb dX4_annul_10 rfl (lv_at hl 0 rfl) ?_
  refine lv_bipush (v := 110) hx hb dX4_annul_11 (by decide) ?_
  refine x_putK (ξ := ξ) (y := 110) (i := j_d0) 9 (by decide) (by decide) (by omega) hC hRB hS k_317 rfl rfl rfl rfl dX4_annul_13 (fun H lo hRB hS => ?_)
  have hR := hRB.1
  refine lv_aload_n hx hb dX4_annul_16 rfl (lv_at hl 1 rfl) ?_
  refine lv_iconst (v := 4) hx hb dX4_annul_17 (by decide) ?_
  refine lv_iload_n hx hb dX4_annul_18 rfl (lv_at hl 2 rfl) ?_
  refine lv_iconst (v := (-1)) hx hb dX4_annul_19 (by decide) ?_
  refine g_cWv (k2 := 4) (n2 := 1015) (g_runV (rest := []) hC (c_X4_tell hE (α := α) (ξ := up2 ξ 19 j_d0 110) (M := M) (N := N) (B := B) 4 (nI j_d0) (-1) hn) Y_X4_tell k_141 I_X4_tell V_X4_tell hR.sig rfl hRB rfl hl.1 dX4_annul_20 ⟨Nat.le_of_ble_eq_true rfl, Nat.le_of_ble_eq_true rfl⟩ ⟨Nat.le_of_ble_eq_true rfl, Nat.le_of_ble_eq_true rfl⟩ rfl (Nat.le_of_ble_eq_true rfl)) hS (fun _ h => h) rfl rfl (fun H lo h7_ _ _ hS => ?_)
  obtain ⟨xT, tT, hRB⟩ := h7_
  have hR := hRB.1
  refine lv_aload_n hx hb dX4_annul_23 rfl (lv_at hl 1 rfl) ?_
  refine g_cRi (k2 := 4) (n2 := 1015) (g_runV (rest := []) hC (c_X4_countWaiting hE (α := aAdd α 2 (N 2) xT tT) (ξ := papX (up2 ξ 19 j_d0 110) (N 2) 4 (nI j_d0) (-1)) (M := updM M 0 (tk (M 0) 4 (nI j_d0) (-1))) (N := updN N 2 (N 2 + 1))) Y_X4_countWaiting k_582 I_X4_countWaiting V_X4_countWaiting hR.sig rfl hR rfl hl.1 dX4_annul_24 ⟨Nat.le_of_ble_eq_true rfl, Nat.le_of_ble_eq_true rfl⟩ ⟨Nat.le_of_ble_eq_true rfl, Nat.le_of_ble_eq_true rfl⟩ rfl (Nat.le_of_ble_eq_true rfl)) rfl rfl g_no (fun r8_ h9_ => ?_)
  have hcn : r8_ = nI (fCnt (fun t => upd (ξ 19) j_d0 110 t = 119) (N 1)) := h9_
  exact g_iretW hC hr dX4_annul_27 hS (Nat.le_of_ble_eq_true rfl) (Nat.le_of_ble_eq_true rfl) (xPost_0 (by unfold kAnnul; rw [cif_neg (by first | grind | (simp only [ix, ej_d0, xv, xw]; grind)), cif_neg (by first | grind | (simp only [ix, ej_d0, xv, xw]; grind))]) hRB (by first | rfl | exact updM_s | simp only [ix, ej_d0, updM_s]) (by first | rfl | exact ha2) (by first | rfl | simp only [ix, ej_d0]) rfl ((by first | exact hcn | (simp only [ix, ej_d0]; exact hcn))))
set_option maxHeartbeats 4000000 in
set_option maxRecDepth 100000 in
theorem c_X4_status {l : Launch} {E : gV} (hE : gOK l E) {α : Nat → Nat → Nat} {ξ : F2} {M : Nat → F2} {N : Nat → Nat} (d0 : Int32) (hch : ∀ i, i < N 1 → narrow .char (.int (ξ 19 i)) = .int (ξ 19 i)) : gM l E yX4_status cX4_status 2 (some .char) ({ frames := 9, cells := 1, slots := 6, locals := 161 } : Room) [.ref (α 3 0), .int d0] (fun H => RX E α ξ M N H) (gQR (gPi (fun r => kPow (N 1) d0 = 0 ∧ (r = ξ 19 (ix d0))))) (fun X => gCode ["java/lang/IndexOutOfBoundsException"] (kPow (N 1) d0) X) gN := by
  refine gM_body hE (by decide +kernel) (Nat.le_of_ble_eq_true rfl) ?_
  intro p_ e_ s m args below meth c hC ht hr hname hP ls hl
  have hx := hC.2.2.1
  have hb := hC.2.2.2.1
  have hl : lv_has ls 2 [(0, .ref (α 3 0)), (1, .int d0)] := hl
  have hR : RX E α ξ M N s.heap := hP
  have hSr := hR.inv.src (M 0)
  obtain ⟨hN0, hN1, hN2, hN3, -, hHo, hDe⟩ := hR.inv
  refine lv_aload_n hx hb dX4_status_0 rfl (lv_at hl 0 rfl) ?_
  refine lv_iload_n hx hb dX4_status_1 rfl (lv_at hl 1 rfl) ?_
  refine g_cRr (k2 := 1) (n2 := 6) (g_runV (rest := []) hC (c_X4_findDeed hE (α := α) (ξ := ξ) (M := M) (N := N) d0) Y_X4_findDeed k_561 I_X4_findDeed V_X4_findDeed hR.sig rfl hR rfl hl.1 dX4_status_2 ⟨Nat.le_of_ble_eq_true rfl, Nat.le_of_ble_eq_true rfl⟩ ⟨Nat.le_of_ble_eq_true rfl, Nat.le_of_ble_eq_true rfl⟩ rfl (Nat.le_of_ble_eq_true rfl)) rfl rfl (g_up hC ht (fun X h => ⟨0, by rw [h.1]; rfl, (by unfold kPow; rw [cif_pos (by first | grind | (simp only [ix, xv, xw]; grind))])⟩) (Nat.le_of_ble_eq_true rfl) (Nat.le_of_ble_eq_true rfl)) (fun r1_ h2_ => ?_)
  obtain ⟨g3_, rfl⟩ := h2_
  obtain ⟨j_d0, hj_d0, rfl⟩ := isP_of (n := N 1) (p := d0) g3_ (by omega)
  have ej_d0 : (nI j_d0).toNatClampNeg = j_d0 := nI_clamp (by omega)
  have ipj_d0 : isP (N 1) (nI j_d0) := isP_nI hj_d0 (by omega)
  rw [show ix (nI j_d0) = j_d0 from ej_d0]
  refine g_get (v := .int (ξ 19 j_d0)) hC (hR.deed (i := j_d0) (by omega)) (C := RX0) (T := TX0) (N := 16) rfl u0_in 9 (by decide) k_317 rfl dX4_status_5 ?_
  exact g_zret hC hr (hch _ (by omega)) dX4_status_8 (Nat.le_of_ble_eq_true rfl) (Nat.le_of_ble_eq_true rfl) ⟨(by unfold kPow; rw [cif_neg (by first | grind | (simp only [ix, ej_d0, xv, xw]; grind))]), (by first | rfl | simp only [ix, ej_d0])⟩
set_option maxHeartbeats 4000000 in
set_option maxRecDepth 100000 in
theorem c_X4_sum {l : Launch} {E : gV} (hE : gOK l E) {α : Nat → Nat → Nat} {ξ : F2} {M : Nat → F2} {N : Nat → Nat} (d0 : Int32) : gM l E yX4_sum cX4_sum 2 (some .int) ({ frames := 9, cells := 1, slots := 6, locals := 161 } : Room) [.ref (α 3 0), .int d0] (fun H => RX E α ξ M N H) (gQR (gPi (fun r => kPow (N 1) d0 = 0 ∧ (r = ξ 18 (ix d0))))) (fun X => gCode ["java/lang/IndexOutOfBoundsException"] (kPow (N 1) d0) X) gN := by
  refine gM_body hE (by decide +kernel) (Nat.le_of_ble_eq_true rfl) ?_
  intro p_ e_ s m args below meth c hC ht hr hname hP ls hl
  have hx := hC.2.2.1
  have hb := hC.2.2.2.1
  have hl : lv_has ls 2 [(0, .ref (α 3 0)), (1, .int d0)] := hl
  have hR : RX E α ξ M N s.heap := hP
  have hSr := hR.inv.src (M 0)
  obtain ⟨hN0, hN1, hN2, hN3, -, hHo, hDe⟩ := hR.inv
  refine lv_aload_n hx hb dX4_sum_0 rfl (lv_at hl 0 rfl) ?_
  refine lv_iload_n hx hb dX4_sum_1 rfl (lv_at hl 1 rfl) ?_
  refine g_cRr (k2 := 1) (n2 := 6) (g_runV (rest := []) hC (c_X4_findDeed hE (α := α) (ξ := ξ) (M := M) (N := N) d0) Y_X4_findDeed k_561 I_X4_findDeed V_X4_findDeed hR.sig rfl hR rfl hl.1 dX4_sum_2 ⟨Nat.le_of_ble_eq_true rfl, Nat.le_of_ble_eq_true rfl⟩ ⟨Nat.le_of_ble_eq_true rfl, Nat.le_of_ble_eq_true rfl⟩ rfl (Nat.le_of_ble_eq_true rfl)) rfl rfl (g_up hC ht (fun X h => ⟨0, by rw [h.1]; rfl, (by unfold kPow; rw [cif_pos (by first | grind | (simp only [ix, xv, xw]; grind))])⟩) (Nat.le_of_ble_eq_true rfl) (Nat.le_of_ble_eq_true rfl)) (fun r1_ h2_ => ?_)
  obtain ⟨g3_, rfl⟩ := h2_
  obtain ⟨j_d0, hj_d0, rfl⟩ := isP_of (n := N 1) (p := d0) g3_ (by omega)
  have ej_d0 : (nI j_d0).toNatClampNeg = j_d0 := nI_clamp (by omega)
  have ipj_d0 : isP (N 1) (nI j_d0) := isP_nI hj_d0 (by omega)
  rw [show ix (nI j_d0) = j_d0 from ej_d0]
  refine g_get (v := .int (ξ 18 j_d0)) hC (hR.deed (i := j_d0) (by omega)) (C := RX0) (T := TX0) (N := 16) rfl u0_in 8 (by decide) k_315 rfl dX4_sum_5 ?_
  exact g_iret hC hr dX4_sum_8 (Nat.le_of_ble_eq_true rfl) (Nat.le_of_ble_eq_true rfl) ⟨(by unfold kPow; rw [cif_neg (by first | grind | (simp only [ix, ej_d0, xv, xw]; grind))]), (by first | rfl | simp only [ix, ej_d0])⟩
set_option maxHeartbeats 4000000 in
set_option maxRecDepth 100000 in
theorem c_X4_stands {l : Launch} {E : gV} (hE : gOK l E) {α : Nat → Nat → Nat} {ξ : F2} {M : Nat → F2} {N : Nat → Nat} (d0 : Int32) : gM l E yX4_stands cX4_stands 2 (some .boolean) ({ frames := 9, cells := 1, slots := 6, locals := 161 } : Room) [.ref (α 3 0), .int d0] (fun H => RX E α ξ M N H) (gQR (gPi (fun r => kPow (N 1) d0 = 0 ∧ (bz (isGd (ξ 19 (ix d0))) r)))) (fun X => gCode ["java/lang/IndexOutOfBoundsException"] (kPow (N 1) d0) X) gN := by
  refine gM_body hE (by decide +kernel) (Nat.le_of_ble_eq_true rfl) ?_
  intro p_ e_ s m args below meth c hC ht hr hname hP ls hl
  have hx := hC.2.2.1
  have hb := hC.2.2.2.1
  have hl : lv_has ls 2 [(0, .ref (α 3 0)), (1, .int d0)] := hl
  have hR : RX E α ξ M N s.heap := hP
  have hSr := hR.inv.src (M 0)
  obtain ⟨hN0, hN1, hN2, hN3, -, hHo, hDe⟩ := hR.inv
  refine lv_aload_n hx hb dX4_stands_0 rfl (lv_at hl 0 rfl) ?_
  refine lv_iload_n hx hb dX4_stands_1 rfl (lv_at hl 1 rfl) ?_
  refine g_cRr (k2 := 1) (n2 := 6) (g_runV (rest := []) hC (c_X4_findDeed hE (α := α) (ξ := ξ) (M := M) (N := N) d0) Y_X4_findDeed k_561 I_X4_findDeed V_X4_findDeed hR.sig rfl hR rfl hl.1 dX4_stands_2 ⟨Nat.le_of_ble_eq_true rfl, Nat.le_of_ble_eq_true rfl⟩ ⟨Nat.le_of_ble_eq_true rfl, Nat.le_of_ble_eq_true rfl⟩ rfl (Nat.le_of_ble_eq_true rfl)) rfl rfl (g_up hC ht (fun X h => ⟨0, by rw [h.1]; rfl, (by unfold kPow; rw [cif_pos (by first | grind | (simp only [ix, xv, xw]; grind))])⟩) (Nat.le_of_ble_eq_true rfl) (Nat.le_of_ble_eq_true rfl)) (fun r1_ h2_ => ?_)
  obtain ⟨g3_, rfl⟩ := h2_
  obtain ⟨j_d0, hj_d0, rfl⟩ := isP_of (n := N 1) (p := d0) g3_ (by omega)
  have ej_d0 : (nI j_d0).toNatClampNeg = j_d0 := nI_clamp (by omega)
  have ipj_d0 : isP (N 1) (nI j_d0) := isP_nI hj_d0 (by omega)
  rw [show ix (nI j_d0) = j_d0 from ej_d0]
  refine g_cRi (k2 := 1) (n2 := 6) (g_runV (rest := []) hC (c_X0_isStanding hE (α := α) (ξ := ξ) (M := M) (N := N) j_d0 (by omega)) Y_X0_isStanding k_650 I_X0_isStanding V_X0_isStanding (hR.deed (i := j_d0) (by omega)) rfl hR rfl hl.1 dX4_stands_5 ⟨Nat.le_of_ble_eq_true rfl, Nat.le_of_ble_eq_true rfl⟩ ⟨Nat.le_of_ble_eq_true rfl, Nat.le_of_ble_eq_true rfl⟩ rfl (Nat.le_of_ble_eq_true rfl)) rfl rfl g_no (fun r4_ h5_ => ?_)
  exact g_zret hC hr (bz.nar h5_) dX4_stands_8 (Nat.le_of_ble_eq_true rfl) (Nat.le_of_ble_eq_true rfl) ⟨(by unfold kPow; rw [cif_neg (by first | grind | (simp only [ix, ej_d0, xv, xw]; grind))]), (by first | exact h5_ | (simp only [ix, ej_d0]; exact h5_))⟩
set_option maxHeartbeats 4000000 in
set_option maxRecDepth 100000 in
theorem c_X4_lack {l : Launch} {E : gV} (hE : gOK l E) {α : Nat → Nat → Nat} {ξ : F2} {M : Nat → F2} {N : Nat → Nat} (d0 : Int32) (hch : ∀ i, i < N 1 → narrow .char (.int (ξ 20 i)) = .int (ξ 20 i)) : gM l E yX4_lack cX4_lack 3 (some .char) ({ frames := 9, cells := 2, slots := 12, locals := 161 } : Room) [.ref (α 3 0), .int d0] (fun H => RX E α ξ M N H) (gQR (gPi (fun r => kLackX (ξ 20) (N 1) d0 = 0 ∧ (r = ξ 20 (ix d0))))) (fun X => gCode ["java/lang/IndexOutOfBoundsException", "java/util/NoSuchElementException"] (kLackX (ξ 20) (N 1) d0) X) gN := by
  refine gM_body hE (by decide +kernel) (Nat.le_of_ble_eq_true rfl) ?_
  intro p_ e_ s m args below meth c hC ht hr hname hP ls hl
  have hx := hC.2.2.1
  have hb := hC.2.2.2.1
  have hl : lv_has ls 3 [(0, .ref (α 3 0)), (1, .int d0)] := hl
  have hR : RX E α ξ M N s.heap := hP
  have hSr := hR.inv.src (M 0)
  obtain ⟨hN0, hN1, hN2, hN3, -, hHo, hDe⟩ := hR.inv
  refine lv_aload_n hx hb dX4_lack_0 rfl (lv_at hl 0 rfl) ?_
  refine lv_iload_n hx hb dX4_lack_1 rfl (lv_at hl 1 rfl) ?_
  refine g_cRr (k2 := 1) (n2 := 6) (g_runV (rest := []) hC (c_X4_findDeed hE (α := α) (ξ := ξ) (M := M) (N := N) d0) Y_X4_findDeed k_561 I_X4_findDeed V_X4_findDeed hR.sig rfl hR rfl hl.1 dX4_lack_2 ⟨Nat.le_of_ble_eq_true rfl, Nat.le_of_ble_eq_true rfl⟩ ⟨Nat.le_of_ble_eq_true rfl, Nat.le_of_ble_eq_true rfl⟩ rfl (Nat.le_of_ble_eq_true rfl)) rfl rfl (g_up hC ht (fun X h => ⟨0, by rw [h.1]; rfl, (by unfold kLackX; rw [cif_pos (by first | grind | (simp only [ix, xv, xw]; grind))])⟩) (Nat.le_of_ble_eq_true rfl) (Nat.le_of_ble_eq_true rfl)) (fun r1_ h2_ => ?_)
  obtain ⟨g3_, rfl⟩ := h2_
  obtain ⟨j_d0, hj_d0, rfl⟩ := isP_of (n := N 1) (p := d0) g3_ (by omega)
  have ej_d0 : (nI j_d0).toNatClampNeg = j_d0 := nI_clamp (by omega)
  have ipj_d0 : isP (N 1) (nI j_d0) := isP_nI hj_d0 (by omega)
  rw [show ix (nI j_d0) = j_d0 from ej_d0]
  refine lv_astore_n (lv' := [(2, .ref (α 1 j_d0)), (0, .ref (α 3 0)), (1, .int (nI j_d0))]) hx hb dX4_lack_5 rfl hl (by decide) rfl (fun ls hl => ?_)
  refine lv_aload_n hx hb dX4_lack_6 rfl (lv_at hl 0 rfl) ?_
  refine g_get (v := .int (ξ 20 j_d0)) hC (hR.deed (i := j_d0) (by omega)) (C := RX0) (T := TX0) (N := 16) rfl u0_in 10 (by decide) k_319 rfl dX4_lack_7 ?_
  refine lv_bipush (v := 45) hx hb dX4_lack_10 (by decide) ?_
  refine lv_icmp_ne (tgt := 26) hx hb dX4_lack_12 (by decide) (fun c4_ => ?_) (fun c4_ => ?_)
  · refine lv_aload_n hx hb dX4_lack_26 rfl (lv_at hl 0 rfl) ?_
    refine g_get (v := .int (ξ 20 j_d0)) hC (hR.deed (i := j_d0) (by omega)) (C := RX0) (T := TX0) (N := 16) rfl u0_in 10 (by decide) k_319 rfl dX4_lack_27 ?_
    exact g_zret hC hr (hch _ (by omega)) dX4_lack_30 (Nat.le_of_ble_eq_true rfl) (Nat.le_of_ble_eq_true rfl) ⟨(by unfold kLackX; rw [cif_neg (by first | grind | (simp only [ix, ej_d0, xv, xw]; grind)), cif_neg (by first | grind | (simp only [ix, ej_d0, xv, xw]; grind))]), (by first | rfl | simp only [ix, ej_d0])⟩
  · exact g_throwNW hC ht hR.frz th_159 dNse_0 dNse_1 dNse_2 dNse_5 k_617 sx_258 hl.1 dX4_lack_15 dX4_lack_18 dX4_lack_19 dX4_lack_22 dX4_lack_25 ⟨Nat.le_of_ble_eq_true rfl, Nat.le_of_ble_eq_true rfl⟩ ⟨Nat.le_of_ble_eq_true rfl, Nat.le_of_ble_eq_true rfl⟩ (Nat.le_of_ble_eq_true rfl) (Nat.le_of_ble_eq_true rfl) ⟨1, rfl, (by unfold kLackX; rw [cif_neg (by first | grind | (simp only [ix, ej_d0, xv, xw]; grind)), cif_pos (by first | grind | (simp only [ix, ej_d0, xv, xw]; grind))])⟩
set_option maxHeartbeats 4000000 in
set_option maxRecDepth 100000 in
theorem c_X4_lackPower {l : Launch} {E : gV} (hE : gOK l E) {α : Nat → Nat → Nat} {ξ : F2} {M : Nat → F2} {N : Nat → Nat} (d0 : Int32) : gM l E yX4_lackPower cX4_lackPower 3 (some .int) ({ frames := 9, cells := 2, slots := 12, locals := 161 } : Room) [.ref (α 3 0), .int d0] (fun H => RX E α ξ M N H) (gQR (gPi (fun r => kLackY (ξ 20) (N 1) d0 = 0 ∧ (r = ξ 21 (ix d0))))) (fun X => gCode ["java/lang/IndexOutOfBoundsException", "java/util/NoSuchElementException"] (kLackY (ξ 20) (N 1) d0) X) gN := by
  refine gM_body hE (by decide +kernel) (Nat.le_of_ble_eq_true rfl) ?_
  intro p_ e_ s m args below meth c hC ht hr hname hP ls hl
  have hx := hC.2.2.1
  have hb := hC.2.2.2.1
  have hl : lv_has ls 3 [(0, .ref (α 3 0)), (1, .int d0)] := hl
  have hR : RX E α ξ M N s.heap := hP
  have hSr := hR.inv.src (M 0)
  obtain ⟨hN0, hN1, hN2, hN3, -, hHo, hDe⟩ := hR.inv
  refine lv_aload_n hx hb dX4_lackPower_0 rfl (lv_at hl 0 rfl) ?_
  refine lv_iload_n hx hb dX4_lackPower_1 rfl (lv_at hl 1 rfl) ?_
  refine g_cRr (k2 := 1) (n2 := 6) (g_runV (rest := []) hC (c_X4_findDeed hE (α := α) (ξ := ξ) (M := M) (N := N) d0) Y_X4_findDeed k_561 I_X4_findDeed V_X4_findDeed hR.sig rfl hR rfl hl.1 dX4_lackPower_2 ⟨Nat.le_of_ble_eq_true rfl, Nat.le_of_ble_eq_true rfl⟩ ⟨Nat.le_of_ble_eq_true rfl, Nat.le_of_ble_eq_true rfl⟩ rfl (Nat.le_of_ble_eq_true rfl)) rfl rfl (g_up hC ht (fun X h => ⟨0, by rw [h.1]; rfl, (by unfold kLackY; rw [cif_pos (by first | grind | (simp only [ix, xv, xw]; grind))])⟩) (Nat.le_of_ble_eq_true rfl) (Nat.le_of_ble_eq_true rfl)) (fun r1_ h2_ => ?_)
  obtain ⟨g3_, rfl⟩ := h2_
  obtain ⟨j_d0, hj_d0, rfl⟩ := isP_of (n := N 1) (p := d0) g3_ (by omega)
  have ej_d0 : (nI j_d0).toNatClampNeg = j_d0 := nI_clamp (by omega)
  have ipj_d0 : isP (N 1) (nI j_d0) := isP_nI hj_d0 (by omega)
  rw [show ix (nI j_d0) = j_d0 from ej_d0]
  refine lv_astore_n (lv' := [(2, .ref (α 1 j_d0)), (0, .ref (α 3 0)), (1, .int (nI j_d0))]) hx hb dX4_lackPower_5 rfl hl (by decide) rfl (fun ls hl => ?_)
  refine lv_aload_n hx hb dX4_lackPower_6 rfl (lv_at hl 0 rfl) ?_
  refine g_cRv (k2 := 2) (n2 := 12) (g_runS (rest := []) hC (c_X4_requireLackingPower hE (α := α) (ξ := ξ) (M := M) (N := N) j_d0 (by omega)) Y_X4_requireLackingPower k_925 S_X4_requireLackingPower hR rfl hl.1 dX4_lackPower_7 ⟨Nat.le_of_ble_eq_true rfl, Nat.le_of_ble_eq_true rfl⟩ ⟨Nat.le_of_ble_eq_true rfl, Nat.le_of_ble_eq_true rfl⟩ rfl (Nat.le_of_ble_eq_true rfl)) rfl rfl (g_up hC ht (fun X h => ⟨1, by rw [h.1]; rfl, (by unfold kLackY; rw [cif_neg (by first | grind | (simp only [ix, ej_d0, xv, xw]; grind)), cif_pos (by first | grind | (simp only [ix, ej_d0, xv, xw]; grind))])⟩) (Nat.le_of_ble_eq_true rfl) (Nat.le_of_ble_eq_true rfl)) (fun h5_ => ?_)
  refine lv_aload_n hx hb dX4_lackPower_10 rfl (lv_at hl 0 rfl) ?_
  refine g_get (v := .int (ξ 21 j_d0)) hC (hR.deed (i := j_d0) (by omega)) (C := RX0) (T := TX0) (N := 16) rfl u0_in 11 (by decide) k_321 rfl dX4_lackPower_11 ?_
  exact g_iret hC hr dX4_lackPower_14 (Nat.le_of_ble_eq_true rfl) (Nat.le_of_ble_eq_true rfl) ⟨(by unfold kLackY; rw [cif_neg (by first | grind | (simp only [ix, ej_d0, xv, xw]; grind)), cif_neg (by first | grind | (simp only [ix, ej_d0, xv, xw]; grind))]), (by first | rfl | simp only [ix, ej_d0])⟩
set_option maxHeartbeats 4000000 in
set_option maxRecDepth 100000 in
theorem c_X4_lackDepth {l : Launch} {E : gV} (hE : gOK l E) {α : Nat → Nat → Nat} {ξ : F2} {M : Nat → F2} {N : Nat → Nat} (d0 : Int32) : gM l E yX4_lackDepth cX4_lackDepth 3 (some .int) ({ frames := 9, cells := 2, slots := 12, locals := 161 } : Room) [.ref (α 3 0), .int d0] (fun H => RX E α ξ M N H) (gQR (gPi (fun r => kLackY (ξ 20) (N 1) d0 = 0 ∧ (r = ξ 22 (ix d0))))) (fun X => gCode ["java/lang/IndexOutOfBoundsException", "java/util/NoSuchElementException"] (kLackY (ξ 20) (N 1) d0) X) gN := by
  refine gM_body hE (by decide +kernel) (Nat.le_of_ble_eq_true rfl) ?_
  intro p_ e_ s m args below meth c hC ht hr hname hP ls hl
  have hx := hC.2.2.1
  have hb := hC.2.2.2.1
  have hl : lv_has ls 3 [(0, .ref (α 3 0)), (1, .int d0)] := hl
  have hR : RX E α ξ M N s.heap := hP
  have hSr := hR.inv.src (M 0)
  obtain ⟨hN0, hN1, hN2, hN3, -, hHo, hDe⟩ := hR.inv
  refine lv_aload_n hx hb dX4_lackDepth_0 rfl (lv_at hl 0 rfl) ?_
  refine lv_iload_n hx hb dX4_lackDepth_1 rfl (lv_at hl 1 rfl) ?_
  refine g_cRr (k2 := 1) (n2 := 6) (g_runV (rest := []) hC (c_X4_findDeed hE (α := α) (ξ := ξ) (M := M) (N := N) d0) Y_X4_findDeed k_561 I_X4_findDeed V_X4_findDeed hR.sig rfl hR rfl hl.1 dX4_lackDepth_2 ⟨Nat.le_of_ble_eq_true rfl, Nat.le_of_ble_eq_true rfl⟩ ⟨Nat.le_of_ble_eq_true rfl, Nat.le_of_ble_eq_true rfl⟩ rfl (Nat.le_of_ble_eq_true rfl)) rfl rfl (g_up hC ht (fun X h => ⟨0, by rw [h.1]; rfl, (by unfold kLackY; rw [cif_pos (by first | grind | (simp only [ix, xv, xw]; grind))])⟩) (Nat.le_of_ble_eq_true rfl) (Nat.le_of_ble_eq_true rfl)) (fun r1_ h2_ => ?_)
  obtain ⟨g3_, rfl⟩ := h2_
  obtain ⟨j_d0, hj_d0, rfl⟩ := isP_of (n := N 1) (p := d0) g3_ (by omega)
  have ej_d0 : (nI j_d0).toNatClampNeg = j_d0 := nI_clamp (by omega)
  have ipj_d0 : isP (N 1) (nI j_d0) := isP_nI hj_d0 (by omega)
  rw [show ix (nI j_d0) = j_d0 from ej_d0]
  refine lv_astore_n (lv' := [(2, .ref (α 1 j_d0)), (0, .ref (α 3 0)), (1, .int (nI j_d0))]) hx hb dX4_lackDepth_5 rfl hl (by decide) rfl (fun ls hl => ?_)
  refine lv_aload_n hx hb dX4_lackDepth_6 rfl (lv_at hl 0 rfl) ?_
  refine g_cRv (k2 := 2) (n2 := 12) (g_runS (rest := []) hC (c_X4_requireLackingPower hE (α := α) (ξ := ξ) (M := M) (N := N) j_d0 (by omega)) Y_X4_requireLackingPower k_925 S_X4_requireLackingPower hR rfl hl.1 dX4_lackDepth_7 ⟨Nat.le_of_ble_eq_true rfl, Nat.le_of_ble_eq_true rfl⟩ ⟨Nat.le_of_ble_eq_true rfl, Nat.le_of_ble_eq_true rfl⟩ rfl (Nat.le_of_ble_eq_true rfl)) rfl rfl (g_up hC ht (fun X h => ⟨1, by rw [h.1]; rfl, (by unfold kLackY; rw [cif_neg (by first | grind | (simp only [ix, ej_d0, xv, xw]; grind)), cif_pos (by first | grind | (simp only [ix, ej_d0, xv, xw]; grind))])⟩) (Nat.le_of_ble_eq_true rfl) (Nat.le_of_ble_eq_true rfl)) (fun h5_ => ?_)
  refine lv_aload_n hx hb dX4_lackDepth_10 rfl (lv_at hl 0 rfl) ?_
  refine g_get (v := .int (ξ 22 j_d0)) hC (hR.deed (i := j_d0) (by omega)) (C := RX0) (T := TX0) (N := 16) rfl u0_in 12 (by decide) k_322 rfl dX4_lackDepth_11 ?_
  exact g_iret hC hr dX4_lackDepth_14 (Nat.le_of_ble_eq_true rfl) (Nat.le_of_ble_eq_true rfl) ⟨(by unfold kLackY; rw [cif_neg (by first | grind | (simp only [ix, ej_d0, xv, xw]; grind)), cif_neg (by first | grind | (simp only [ix, ej_d0, xv, xw]; grind))]), (by first | rfl | simp only [ix, ej_d0])⟩
set_option maxHeartbeats 4000000 in
set_option maxRecDepth 100000 in
theorem c_X4_setWindow {l : Launch} {E : gV} (hE : gOK l E) {α : Nat → Nat → Nat} {ξ : F2} {M : Nat → F2} {N : Nat → Nat} {B : Nat → Prop} (d0 : Int32) (hn : N 2 < 512) : gM l E yX4_setWindow cX4_setWindow 3 (some .int) ({ frames := 10, cells := 4, slots := 1030, locals := 255 } : Room) [.ref (α 3 0), .int d0] (fun H => RB E B α ξ M N H) (gQW (gAB E B) (gWi (fun r H => xPost E B (α 3 0) (kWin d0) (papX ξ (N 2) 3 (-1) d0) (tk (M 0) 3 (-1) d0) (updN N 2 (N 2 + 1)) (r = M 0 4 0) H))) (fun X => gCode ["java/lang/IllegalArgumentException"] (kWin d0) X) (gAB E B) := by
  refine gM_body hE (by decide +kernel) (Nat.le_of_ble_eq_true rfl) ?_
  intro p_ e_ s m args below meth c hC ht hr hname hP ls hl
  have hx := hC.2.2.1
  have hb := hC.2.2.2.1
  have hl : lv_has ls 3 [(0, .ref (α 3 0)), (1, .int d0)] := hl
  have hS : va_S ((gAB E B)) s.heap s.heap [] := va_S.rf
  have hRB : RB E B α ξ M N s.heap := hP
  have hR : RX E α ξ M N s.heap := hRB.1
  have hSr := hR.inv.src (M 0)
  obtain ⟨hN0, hN1, hN2, hN3, -, hHo, hDe⟩ := hR.inv
  have hAl : ∀ q, s.heap.size ≤ q → gAB E B q := fun q hq => hRB.al hq
  refine lv_iload_n hx hb dX4_setWindow_0 rfl (lv_at hl 1 rfl) ?_
  refine g_cRv (k2 := 1) (n2 := 6) (g_runS (rest := []) hC (c_X4_requireDayCount hE  d0) Y_X4_requireDayCount k_631 S_X4_requireDayCount hR.frz rfl hl.1 dX4_setWindow_1 ⟨Nat.le_of_ble_eq_true rfl, Nat.le_of_ble_eq_true rfl⟩ ⟨Nat.le_of_ble_eq_true rfl, Nat.le_of_ble_eq_true rfl⟩ rfl (Nat.le_of_ble_eq_true rfl)) rfl rfl (g_up hC ht (fun X h => ⟨0, by rw [h.1]; rfl, (by unfold kWin; rw [cif_pos (by first | grind | (simp only [ix, xv, xw]; grind))])⟩) (Nat.le_of_ble_eq_true rfl) (Nat.le_of_ble_eq_true rfl)) (fun h2_ => ?_)
  refine lv_aload_n hx hb dX4_setWindow_4 rfl (lv_at hl 0 rfl) ?_
  refine g_get (v := .ref (α 3 4)) hC hR.sig (C := RX4) (T := TX4) (N := 6) rfl u4_in 3 (by decide) k_729 rfl dX4_setWindow_5 ?_
  refine g_get (v := .int (M 0 4 0)) hC (hR.mom 0 (by decide)) (C := RX1) (T := TX1) (N := 6) rfl u1_in 4 (by decide) k_708 rfl dX4_setWindow_8 ?_
  refine lv_istore_n (lv' := [(2, .int (M 0 4 0)), (0, .ref (α 3 0)), (1, .int d0)]) hx hb dX4_setWindow_11 rfl hl (by decide) rfl (fun ls hl => ?_)
  refine lv_aload_n hx hb dX4_setWindow_12 rfl (lv_at hl 1 rfl) ?_
  refine lv_iconst (v := 3) hx hb dX4_setWindow_13 (by decide) ?_
  refine lv_iconst (v := (-1)) hx hb dX4_setWindow_14 (by decide) ?_
  refine lv_iload_n hx hb dX4_setWindow_15 rfl (lv_at hl 2 rfl) ?_
  refine g_cWv (k2 := 3) (n2 := 1009) (g_runV (rest := []) hC (c_X4_tell hE (α := α) (ξ := ξ) (M := M) (N := N) (B := B) 3 (-1) d0 hn) Y_X4_tell k_141 I_X4_tell V_X4_tell hR.sig rfl hRB rfl hl.1 dX4_setWindow_16 ⟨Nat.le_of_ble_eq_true rfl, Nat.le_of_ble_eq_true rfl⟩ ⟨Nat.le_of_ble_eq_true rfl, Nat.le_of_ble_eq_true rfl⟩ rfl (Nat.le_of_ble_eq_true rfl)) hS (fun _ h => h) rfl rfl (fun H lo h4_ _ _ hS => ?_)
  obtain ⟨xT, tT, hRB⟩ := h4_
  have hR := hRB.1
  refine lv_iload_n hx hb dX4_setWindow_19 rfl (lv_at hl 0 rfl) ?_
  exact g_iretW hC hr dX4_setWindow_20 hS (Nat.le_of_ble_eq_true rfl) (Nat.le_of_ble_eq_true rfl) (xPost_0 (by unfold kWin; rw [cif_neg (by first | grind | (simp only [ix, xv, xw]; grind))]) hRB (by first | rfl | exact updM_s | simp only [ix, ix, updM_s]) (by first | rfl | exact ha2) rfl rfl (rfl))
set_option maxHeartbeats 4000000 in
set_option maxRecDepth 100000 in
theorem c_X4_pass {l : Launch} {E : gV} (hE : gOK l E) {α : Nat → Nat → Nat} {ξ : F2} {M : Nat → F2} {N : Nat → Nat} {B : Nat → Prop} (d0 : Int32) : gM l E yX4_pass cX4_pass 2 (some .int) ({ frames := 9, cells := 2, slots := 12, locals := 160 } : Room) [.ref (α 3 0), .int d0] (fun H => RB E B α ξ M N H) (gQW (gAB E B) (gWi (fun r H => xPost E B (α 3 0) (kPass (M 0 5 0) d0) (ξ) (up2 (M 0) 5 0 (M 0 5 0 + d0)) (N) (r = M 0 5 0 + d0) H))) (fun X => gCode ["java/lang/IllegalArgumentException"] (kPass (M 0 5 0) d0) X) (gAB E B) := by
  refine gM_body hE (by decide +kernel) (Nat.le_of_ble_eq_true rfl) ?_
  intro p_ e_ s m args below meth c hC ht hr hname hP ls hl
  have hx := hC.2.2.1
  have hb := hC.2.2.2.1
  have hl : lv_has ls 2 [(0, .ref (α 3 0)), (1, .int d0)] := hl
  have hS : va_S ((gAB E B)) s.heap s.heap [] := va_S.rf
  have hRB : RB E B α ξ M N s.heap := hP
  have hR : RX E α ξ M N s.heap := hRB.1
  have hSr := hR.inv.src (M 0)
  obtain ⟨hN0, hN1, hN2, hN3, -, hHo, hDe⟩ := hR.inv
  have hAl : ∀ q, s.heap.size ≤ q → gAB E B q := fun q hq => hRB.al hq
  refine lv_iload_n hx hb dX4_pass_0 rfl (lv_at hl 1 rfl) ?_
  refine g_cRv (k2 := 1) (n2 := 6) (g_runS (rest := []) hC (c_X4_requireDayCount hE  d0) Y_X4_requireDayCount k_631 S_X4_requireDayCount hR.frz rfl hl.1 dX4_pass_1 ⟨Nat.le_of_ble_eq_true rfl, Nat.le_of_ble_eq_true rfl⟩ ⟨Nat.le_of_ble_eq_true rfl, Nat.le_of_ble_eq_true rfl⟩ rfl (Nat.le_of_ble_eq_true rfl)) rfl rfl (g_up hC ht (fun X h => ⟨0, by rw [h.1]; rfl, (by unfold kPass; rw [cif_pos (by first | grind | (simp only [ix, xv, xw]; grind))])⟩) (Nat.le_of_ble_eq_true rfl) (Nat.le_of_ble_eq_true rfl)) (fun h2_ => ?_)
  refine lv_aload_n hx hb dX4_pass_4 rfl (lv_at hl 0 rfl) ?_
  refine g_get (v := .ref (α 3 4)) hC hR.sig (C := RX4) (T := TX4) (N := 6) rfl u4_in 3 (by decide) k_729 rfl dX4_pass_5 ?_
  refine g_get (v := .int (M 0 5 0)) hC (hR.mom 0 (by decide)) (C := RX1) (T := TX1) (N := 6) rfl u1_in 5 (by decide) k_710 rfl dX4_pass_8 ?_
  refine lv_iload_n hx hb dX4_pass_11 rfl (lv_at hl 1 rfl) ?_
  refine lv_iadd hx hb dX4_pass_12 ?_
  refine lv_sipush (v := 999) hx hb dX4_pass_13 (by decide) ?_
  refine lv_icmp_le (tgt := 30) hx hb dX4_pass_16 (by decide) (fun c3_ => ?_) (fun c3_ => ?_)
  · refine lv_aload_n hx hb dX4_pass_30 rfl (lv_at hl 0 rfl) ?_
    refine g_get (v := .ref (α 3 4)) hC hR.sig (C := RX4) (T := TX4) (N := 6) rfl u4_in 3 (by decide) k_729 rfl dX4_pass_31 ?_
    refine lv_dup hx hb dX4_pass_34 rfl ?_
    refine g_get (v := .int (M 0 5 0)) hC (hR.mom 0 (by decide)) (C := RX1) (T := TX1) (N := 6) rfl u1_in 5 (by decide) k_710 rfl dX4_pass_35 ?_
    refine lv_iload_n hx hb dX4_pass_38 rfl (lv_at hl 1 rfl) ?_
    refine lv_iadd hx hb dX4_pass_39 ?_
    refine x_putM 0 (by decide) hC hRB hS k_710 dX4_pass_40 (fun H lo hRB hS => ?_)
    have hR := hRB.1
    refine lv_aload_n hx hb dX4_pass_43 rfl (lv_at hl 0 rfl) ?_
    refine g_get (v := .ref (α 3 4)) hC hR.sig (C := RX4) (T := TX4) (N := 6) rfl u4_in 3 (by decide) k_729 rfl dX4_pass_44 ?_
    refine g_get (v := .int ((M 0 5 0) + d0)) hC (hR.mom 0 (by decide)) (C := RX1) (T := TX1) (N := 6) rfl u1_in 5 (by decide) k_710 rfl dX4_pass_47 ?_
    exact g_iretW hC hr dX4_pass_50 hS (Nat.le_of_ble_eq_true rfl) (Nat.le_of_ble_eq_true rfl) (xPost_0 (by unfold kPass; rw [cif_neg (by first | grind | (simp only [ix, xv, xw]; grind))]) hRB (by first | rfl | exact updM_s | simp only [ix, ix, updM_s]) (by first | rfl | exact ha2) rfl rfl (rfl))
  · exact g_throwW hC ht hR.frz th_47 k_642 sx_275 hl.1 dX4_pass_19 dX4_pass_22 dX4_pass_23 dX4_pass_26 dX4_pass_29 ⟨Nat.le_of_ble_eq_true rfl, Nat.le_of_ble_eq_true rfl⟩ ⟨Nat.le_of_ble_eq_true rfl, Nat.le_of_ble_eq_true rfl⟩ (Nat.le_of_ble_eq_true rfl) (Nat.le_of_ble_eq_true rfl) ⟨0, rfl, (by unfold kPass; rw [cif_pos (by first | grind | (simp only [ix, xv, xw]; grind))])⟩
set_option maxHeartbeats 4000000 in
set_option maxRecDepth 100000 in
theorem c_X4_today {l : Launch} {E : gV} (hE : gOK l E) {α : Nat → Nat → Nat} {ξ : F2} {M : Nat → F2} {N : Nat → Nat} : gM l E yX4_today cX4_today 1 (some .int) ({ frames := 8, cells := 0, slots := 0, locals := 140 } : Room) [.ref (α 3 0)] (fun H => RX E α ξ M N H) (gQR (gPi (fun r => 0 = 0 ∧ (r = M 0 5 0)))) (fun _ => False) gN := by
  refine gM_body hE (by decide +kernel) (Nat.le_of_ble_eq_true rfl) ?_
  intro p_ e_ s m args below meth c hC ht hr hname hP ls hl
  have hx := hC.2.2.1
  have hb := hC.2.2.2.1
  have hl : lv_has ls 1 [(0, .ref (α 3 0))] := hl
  have hR : RX E α ξ M N s.heap := hP
  have hSr := hR.inv.src (M 0)
  obtain ⟨hN0, hN1, hN2, hN3, -, hHo, hDe⟩ := hR.inv
  refine lv_aload_n hx hb dX4_today_0 rfl (lv_at hl 0 rfl) ?_
  refine g_get (v := .ref (α 3 4)) hC hR.sig (C := RX4) (T := TX4) (N := 6) rfl u4_in 3 (by decide) k_729 rfl dX4_today_1 ?_
  refine g_get (v := .int (M 0 5 0)) hC (hR.mom 0 (by decide)) (C := RX1) (T := TX1) (N := 6) rfl u1_in 5 (by decide) k_710 rfl dX4_today_4 ?_
  exact g_iret hC hr dX4_today_7 (Nat.le_of_ble_eq_true rfl) (Nat.le_of_ble_eq_true rfl) ⟨rfl, rfl⟩
set_option maxHeartbeats 4000000 in
set_option maxRecDepth 100000 in
theorem c_X4_bound {l : Launch} {E : gV} (hE : gOK l E) {α : Nat → Nat → Nat} {ξ : F2} {M : Nat → F2} {N : Nat → Nat} : gM l E yX4_bound cX4_bound 5 (some .long) ({ frames := 8, cells := 0, slots := 0, locals := 140 } : Room) [.ref (α 3 0)] (fun H => RX E α ξ M N H) (gQR (gPl (fun r => 0 = 0 ∧ (r = fBd (xw ξ) (N 1))))) (fun _ => False) gN := by
  refine gM_body hE (by decide +kernel) (Nat.le_of_ble_eq_true rfl) ?_
  intro p_ e_ s m args below meth c hC ht hr hname hP ls hl
  have hx := hC.2.2.1
  have hb := hC.2.2.2.1
  have hl : lv_has ls 5 [(0, .ref (α 3 0))] := hl
  have hR : RX E α ξ M N s.heap := hP
  have hSr := hR.inv.src (M 0)
  obtain ⟨hN0, hN1, hN2, hN3, -, hHo, hDe⟩ := hR.inv
  refine lv_lconst (v := 0) hx hb dX4_bound_0 (by decide) ?_
  refine lv_lstore_n (lv' := [(1, .long 0), (0, .ref (α 3 0))]) hx hb dX4_bound_1 rfl hl (by decide) rfl (fun ls hl => ?_)
  refine lv_iconst (v := 0) hx hb dX4_bound_2 (by decide) ?_
  refine lv_istore_n (lv' := [(3, .int 0), (1, .long 0), (0, .ref (α 3 0))]) hx hb dX4_bound_3 rfl hl (by decide) rfl (fun ls hl => ?_)
  have loop : ∀ (n_ : Nat) (q : Nat) (r : Int64) (ls : Array Slot), N 1 - q < n_ → (q ≤ N 1) → (r = fBd (xw ξ) q) → lv_has ls 5 [(0, .ref (α 3 0)), (1, .long r), (3, .int (nI q))] → W p_ l e_ ({ frames := 8, cells := 0, slots := 0, locals := 140 } : Room) s m args below meth c s.heap [] 0 0 (vx_MQ below (gQR (gPl (fun r => 0 = 0 ∧ (r = fBd (xw ξ) (N 1))))) (gX (fun _ => False)) args s 0 0 gN) (F0 m 4 ls []) := by
    intro n_
    induction n_ with
    | zero => intro q r ls h_; exact absurd h_ (Nat.not_lt_zero _)
    | succ n_ ih_loop =>
      intro q r ls hn_ i1 i2 hl
      refine lv_iload_n hx hb dX4_bound_4 rfl (lv_at hl 2 rfl) ?_
      refine lv_aload_n hx hb dX4_bound_5 rfl (lv_at hl 0 rfl) ?_
      refine g_get (v := .ref (α 3 2)) hC hR.sig (C := RX4) (T := TX4) (N := 6) rfl u4_in 1 (by decide) k_727 rfl dX4_bound_6 ?_
      refine g_cRFi (k2 := 0) (n2 := 0) (g_runF (rest := [.int (nI q)]) hC (c_Jx4a65c_size_8abf5 hE (α 3 2) (α 3 (14 + 1)) (N 1) (α 1)) Y_Jx4a65c_size_8abf5 k_165 F_Jx4a65c_size_8abf5 (hR.list 1 (by decide)).rcv rfl (hR.list 1 (by decide)) rfl hl.1 dX4_bound_9 ⟨Nat.le_of_ble_eq_true rfl, Nat.le_of_ble_eq_true rfl⟩ ⟨Nat.le_of_ble_eq_true rfl, Nat.le_of_ble_eq_true rfl⟩ rfl (Nat.le_of_ble_eq_true rfl)) rfl rfl g_no (fun r1_ h2_ => ?_)
      obtain rfl := h2_
      refine lv_icmp_ge (tgt := 55) hx hb dX4_bound_14 (by decide) (fun c3_ => ?_) (fun c3_ => ?_)
      · have n4_ : (N 1) ≤ q := le_nI (by omega) (by omega) c3_
        refine lv_lload_n hx hb dX4_bound_55 rfl (lv_at hl 1 rfl) ?_
        exact g_lret hC hr dX4_bound_56 (Nat.le_of_ble_eq_true rfl) (Nat.le_of_ble_eq_true rfl) ⟨rfl, (by rw [i2, show q = N 1 by omega])⟩
      · have n4_ : q < (N 1) := not_le_nI (by omega) (by omega) c3_
        refine lv_aload_n hx hb dX4_bound_17 rfl (lv_at hl 0 rfl) ?_
        refine g_get (v := .ref (α 3 2)) hC hR.sig (C := RX4) (T := TX4) (N := 6) rfl u4_in 1 (by decide) k_727 rfl dX4_bound_18 ?_
        refine lv_iload_n hx hb dX4_bound_21 rfl (lv_at hl 2 rfl) ?_
        refine g_cRFr (k2 := 0) (n2 := 0) (g_runF (rest := []) hC (c_Jx4a65c_get_915e3 hE (α 3 2) (α 3 (14 + 1)) (N 1) (α 1) (q) (by omega) (by omega)) Y_Jx4a65c_get_915e3 k_369 F_Jx4a65c_get_915e3 (hR.list 1 (by decide)).rcv rfl (hR.list 1 (by decide)) rfl hl.1 dX4_bound_22 ⟨Nat.le_of_ble_eq_true rfl, Nat.le_of_ble_eq_true rfl⟩ ⟨Nat.le_of_ble_eq_true rfl, Nat.le_of_ble_eq_true rfl⟩ rfl (Nat.le_of_ble_eq_true rfl)) rfl rfl g_no (fun r5_ h6_ => ?_)
        obtain rfl := h6_
        refine g_cast2 (T := TX0) (N := 16) hC (hR.deed (i := q) (by omega)) rfl k_294 dX4_bound_27 ?_
        refine lv_astore (lv' := [(4, .ref (α 1 q)), (0, .ref (α 3 0)), (1, .long r), (3, .int (nI q))]) hx hb dX4_bound_30 hl (by decide) rfl (fun ls hl => ?_)
        refine lv_aload hx hb dX4_bound_32 (lv_at hl 0 rfl) ?_
        refine g_cRi (k2 := 0) (n2 := 0) (g_runV (rest := []) hC (c_X0_isStanding hE (α := α) (ξ := ξ) (M := M) (N := N) q (by omega)) Y_X0_isStanding k_650 I_X0_isStanding V_X0_isStanding (hR.deed (i := q) (by omega)) rfl hR rfl hl.1 dX4_bound_34 ⟨Nat.le_of_ble_eq_true rfl, Nat.le_of_ble_eq_true rfl⟩ ⟨Nat.le_of_ble_eq_true rfl, Nat.le_of_ble_eq_true rfl⟩ rfl (Nat.le_of_ble_eq_true rfl)) rfl rfl g_no (fun r7_ h8_ => ?_)
        refine lv_if_eq (tgt := 49) hx hb dX4_bound_37 (by decide) (fun c9_ => ?_) (fun c9_ => ?_)
        · have q10_ := bz.f h8_ c9_
          refine lv_iinc (v := nI (q + 1)) (lv' := [(3, .int (nI (q + 1))), (4, .ref (α 1 q)), (0, .ref (α 3 0)), (1, .long r)]) hx hb dX4_bound_49 hl (k := 3) rfl (g_inc _) (by decide) rfl (fun ls hl => ?_)
          refine lv_goto (tgt := 4) hx hb dX4_bound_52 (by decide) ?_
          exact ih_loop (q + 1) r ls (by omega) (by omega) (by rw [i2]; exact (cif_neg (by assumption)).symm) (lv_sub hl [2, 3, 0] rfl)
        · have q10_ := bz.t h8_ c9_
          refine lv_lload_n hx hb dX4_bound_40 rfl (lv_at hl 2 rfl) ?_
          refine lv_aload hx hb dX4_bound_41 (lv_at hl 0 rfl) ?_
          refine g_get (v := .int (ξ 14 q)) hC (hR.deed (i := q) (by omega)) (C := RX0) (T := TX0) (N := 16) rfl u0_in 4 (by decide) k_310 rfl dX4_bound_43 ?_
          refine lv_i2l (v := (ξ 14 q).toInt64) hx hb dX4_bound_46 rfl ?_
          refine lv_ladd hx hb dX4_bound_47 ?_
          refine lv_lstore_n (lv' := [(1, .long ((r) + ((ξ 14 q).toInt64))), (4, .ref (α 1 q)), (0, .ref (α 3 0)), (3, .int (nI q))]) hx hb dX4_bound_48 rfl hl (by decide) rfl (fun ls hl => ?_)
          refine lv_iinc (v := nI (q + 1)) (lv' := [(3, .int (nI (q + 1))), (1, .long ((r) + ((ξ 14 q).toInt64))), (4, .ref (α 1 q)), (0, .ref (α 3 0))]) hx hb dX4_bound_49 hl (k := 3) rfl (g_inc _) (by decide) rfl (fun ls hl => ?_)
          refine lv_goto (tgt := 4) hx hb dX4_bound_52 (by decide) ?_
          exact ih_loop (q + 1) ((r) + ((ξ 14 q).toInt64)) ls (by omega) (by omega) (by rw [i2]; exact (cif_pos (by assumption)).symm) (lv_sub hl [3, 1, 0] rfl)
  exact loop ((N 1 - (0)) + 1) 0 0 ls (by omega) (by omega) rfl (lv_sub hl [2, 1, 0] rfl)
set_option maxHeartbeats 4000000 in
set_option maxRecDepth 100000 in
theorem c_X4_standingShare {l : Launch} {E : gV} (hE : gOK l E) {α : Nat → Nat → Nat} {ξ : F2} {M : Nat → F2} {N : Nat → Nat} : gM l E yX4_standingShare cX4_standingShare 4 (some .float) ({ frames := 8, cells := 1, slots := 6, locals := 140 } : Room) [.ref (α 3 0)] (fun H => RX E α ξ M N H) (gQR (gPf (fun r => kShare (N 1) = 0 ∧ (r = FP.fdiv (FP.i2f (nI (fCnt (fun t => isGd (ξ 19 t)) (N 1)))) (FP.i2f (nI (N 1))))))) (fun X => gCode ["java/util/NoSuchElementException"] (kShare (N 1)) X) gN := by
  refine gM_body hE (by decide +kernel) (Nat.le_of_ble_eq_true rfl) ?_
  intro p_ e_ s m args below meth c hC ht hr hname hP ls hl
  have hx := hC.2.2.1
  have hb := hC.2.2.2.1
  have hl : lv_has ls 4 [(0, .ref (α 3 0))] := hl
  have hR : RX E α ξ M N s.heap := hP
  have hSr := hR.inv.src (M 0)
  obtain ⟨hN0, hN1, hN2, hN3, -, hHo, hDe⟩ := hR.inv
  refine lv_aload_n hx hb dX4_standingShare_0 rfl (lv_at hl 0 rfl) ?_
  refine g_get (v := .ref (α 3 2)) hC hR.sig (C := RX4) (T := TX4) (N := 6) rfl u4_in 1 (by decide) k_727 rfl dX4_standingShare_1 ?_
  refine g_cRFi (k2 := 0) (n2 := 0) (g_runF (rest := []) hC (c_Jx4a65c_size_8abf5 hE (α 3 2) (α 3 (14 + 1)) (N 1) (α 1)) Y_Jx4a65c_size_8abf5 k_165 F_Jx4a65c_size_8abf5 (hR.list 1 (by decide)).rcv rfl (hR.list 1 (by decide)) rfl hl.1 dX4_standingShare_4 ⟨Nat.le_of_ble_eq_true rfl, Nat.le_of_ble_eq_true rfl⟩ ⟨Nat.le_of_ble_eq_true rfl, Nat.le_of_ble_eq_true rfl⟩ rfl (Nat.le_of_ble_eq_true rfl)) rfl rfl g_no (fun r1_ h2_ => ?_)
  obtain rfl := h2_
  refine lv_istore_n (lv' := [(1, .int (nI (N 1))), (0, .ref (α 3 0))]) hx hb dX4_standingShare_9 rfl hl (by decide) rfl (fun ls hl => ?_)
  refine lv_iload_n hx hb dX4_standingShare_10 rfl (lv_at hl 0 rfl) ?_
  refine lv_if_ne (tgt := 25) hx hb dX4_standingShare_11 (by decide) (fun c3_ => ?_) (fun c3_ => ?_)
  · have q4_ : ¬ (N 1) = 0 := fun z => c3_ (congrArg nI z)
    refine lv_iconst (v := 0) hx hb dX4_standingShare_25 (by decide) ?_
    refine lv_istore_n (lv' := [(2, .int 0), (1, .int (nI (N 1))), (0, .ref (α 3 0))]) hx hb dX4_standingShare_26 rfl hl (by decide) rfl (fun ls hl => ?_)
    refine lv_iconst (v := 0) hx hb dX4_standingShare_27 (by decide) ?_
    refine lv_istore_n (lv' := [(3, .int 0), (2, .int 0), (1, .int (nI (N 1))), (0, .ref (α 3 0))]) hx hb dX4_standingShare_28 rfl hl (by decide) rfl (fun ls hl => ?_)
    have loop : ∀ (n_ : Nat) (q : Nat) (r : Int32) (ls : Array Slot), N 1 - q < n_ → (q ≤ N 1) → (r = nI (fCnt (fun t => isGd (ξ 19 t)) q)) → lv_has ls 4 [(0, .ref (α 3 0)), (1, .int (nI (N 1))), (2, .int r), (3, .int (nI q))] → W p_ l e_ ({ frames := 8, cells := 1, slots := 6, locals := 140 } : Room) s m args below meth c s.heap [] 0 0 (vx_MQ below (gQR (gPf (fun r => kShare (N 1) = 0 ∧ (r = FP.fdiv (FP.i2f (nI (fCnt (fun t => isGd (ξ 19 t)) (N 1)))) (FP.i2f (nI (N 1))))))) (gX (fun X => gCode ["java/util/NoSuchElementException"] (kShare (N 1)) X)) args s 1 6 gN) (F0 m 29 ls []) := by
      intro n_
      induction n_ with
      | zero => intro q r ls h_; exact absurd h_ (Nat.not_lt_zero _)
      | succ n_ ih_loop =>
        intro q r ls hn_ i1 i2 hl
        refine lv_iload_n hx hb dX4_standingShare_29 rfl (lv_at hl 3 rfl) ?_
        refine lv_iload_n hx hb dX4_standingShare_30 rfl (lv_at hl 1 rfl) ?_
        refine lv_icmp_ge (tgt := 62) hx hb dX4_standingShare_31 (by decide) (fun c5_ => ?_) (fun c5_ => ?_)
        · have n6_ : (N 1) ≤ q := le_nI (by omega) (by omega) c5_
          have hq : q = N 1 := by omega
          subst i2
          rw [hq] at hl
          have hcl := fCnt_le (fun t => isGd (ξ 19 t)) (N 1)
          refine lv_iload_n hx hb dX4_standingShare_62 rfl (lv_at hl 2 rfl) ?_
          refine lv_i2f hx hb dX4_standingShare_63 ?_
          refine lv_iload_n hx hb dX4_standingShare_64 rfl (lv_at hl 1 rfl) ?_
          refine lv_i2f hx hb dX4_standingShare_65 ?_
          refine lv_fdiv hx hb dX4_standingShare_66 (fp_ok (by omega) (by omega) (by omega)) ?_
          exact g_fret hC hr dX4_standingShare_67 (Nat.le_of_ble_eq_true rfl) (Nat.le_of_ble_eq_true rfl) ⟨(by unfold kShare; rw [cif_neg (by first | grind | (simp only [ix, xv, xw]; grind))]), rfl⟩
        · have n6_ : q < (N 1) := not_le_nI (by omega) (by omega) c5_
          refine lv_aload_n hx hb dX4_standingShare_34 rfl (lv_at hl 0 rfl) ?_
          refine g_get (v := .ref (α 3 2)) hC hR.sig (C := RX4) (T := TX4) (N := 6) rfl u4_in 1 (by decide) k_727 rfl dX4_standingShare_35 ?_
          refine lv_iload_n hx hb dX4_standingShare_38 rfl (lv_at hl 3 rfl) ?_
          refine g_cRFr (k2 := 0) (n2 := 0) (g_runF (rest := []) hC (c_Jx4a65c_get_915e3 hE (α 3 2) (α 3 (14 + 1)) (N 1) (α 1) (q) (by omega) (by omega)) Y_Jx4a65c_get_915e3 k_369 F_Jx4a65c_get_915e3 (hR.list 1 (by decide)).rcv rfl (hR.list 1 (by decide)) rfl hl.1 dX4_standingShare_39 ⟨Nat.le_of_ble_eq_true rfl, Nat.le_of_ble_eq_true rfl⟩ ⟨Nat.le_of_ble_eq_true rfl, Nat.le_of_ble_eq_true rfl⟩ rfl (Nat.le_of_ble_eq_true rfl)) rfl rfl g_no (fun r7_ h8_ => ?_)
          obtain rfl := h8_
          refine g_cast2 (T := TX0) (N := 16) hC (hR.deed (i := q) (by omega)) rfl k_294 dX4_standingShare_44 ?_
          refine g_cRi (k2 := 0) (n2 := 0) (g_runV (rest := []) hC (c_X0_isStanding hE (α := α) (ξ := ξ) (M := M) (N := N) q (by omega)) Y_X0_isStanding k_650 I_X0_isStanding V_X0_isStanding (hR.deed (i := q) (by omega)) rfl hR rfl hl.1 dX4_standingShare_47 ⟨Nat.le_of_ble_eq_true rfl, Nat.le_of_ble_eq_true rfl⟩ ⟨Nat.le_of_ble_eq_true rfl, Nat.le_of_ble_eq_true rfl⟩ rfl (Nat.le_of_ble_eq_true rfl)) rfl rfl g_no (fun r9_ h10_ => ?_)
          refine lv_if_eq (tgt := 56) hx hb dX4_standingShare_50 (by decide) (fun c11_ => ?_) (fun c11_ => ?_)
          · have q12_ := bz.f h10_ c11_
            refine lv_iinc (v := nI (q + 1)) (lv' := [(3, .int (nI (q + 1))), (0, .ref (α 3 0)), (1, .int (nI (N 1))), (2, .int r)]) hx hb dX4_standingShare_56 hl (k := 3) rfl (g_inc _) (by decide) rfl (fun ls hl => ?_)
            refine lv_goto (tgt := 29) hx hb dX4_standingShare_59 (by decide) ?_
            exact ih_loop (q + 1) r ls (by omega) (by omega) (by rw [i2]; exact congrArg nI (fCnt_f (by first | assumption | grind)).symm) (lv_sub hl [1, 2, 3, 0] rfl)
          · have q12_ := bz.t h10_ c11_
            refine lv_iinc (v := r + 1) (lv' := [(2, .int (r + 1)), (0, .ref (α 3 0)), (1, .int (nI (N 1))), (3, .int (nI q))]) hx hb dX4_standingShare_53 hl (k := 2) rfl rfl (by decide) rfl (fun ls hl => ?_)
            refine lv_iinc (v := nI (q + 1)) (lv' := [(3, .int (nI (q + 1))), (2, .int (r + 1)), (0, .ref (α 3 0)), (1, .int (nI (N 1)))]) hx hb dX4_standingShare_56 hl (k := 3) rfl (g_inc _) (by decide) rfl (fun ls hl => ?_)
            refine lv_goto (tgt := 29) hx hb dX4_standingShare_59 (by decide) ?_
            exact ih_loop (q + 1) (r + 1) ls (by omega) (by omega) (by rw [i2]; exact nI_cnt_t (by first | assumption | grind)) (lv_sub hl [2, 3, 1, 0] rfl)
    exact loop ((N 1 - (0)) + 1) 0 0 ls (by omega) (by omega) rfl (lv_sub hl [3, 2, 1, 0] rfl)
  · have q4_ : (N 1) = 0 := (nI_eq (by omega) (by omega)).mp c3_
    exact g_throwNW hC ht hR.frz th_159 dNse_0 dNse_1 dNse_2 dNse_5 k_950 sx_284 hl.1 dX4_standingShare_14 dX4_standingShare_17 dX4_standingShare_18 dX4_standingShare_21 dX4_standingShare_24 ⟨Nat.le_of_ble_eq_true rfl, Nat.le_of_ble_eq_true rfl⟩ ⟨Nat.le_of_ble_eq_true rfl, Nat.le_of_ble_eq_true rfl⟩ (Nat.le_of_ble_eq_true rfl) (Nat.le_of_ble_eq_true rfl) ⟨0, rfl, (by unfold kShare; rw [cif_pos (by first | grind | (simp only [ix, xv, xw]; grind))])⟩
