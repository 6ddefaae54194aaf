set_option maxHeartbeats 4000000 in
set_option maxRecDepth 100000 in
theorem c_X4_noteLack {l : Launch} {E : gV} (hE : gOK l E) {α : Nat → Nat → Nat} {ξ : F2} {M : Nat → F2} {N : Nat → Nat} {B : Nat → Prop} (x d : Nat) (hxE : E.2.1.heap.size ≤ x) (hxn : ∀ k i, xV N k i → α k i ≠ x) (hxB : ¬ B x) (δ : Nat → Int32) (i : Nat) (hi : i < N 0) (L : Int32 × Int32 × Int32) (hL : L.1 = 107 ∨ L.1 = 100 ∨ L.1 = 118 ∨ L.1 = 108 ∨ L.1 = 104) : gM l E yX4_noteLack cX4_noteLack 5 none ({ frames := 4, cells := 0, slots := 0, locals := 91 } : Room) [.ref (α 3 0), .ref x, .ref (α 0 i)] (fun H => RB E B α ξ M N H ∧ gD E x d (dL δ L) H) (gQW (gAB E B) (gWv (fun H => RB E B α ξ M N H ∧ gD E x d (dL δ (nL1 (xv ξ (M 0)) (M 0 5 0) (δ 8) i L)) H))) (fun _ => False) (gAB E B) := by
  refine gM_body hE (by decide +kernel) (Nat.le_of_ble_eq_true rfl) ?_
  intro p_ e_ s m args below meth c hC ht hr hname hP ls hl
  have hx := hC.2.2.1
  have hb := hC.2.2.2.1
  have hl : lv_has ls 5 [(0, .ref (α 3 0)), (1, .ref x), (2, .ref (α 0 i))] := hl
  have hS : va_S ((gAB E B)) s.heap s.heap [] := va_S.rf
  obtain ⟨hRB, hD⟩ := hP
  have hR : RX E α ξ M N s.heap := hRB.1
  have hSr := hR.inv.src (M 0)
  obtain ⟨hN0, hN1, hN2, hN3, -, hHo, hDe⟩ := hR.inv
  have hAl : ∀ q, s.heap.size ≤ q → gAB E B q := fun q hq => hRB.al hq
  have hxl := hD.lt
  obtain ⟨ad, av, hk⟩ := g_kd hE
  have hk_ := hk.at hC.2.1 hR.frz
  have hS0 : va_S (gA0 E) s.heap s.heap [] := va_S.rf
  refine lv_aload_n hx hb dX4_noteLack_0 rfl (lv_at hl 0 rfl) ?_
  refine g_get (v := .ref (α 3 4)) hC hR.sig (C := RX4) (T := TX4) (N := 6) rfl u4_in 3 (by decide) k_729 rfl dX4_noteLack_1 ?_
  refine lv_aload_n hx hb dX4_noteLack_4 rfl (lv_at hl 2 rfl) ?_
  refine lv_aload_n hx hb dX4_noteLack_5 rfl (lv_at hl 1 rfl) ?_
  refine g_get (v := .int (δ 8)) hC hD (C := RX0) (T := TX0) (N := 16) rfl u0_in 8 (by decide) k_315 rfl dX4_noteLack_6 ?_
  refine g_cRi (k2 := 0) (n2 := 0) (g_runV (rest := []) hC (c_X1_faultOf hE (α := α) (ξ := ξ) (M := M) (N := N) 0 (by decide) i (by omega) (δ 8)) Y_X1_faultOf k_405 I_X1_faultOf V_X1_faultOf (hR.mom 0 (by decide)) rfl hR rfl hl.1 dX4_noteLack_9 ⟨Nat.le_of_ble_eq_true rfl, Nat.le_of_ble_eq_true rfl⟩ ⟨Nat.le_of_ble_eq_true rfl, Nat.le_of_ble_eq_true rfl⟩ rfl (Nat.le_of_ble_eq_true rfl)) rfl rfl g_no (fun r1_ h2_ => ?_)
  refine lv_istore_n (lv' := [(3, .int r1_), (0, .ref (α 3 0)), (1, .ref x), (2, .ref (α 0 i))]) hx hb dX4_noteLack_12 rfl hl (by decide) rfl (fun ls hl => ?_)
  refine lv_iload_n hx hb dX4_noteLack_13 rfl (lv_at hl 0 rfl) ?_
  refine lv_bipush (v := 45) hx hb dX4_noteLack_14 (by decide) ?_
  refine lv_icmp_ne (tgt := 24) hx hb dX4_noteLack_16 (by decide) (fun c3_ => ?_) (fun c3_ => ?_)
  · refine lv_iload_n hx hb dX4_noteLack_24 rfl (lv_at hl 0 rfl) ?_
    refine lv_istore (lv' := [(4, .int r1_), (3, .int r1_), (0, .ref (α 3 0)), (1, .ref x), (2, .ref (α 0 i))]) hx hb dX4_noteLack_25 hl (by decide) rfl (fun ls hl => ?_)
    refine g_ldcSW hC hk.2 dX4_noteLack_27 ?_
    refine lv_iload hx hb dX4_noteLack_30 (lv_at hl 0 rfl) ?_
    refine g_cRi (k2 := 0) (n2 := 0) (g_runVr (rest := []) hC (c_J0_indexOf_0f7a4 hE ad av hk r1_ (fl_in h2_ (by assumption))) Y_J0_indexOf_0f7a4 k_439 I_J0_indexOf_0f7a4 V_J0_indexOf_0f7a4 (vk_recv (i := 0) hk_ (by decide) hS0) rfl hR.frz rfl hl.1 dX4_noteLack_32 ⟨Nat.le_of_ble_eq_true rfl, Nat.le_of_ble_eq_true rfl⟩ ⟨Nat.le_of_ble_eq_true rfl, Nat.le_of_ble_eq_true rfl⟩ rfl (Nat.le_of_ble_eq_true rfl)) rfl rfl g_no (fun r4_ h5_ => ?_)
    refine g_ldcSW hC hk.2 dX4_noteLack_35 ?_
    refine lv_aload_n hx hb dX4_noteLack_38 rfl (lv_at hl 3 rfl) ?_
    refine g_get (v := .int L.1) hC hD (C := RX0) (T := TX0) (N := 16) rfl u0_in 10 (by decide) k_319 rfl dX4_noteLack_39 ?_
    refine g_cRi (k2 := 0) (n2 := 0) (g_runVr (rest := [.int r4_]) hC (c_J0_indexOf_0f7a4 hE ad av hk L.1 hL) Y_J0_indexOf_0f7a4 k_439 I_J0_indexOf_0f7a4 V_J0_indexOf_0f7a4 (vk_recv (i := 0) hk_ (by decide) hS0) rfl hR.frz rfl hl.1 dX4_noteLack_42 ⟨Nat.le_of_ble_eq_true rfl, Nat.le_of_ble_eq_true rfl⟩ ⟨Nat.le_of_ble_eq_true rfl, Nat.le_of_ble_eq_true rfl⟩ rfl (Nat.le_of_ble_eq_true rfl)) rfl rfl g_no (fun r6_ h7_ => ?_)
    refine lv_icmp_le (tgt := 88) hx hb dX4_noteLack_45 (by decide) (fun c8_ => ?_) (fun c8_ => ?_)
    · exact g_vretW hC hr dX4_noteLack_88 hS (Nat.le_of_ble_eq_true rfl) (Nat.le_of_ble_eq_true rfl) ⟨hRB, (by
      have hlet : (if fl (xv ξ (M 0)) (M 0 5 0) (δ 8) i = 45 then 104 else fl (xv ξ (M 0)) (M 0 5 0) (δ 8) i) = r1_ := by rw [← h2_]; grind
      unfold nL1
      rw [hlet, cif_neg (by rw [← h5_, ← h7_]; exact Int32.not_lt.mpr (by assumption))]
      exact hD)⟩
    · refine lv_aload_n hx hb dX4_noteLack_48 rfl (lv_at hl 3 rfl) ?_
      refine lv_iload hx hb dX4_noteLack_49 (lv_at hl 0 rfl) ?_
      refine x_putD (y := r1_) (δ := dL δ L) 10 (by decide) hC hRB hD hxE hxn hxB hS k_319 rfl (by rw [h2_]; exact fl_nar _ _ _ _) (by rw [h2_]; exact fl_fit _ _ _ _) rfl dX4_noteLack_51 (fun H lo hRB hD hS => ?_)
      have hR := hRB.1
      refine lv_aload_n hx hb dX4_noteLack_54 rfl (lv_at hl 3 rfl) ?_
      refine lv_aload_n hx hb dX4_noteLack_55 rfl (lv_at hl 4 rfl) ?_
      refine g_get (v := .int (nI i)) hC (hR.pow (i := i) (by omega)) (C := RX3) (T := TX3) (N := 7) rfl u3_in 0 (by decide) k_790 rfl dX4_noteLack_56 ?_
      refine x_putD (y := nI i) (δ := (upd (dL δ L) 10 r1_)) 11 (by decide) hC hRB hD hxE hxn hxB hS k_321 rfl rfl rfl rfl dX4_noteLack_59 (fun H lo hRB hD hS => ?_)
      have hR := hRB.1
      refine lv_aload_n hx hb dX4_noteLack_62 rfl (lv_at hl 3 rfl) ?_
      refine lv_iload_n hx hb dX4_noteLack_63 rfl (lv_at hl 1 rfl) ?_
      refine lv_bipush (v := 45) hx hb dX4_noteLack_64 (by decide) ?_
      refine lv_icmp_ne (tgt := 73) hx hb dX4_noteLack_66 (by decide) (fun c9_ => ?_) (fun c9_ => ?_)
      · refine lv_aload_n hx hb dX4_noteLack_73 rfl (lv_at hl 2 rfl) ?_
        refine g_get (v := .ref (α 3 4)) hC hR.sig (C := RX4) (T := TX4) (N := 6) rfl u4_in 3 (by decide) k_729 rfl dX4_noteLack_74 ?_
        refine lv_aload_n hx hb dX4_noteLack_77 rfl (lv_at hl 4 rfl) ?_
        refine lv_aload_n hx hb dX4_noteLack_78 rfl (lv_at hl 3 rfl) ?_
        refine g_get (v := .int (δ 8)) hC hD (C := RX0) (T := TX0) (N := 16) rfl u0_in 8 (by decide) k_315 rfl dX4_noteLack_79 ?_
        refine g_cRi (k2 := 0) (n2 := 0) (g_runV (rest := [.ref x]) hC (c_X1_stepsToFault hE (α := α) (ξ := ξ) (M := M) (N := N) 0 (by decide) i (by omega) (δ 8)) Y_X1_stepsToFault k_521 I_X1_stepsToFault V_X1_stepsToFault (hR.mom 0 (by decide)) rfl hR rfl hl.1 dX4_noteLack_82 ⟨Nat.le_of_ble_eq_true rfl, Nat.le_of_ble_eq_true rfl⟩ ⟨Nat.le_of_ble_eq_true rfl, Nat.le_of_ble_eq_true rfl⟩ rfl (Nat.le_of_ble_eq_true rfl)) rfl rfl g_no (fun r10_ h11_ => ?_)
        refine x_putD (y := r10_) (δ := (upd (upd (dL δ L) 10 r1_) 11 (nI i))) 12 (by decide) hC hRB hD hxE hxn hxB hS k_322 rfl rfl rfl rfl dX4_noteLack_85 (fun H lo hRB hD hS => ?_)
        have hR := hRB.1
        exact g_vretW hC hr dX4_noteLack_88 hS (Nat.le_of_ble_eq_true rfl) (Nat.le_of_ble_eq_true rfl) ⟨hRB, (by
      have hlet : (if fl (xv ξ (M 0)) (M 0 5 0) (δ 8) i = 45 then 104 else fl (xv ξ (M 0)) (M 0 5 0) (δ 8) i) = r1_ := by rw [← h2_]; grind
      have hdep : (if fl (xv ξ (M 0)) (M 0 5 0) (δ 8) i = 45 then 0 else nI (dpt (xv ξ (M 0)) (M 0 5 0) (δ 8) i)) = r10_ := by rw [h11_]; unfold fStep; rw [if_neg (by rw [← h2_]; assumption), if_neg (by rw [← h2_]; assumption)]
      unfold nL1
      rw [hlet, hdep, cif_pos (by rw [← h5_, ← h7_]; exact Int32.not_le.mp (by assumption)), ← dL_u (L := L)]
      exact hD)⟩
      · refine lv_iconst (v := 0) hx hb dX4_noteLack_69 (by decide) ?_
        refine lv_goto (tgt := 85) hx hb dX4_noteLack_70 (by decide) ?_
        refine x_putD (y := 0) (δ := (upd (upd (dL δ L) 10 r1_) 11 (nI i))) 12 (by decide) hC hRB hD hxE hxn hxB hS k_322 rfl rfl rfl rfl dX4_noteLack_85 (fun H lo hRB hD hS => ?_)
        have hR := hRB.1
        exact g_vretW hC hr dX4_noteLack_88 hS (Nat.le_of_ble_eq_true rfl) (Nat.le_of_ble_eq_true rfl) ⟨hRB, (by
      have hlet : (if fl (xv ξ (M 0)) (M 0 5 0) (δ 8) i = 45 then 104 else fl (xv ξ (M 0)) (M 0 5 0) (δ 8) i) = r1_ := by rw [← h2_]; grind
      have hdep : (if fl (xv ξ (M 0)) (M 0 5 0) (δ 8) i = 45 then 0 else nI (dpt (xv ξ (M 0)) (M 0 5 0) (δ 8) i)) = 0 := if_pos (by rw [← h2_]; assumption)
      unfold nL1
      rw [hlet, hdep, cif_pos (by rw [← h5_, ← h7_]; exact Int32.not_le.mp (by assumption)), ← dL_u (L := L)]
      exact hD)⟩
  · refine lv_bipush (v := 104) hx hb dX4_noteLack_19 (by decide) ?_
    refine lv_goto (tgt := 25) hx hb dX4_noteLack_21 (by decide) ?_
    refine lv_istore (lv' := [(4, .int 104), (3, .int r1_), (0, .ref (α 3 0)), (1, .ref x), (2, .ref (α 0 i))]) hx hb dX4_noteLack_25 hl (by decide) rfl (fun ls hl => ?_)
    refine g_ldcSW hC hk.2 dX4_noteLack_27 ?_
    refine lv_iload hx hb dX4_noteLack_30 (lv_at hl 0 rfl) ?_
    refine g_cRi (k2 := 0) (n2 := 0) (g_runVr (rest := []) hC (c_J0_indexOf_0f7a4 hE ad av hk 104 (by decide)) Y_J0_indexOf_0f7a4 k_439 I_J0_indexOf_0f7a4 V_J0_indexOf_0f7a4 (vk_recv (i := 0) hk_ (by decide) hS0) rfl hR.frz rfl hl.1 dX4_noteLack_32 ⟨Nat.le_of_ble_eq_true rfl, Nat.le_of_ble_eq_true rfl⟩ ⟨Nat.le_of_ble_eq_true rfl, Nat.le_of_ble_eq_true rfl⟩ rfl (Nat.le_of_ble_eq_true rfl)) rfl rfl g_no (fun r12_ h13_ => ?_)
    refine g_ldcSW hC hk.2 dX4_noteLack_35 ?_
    refine lv_aload_n hx hb dX4_noteLack_38 rfl (lv_at hl 3 rfl) ?_
    refine g_get (v := .int L.1) hC hD (C := RX0) (T := TX0) (N := 16) rfl u0_in 10 (by decide) k_319 rfl dX4_noteLack_39 ?_
    refine g_cRi (k2 := 0) (n2 := 0) (g_runVr (rest := [.int r12_]) hC (c_J0_indexOf_0f7a4 hE ad av hk L.1 hL) Y_J0_indexOf_0f7a4 k_439 I_J0_indexOf_0f7a4 V_J0_indexOf_0f7a4 (vk_recv (i := 0) hk_ (by decide) hS0) rfl hR.frz rfl hl.1 dX4_noteLack_42 ⟨Nat.le_of_ble_eq_true rfl, Nat.le_of_ble_eq_true rfl⟩ ⟨Nat.le_of_ble_eq_true rfl, Nat.le_of_ble_eq_true rfl⟩ rfl (Nat.le_of_ble_eq_true rfl)) rfl rfl g_no (fun r14_ h15_ => ?_)
    refine lv_icmp_le (tgt := 88) hx hb dX4_noteLack_45 (by decide) (fun c16_ => ?_) (fun c16_ => ?_)
    · exact g_vretW hC hr dX4_noteLack_88 hS (Nat.le_of_ble_eq_true rfl) (Nat.le_of_ble_eq_true rfl) ⟨hRB, (by
      have hlet : (if fl (xv ξ (M 0)) (M 0 5 0) (δ 8) i = 45 then 104 else fl (xv ξ (M 0)) (M 0 5 0) (δ 8) i) = 104 := by rw [← h2_]; grind
      unfold nL1
      rw [hlet, cif_neg (by rw [← h13_, ← h15_]; exact Int32.not_lt.mpr (by assumption))]
      exact hD)⟩
    · refine lv_aload_n hx hb dX4_noteLack_48 rfl (lv_at hl 3 rfl) ?_
      refine lv_iload hx hb dX4_noteLack_49 (lv_at hl 0 rfl) ?_
      refine x_putD (y := 104) (δ := dL δ L) 10 (by decide) hC hRB hD hxE hxn hxB hS k_319 rfl rfl rfl rfl dX4_noteLack_51 (fun H lo hRB hD hS => ?_)
      have hR := hRB.1
      refine lv_aload_n hx hb dX4_noteLack_54 rfl (lv_at hl 3 rfl) ?_
      refine lv_aload_n hx hb dX4_noteLack_55 rfl (lv_at hl 4 rfl) ?_
      refine g_get (v := .int (nI i)) hC (hR.pow (i := i) (by omega)) (C := RX3) (T := TX3) (N := 7) rfl u3_in 0 (by decide) k_790 rfl dX4_noteLack_56 ?_
      refine x_putD (y := nI i) (δ := (upd (dL δ L) 10 104)) 11 (by decide) hC hRB hD hxE hxn hxB hS k_321 rfl rfl rfl rfl dX4_noteLack_59 (fun H lo hRB hD hS => ?_)
      have hR := hRB.1
      refine lv_aload_n hx hb dX4_noteLack_62 rfl (lv_at hl 3 rfl) ?_
      refine lv_iload_n hx hb dX4_noteLack_63 rfl (lv_at hl 1 rfl) ?_
      refine lv_bipush (v := 45) hx hb dX4_noteLack_64 (by decide) ?_
      refine lv_icmp_ne (tgt := 73) hx hb dX4_noteLack_66 (by decide) (fun c17_ => ?_) (fun c17_ => ?_)
      · refine lv_aload_n hx hb dX4_noteLack_73 rfl (lv_at hl 2 rfl) ?_
        refine g_get (v := .ref (α 3 4)) hC hR.sig (C := RX4) (T := TX4) (N := 6) rfl u4_in 3 (by decide) k_729 rfl dX4_noteLack_74 ?_
        refine lv_aload_n hx hb dX4_noteLack_77 rfl (lv_at hl 4 rfl) ?_
        refine lv_aload_n hx hb dX4_noteLack_78 rfl (lv_at hl 3 rfl) ?_
        refine g_get (v := .int (δ 8)) hC hD (C := RX0) (T := TX0) (N := 16) rfl u0_in 8 (by decide) k_315 rfl dX4_noteLack_79 ?_
        refine g_cRi (k2 := 0) (n2 := 0) (g_runV (rest := [.ref x]) hC (c_X1_stepsToFault hE (α := α) (ξ := ξ) (M := M) (N := N) 0 (by decide) i (by omega) (δ 8)) Y_X1_stepsToFault k_521 I_X1_stepsToFault V_X1_stepsToFault (hR.mom 0 (by decide)) rfl hR rfl hl.1 dX4_noteLack_82 ⟨Nat.le_of_ble_eq_true rfl, Nat.le_of_ble_eq_true rfl⟩ ⟨Nat.le_of_ble_eq_true rfl, Nat.le_of_ble_eq_true rfl⟩ rfl (Nat.le_of_ble_eq_true rfl)) rfl rfl g_no (fun r18_ h19_ => ?_)
        refine x_putD (y := r18_) (δ := (upd (upd (dL δ L) 10 104) 11 (nI i))) 12 (by decide) hC hRB hD hxE hxn hxB hS k_322 rfl rfl rfl rfl dX4_noteLack_85 (fun H lo hRB hD hS => ?_)
        have hR := hRB.1
        exact g_vretW hC hr dX4_noteLack_88 hS (Nat.le_of_ble_eq_true rfl) (Nat.le_of_ble_eq_true rfl) ⟨hRB, (by
      have hlet : (if fl (xv ξ (M 0)) (M 0 5 0) (δ 8) i = 45 then 104 else fl (xv ξ (M 0)) (M 0 5 0) (δ 8) i) = 104 := by rw [← h2_]; grind
      have hdep : (if fl (xv ξ (M 0)) (M 0 5 0) (δ 8) i = 45 then 0 else nI (dpt (xv ξ (M 0)) (M 0 5 0) (δ 8) i)) = r18_ := by rw [h19_]; unfold fStep; rw [if_neg (by rw [← h2_]; assumption), if_neg (by rw [← h2_]; assumption)]
      unfold nL1
      rw [hlet, hdep, cif_pos (by rw [← h13_, ← h15_]; exact Int32.not_le.mp (by assumption)), ← dL_u (L := L)]
      exact hD)⟩
      · refine lv_iconst (v := 0) hx hb dX4_noteLack_69 (by decide) ?_
        refine lv_goto (tgt := 85) hx hb dX4_noteLack_70 (by decide) ?_
        refine x_putD (y := 0) (δ := (upd (upd (dL δ L) 10 104) 11 (nI i))) 12 (by decide) hC hRB hD hxE hxn hxB hS k_322 rfl rfl rfl rfl dX4_noteLack_85 (fun H lo hRB hD hS => ?_)
        have hR := hRB.1
        exact g_vretW hC hr dX4_noteLack_88 hS (Nat.le_of_ble_eq_true rfl) (Nat.le_of_ble_eq_true rfl) ⟨hRB, (by
      have hlet : (if fl (xv ξ (M 0)) (M 0 5 0) (δ 8) i = 45 then 104 else fl (xv ξ (M 0)) (M 0 5 0) (δ 8) i) = 104 := by rw [← h2_]; grind
      have hdep : (if fl (xv ξ (M 0)) (M 0 5 0) (δ 8) i = 45 then 0 else nI (dpt (xv ξ (M 0)) (M 0 5 0) (δ 8) i)) = 0 := if_pos (by rw [← h2_]; assumption)
      unfold nL1
      rw [hlet, hdep, cif_pos (by rw [← h13_, ← h15_]; exact Int32.not_le.mp (by assumption)), ← dL_u (L := L)]
      exact hD)⟩
set_option maxHeartbeats 4000000 in
set_option maxRecDepth 100000 in
theorem c_X4_findLack {l : Launch} {E : gV} (hE : gOK l E) {α : Nat → Nat → Nat} {ξ : F2} {M : Nat → F2} {N : Nat → Nat} {B : Nat → Prop} (x d : Nat) (hxE : E.2.1.heap.size ≤ x) (hxn : ∀ k i, xV N k i → α k i ≠ x) (hxB : ¬ B x) (δ : Nat → Int32) (h11 : δ 11 = -1) (h12 : δ 12 = 0) (hj2 : δ 2 = -1 ∨ ¬ δ 2 < 0) : gM l E yX4_findLack cX4_findLack 4 none ({ frames := 5, cells := 0, slots := 0, locals := 115 } : Room) [.ref (α 3 0), .ref x] (fun H => RB E B α ξ M N H ∧ gD E x d δ H) (gQW (gAB E B) (gWv (fun H => RB E B α ξ M N H ∧ gD E x d (dL δ (fLk (xv ξ (M 0)) (M 0 5 0) (δ 1) (δ 2) (δ 3) (δ 8) (N 0))) H))) (fun _ => False) (gAB E B) := by
  refine gM_body hE (by decide +kernel) (Nat.le_of_ble_eq_true rfl) ?_
  intro p_ e_ s m args below meth c hC ht hr hname hP ls hl
  have hx := hC.2.2.1
  have hb := hC.2.2.2.1
  have hl : lv_has ls 4 [(0, .ref (α 3 0)), (1, .ref x)] := hl
  have hS : va_S ((gAB E B)) s.heap s.heap [] := va_S.rf
  obtain ⟨hRB, hD⟩ := hP
  have hR : RX E α ξ M N s.heap := hRB.1
  have hSr := hR.inv.src (M 0)
  obtain ⟨hN0, hN1, hN2, hN3, -, hHo, hDe⟩ := hR.inv
  have hAl : ∀ q, s.heap.size ≤ q → gAB E B q := fun q hq => hRB.al hq
  have hxl := hD.lt
  refine lv_aload_n hx hb dX4_findLack_0 rfl (lv_at hl 1 rfl) ?_
  refine lv_bipush (v := 107) hx hb dX4_findLack_1 (by decide) ?_
  refine x_putD (y := 107) (δ := δ) 10 (by decide) hC hRB hD hxE hxn hxB hS k_319 rfl rfl rfl rfl dX4_findLack_3 (fun H lo hRB hD hS => ?_)
  have hR := hRB.1
  rw [dL_0 h11 h12] at hD
  refine lv_iconst (v := 0) hx hb dX4_findLack_6 (by decide) ?_
  refine lv_istore_n (lv' := [(2, .int 0), (0, .ref (α 3 0)), (1, .ref x)]) hx hb dX4_findLack_7 rfl hl (by decide) rfl (fun ls hl => ?_)
  have loop : ∀ (n_ : Nat) (q : Nat) (H : Heap) (lo : List Loc) (ls : Array Slot), N 0 - q < n_ → (q ≤ N 0) → (fun H => RB E B α ξ M N H ∧ gD E x d (dL δ (fLk (xv ξ (M 0)) (M 0 5 0) (δ 1) (δ 2) (δ 3) (δ 8) q)) H) H → va_S ((gAB E B)) s.heap H lo → lv_has ls 4 [(0, .ref (α 3 0)), (1, .ref x), (2, .int (nI q))] → W p_ l e_ ({ frames := 5, cells := 0, slots := 0, locals := 115 } : Room) s m args below meth c H lo 0 0 (vx_MQ below (gQW (gAB E B) (gWv (fun H => RB E B α ξ M N H ∧ gD E x d (dL δ (fLk (xv ξ (M 0)) (M 0 5 0) (δ 1) (δ 2) (δ 3) (δ 8) (N 0))) H))) (gX (fun _ => False)) args s 0 0 (gAB E B)) (F0 m 8 ls []) := by
    intro n_
    induction n_ with
    | zero => intro q H lo ls h_; exact absurd h_ (Nat.not_lt_zero _)
    | succ n_ ih_loop =>
      intro q H lo ls hn_ i1 ⟨hRB, hD⟩ hS hl
      have hR := hRB.1
      refine lv_iload_n hx hb dX4_findLack_8 rfl (lv_at hl 2 rfl) ?_
      refine lv_aload_n hx hb dX4_findLack_9 rfl (lv_at hl 0 rfl) ?_
      refine g_get (v := .ref (α 3 1)) hC hR.sig (C := RX4) (T := TX4) (N := 6) rfl u4_in 0 (by decide) k_726 rfl dX4_findLack_10 ?_
      refine g_cRFi (k2 := 0) (n2 := 0) (g_runF (rest := [.int (nI q)]) hC (c_Jx4a65c_size_8abf5 hE (α 3 1) (α 3 (14 + 0)) (N 0) (α 0)) Y_Jx4a65c_size_8abf5 k_165 F_Jx4a65c_size_8abf5 (hR.list 0 (by decide)).rcv rfl (hR.list 0 (by decide)) rfl hl.1 dX4_findLack_13 ⟨Nat.le_of_ble_eq_true rfl, Nat.le_of_ble_eq_true rfl⟩ ⟨Nat.le_of_ble_eq_true rfl, Nat.le_of_ble_eq_true rfl⟩ rfl (Nat.le_of_ble_eq_true rfl)) rfl rfl g_no (fun r1_ h2_ => ?_)
      obtain rfl := h2_
      refine lv_icmp_ge (tgt := 67) hx hb dX4_findLack_18 (by decide) (fun c3_ => ?_) (fun c3_ => ?_)
      · have n4_ : (N 0) ≤ q := le_nI (by omega) (by omega) c3_
        exact g_vretW hC hr dX4_findLack_67 hS (Nat.le_of_ble_eq_true rfl) (Nat.le_of_ble_eq_true rfl) ⟨hRB, by rw [← show q = N 0 by omega]; exact hD⟩
      · have n4_ : q < (N 0) := not_le_nI (by omega) (by omega) c3_
        refine lv_aload_n hx hb dX4_findLack_21 rfl (lv_at hl 0 rfl) ?_
        refine g_get (v := .ref (α 3 1)) hC hR.sig (C := RX4) (T := TX4) (N := 6) rfl u4_in 0 (by decide) k_726 rfl dX4_findLack_22 ?_
        refine lv_iload_n hx hb dX4_findLack_25 rfl (lv_at hl 2 rfl) ?_
        refine g_cRFr (k2 := 0) (n2 := 0) (g_runF (rest := []) hC (c_Jx4a65c_get_915e3 hE (α 3 1) (α 3 (14 + 0)) (N 0) (α 0) (q) (by omega) (by omega)) Y_Jx4a65c_get_915e3 k_369 F_Jx4a65c_get_915e3 (hR.list 0 (by decide)).rcv rfl (hR.list 0 (by decide)) rfl hl.1 dX4_findLack_26 ⟨Nat.le_of_ble_eq_true rfl, Nat.le_of_ble_eq_true rfl⟩ ⟨Nat.le_of_ble_eq_true rfl, Nat.le_of_ble_eq_true rfl⟩ rfl (Nat.le_of_ble_eq_true rfl)) rfl rfl g_no (fun r5_ h6_ => ?_)
        obtain rfl := h6_
        refine g_cast2 (T := TX3) (N := 7) hC (hR.pow (i := q) (by omega)) rfl k_399 dX4_findLack_31 ?_
        refine lv_astore_n (lv' := [(3, .ref (α 0 q)), (0, .ref (α 3 0)), (1, .ref x), (2, .int (nI q))]) hx hb dX4_findLack_34 rfl hl (by decide) rfl (fun ls hl => ?_)
        refine lv_aload_n hx hb dX4_findLack_35 rfl (lv_at hl 0 rfl) ?_
        refine g_get (v := .int (ξ 2 q)) hC (hR.pow (i := q) (by omega)) (C := RX3) (T := TX3) (N := 7) rfl u3_in 2 (by decide) k_794 rfl dX4_findLack_36 ?_
        refine lv_aload_n hx hb dX4_findLack_39 rfl (lv_at hl 2 rfl) ?_
        refine g_get (v := .int (δ 3)) hC hD (C := RX0) (T := TX0) (N := 16) rfl u0_in 3 (by decide) k_308 rfl dX4_findLack_40 ?_
        refine lv_icmp_ne (tgt := 61) hx hb dX4_findLack_43 (by decide) (fun c7_ => ?_) (fun c7_ => ?_)
        · refine lv_iinc (v := nI (q + 1)) (lv' := [(2, .int (nI (q + 1))), (3, .ref (α 0 q)), (0, .ref (α 3 0)), (1, .ref x)]) hx hb dX4_findLack_61 hl (k := 3) rfl (g_inc _) (by decide) rfl (fun ls hl => ?_)
          refine lv_goto (tgt := 8) hx hb dX4_findLack_64 (by decide) ?_
          rw [← fLk_n (n := q) (by first | (exact fun z => absurd z.1 (by assumption)) | (exact fun z => absurd z.2 (by assumption)))] at hD
          exact ih_loop (q + 1) H lo ls (by omega) (by omega) ⟨hRB, hD⟩ hS (lv_sub hl [2, 3, 0] rfl)
        · refine lv_aload_n hx hb dX4_findLack_46 rfl (lv_at hl 1 rfl) ?_
          refine lv_aload_n hx hb dX4_findLack_47 rfl (lv_at hl 0 rfl) ?_
          refine lv_aload_n hx hb dX4_findLack_48 rfl (lv_at hl 2 rfl) ?_
          refine g_cRi (k2 := 0) (n2 := 0) (g_runV (rest := []) hC (c_X4_signersActBy hE (α := α) (ξ := ξ) (M := M) (N := N) x d (dL δ (fLk (xv ξ (M 0)) (M 0 5 0) (δ 1) (δ 2) (δ 3) (δ 8) q)) q (by omega)) Y_X4_signersActBy k_430 I_X4_signersActBy V_X4_signersActBy hR.sig rfl ⟨hR, hD⟩ rfl hl.1 dX4_findLack_49 ⟨Nat.le_of_ble_eq_true rfl, Nat.le_of_ble_eq_true rfl⟩ ⟨Nat.le_of_ble_eq_true rfl, Nat.le_of_ble_eq_true rfl⟩ rfl (Nat.le_of_ble_eq_true rfl)) rfl rfl g_no (fun r8_ h9_ => ?_)
          refine lv_if_eq (tgt := 61) hx hb dX4_findLack_52 (by decide) (fun c10_ => ?_) (fun c10_ => ?_)
          · have q11_ := bz.f h9_ c10_
            refine lv_iinc (v := nI (q + 1)) (lv' := [(2, .int (nI (q + 1))), (3, .ref (α 0 q)), (0, .ref (α 3 0)), (1, .ref x)]) hx hb dX4_findLack_61 hl (k := 3) rfl (g_inc _) (by decide) rfl (fun ls hl => ?_)
            refine lv_goto (tgt := 8) hx hb dX4_findLack_64 (by decide) ?_
            rw [← fLk_n (n := q) (by first | (exact fun z => absurd z.1 (by assumption)) | (exact fun z => absurd z.2 (by assumption)))] at hD
            exact ih_loop (q + 1) H lo ls (by omega) (by omega) ⟨hRB, hD⟩ hS (lv_sub hl [2, 3, 0] rfl)
          · have q11_ := bz.t h9_ c10_
            refine lv_aload_n hx hb dX4_findLack_55 rfl (lv_at hl 1 rfl) ?_
            refine lv_aload_n hx hb dX4_findLack_56 rfl (lv_at hl 2 rfl) ?_
            refine lv_aload_n hx hb dX4_findLack_57 rfl (lv_at hl 0 rfl) ?_
            refine g_cWv (k2 := 0) (n2 := 0) (g_runV (rest := []) hC (c_X4_noteLack hE (α := α) (ξ := ξ) (M := M) (N := N) (B := B) x d hxE hxn hxB δ q (by omega) (fLk (xv ξ (M 0)) (M 0 5 0) (δ 1) (δ 2) (δ 3) (δ 8) q) (fLk_in _ _ _ _ _ _ _)) Y_X4_noteLack k_434 I_X4_noteLack V_X4_noteLack hR.sig rfl ⟨hRB, hD⟩ rfl hl.1 dX4_findLack_58 ⟨Nat.le_of_ble_eq_true rfl, Nat.le_of_ble_eq_true rfl⟩ ⟨Nat.le_of_ble_eq_true rfl, Nat.le_of_ble_eq_true rfl⟩ rfl (Nat.le_of_ble_eq_true rfl)) hS (fun _ h => h) rfl rfl (fun H lo h13_ _ _ hS => ?_)
            obtain ⟨hRB, hD⟩ := h13_
            have hR := hRB.1
            refine lv_iinc (v := nI (q + 1)) (lv' := [(2, .int (nI (q + 1))), (3, .ref (α 0 q)), (0, .ref (α 3 0)), (1, .ref x)]) hx hb dX4_findLack_61 hl (k := 3) rfl (g_inc _) (by decide) rfl (fun ls hl => ?_)
            refine lv_goto (tgt := 8) hx hb dX4_findLack_64 (by decide) ?_
            rw [fLk_y (by assumption) (by assumption) hj2] at hD
            exact ih_loop (q + 1) H lo ls (by omega) (by omega) ⟨hRB, hD⟩ hS (lv_sub hl [2, 3, 0] rfl)
  exact loop ((N 0 - (0)) + 1) 0 H lo ls (by omega) (by omega) ⟨hRB, hD⟩ hS (lv_sub hl [1, 2, 0] rfl)
set_option maxHeartbeats 4000000 in
set_option maxRecDepth 100000 in
theorem c_X4_keepDeed {l : Launch} {E : gV} (hE : gOK l E) {α : Nat → Nat → Nat} {ξ : F2} {M : Nat → F2} {N : Nat → Nat} {B : Nat → Prop} (x : Nat) (hxE : E.2.1.heap.size ≤ x) (hxn : ∀ k i, xV N k i → α k i ≠ x) (hxB : ¬ B x) (δ : Nat → Int32) (hn1 : N 1 < 24) (hp1 : ∃ j, j < N 3 ∧ δ 1 = nI j) (hp2 : δ 2 = -1 ∨ ∃ j, j < N 3 ∧ δ 2 = nI j) (h11 : δ 11 = -1) (h12 : δ 12 = 0) : gM l E yX4_keepDeed cX4_keepDeed 2 (some .int) ({ frames := 7, cells := 1, slots := 1000, locals := 231 } : Room) [.ref (α 3 0), .ref x] (fun H => RB E B α ξ M N H ∧ gD E x (N 1) δ H) (gQW (gAB E B) (gWi (fun r H => r = nI (N 1) ∧ ∃ α2, α2 3 0 = α 3 0 ∧ RB E B α2 (deedX ξ (N 1) (kDeed ξ M N δ)) M (updN N 1 (N 1 + 1)) H))) (fun _ => False) (gAB E B) := by
  refine gM_body hE (by decide +kernel) (Nat.le_of_ble_eq_true rfl) ?_
  intro p_ e_ s m args below meth c hC ht hr hname hP ls hl
  have hx := hC.2.2.1
  have hb := hC.2.2.2.1
  have hl : lv_has ls 2 [(0, .ref (α 3 0)), (1, .ref x)] := hl
  have hS : va_S ((gAB E B)) s.heap s.heap [] := va_S.rf
  obtain ⟨hRB, hD⟩ := hP
  have hR : RX E α ξ M N s.heap := hRB.1
  have hSr := hR.inv.src (M 0)
  obtain ⟨hN0, hN1, hN2, hN3, -, hHo, hDe⟩ := hR.inv
  have hAl : ∀ q, s.heap.size ≤ q → gAB E B q := fun q hq => hRB.al hq
  have hxl := hD.lt
  have hj2 : δ 2 = -1 ∨ ¬ δ 2 < 0 := hp2.imp id (fun ⟨j, hj, e⟩ => by rw [e]; exact nI_pos (by omega))
  refine lv_aload_n hx hb dX4_keepDeed_0 rfl (lv_at hl 1 rfl) ?_
  refine lv_aload_n hx hb dX4_keepDeed_1 rfl (lv_at hl 0 rfl) ?_
  refine g_get (v := .ref (α 3 4)) hC hR.sig (C := RX4) (T := TX4) (N := 6) rfl u4_in 3 (by decide) k_729 rfl dX4_keepDeed_2 ?_
  refine g_get (v := .int (M 0 5 0)) hC (hR.mom 0 (by decide)) (C := RX1) (T := TX1) (N := 6) rfl u1_in 5 (by decide) k_710 rfl dX4_keepDeed_5 ?_
  refine x_putD (y := M 0 5 0) (δ := δ) 6 (by decide) hC hRB hD hxE hxn hxB hS k_313 rfl rfl rfl rfl dX4_keepDeed_8 (fun H lo hRB hD hS => ?_)
  have hR := hRB.1
  refine lv_aload_n hx hb dX4_keepDeed_11 rfl (lv_at hl 1 rfl) ?_
  refine lv_aload_n hx hb dX4_keepDeed_12 rfl (lv_at hl 0 rfl) ?_
  refine g_get (v := .ref (α 3 3)) hC hR.sig (C := RX4) (T := TX4) (N := 6) rfl u4_in 2 (by decide) k_728 rfl dX4_keepDeed_13 ?_
  refine g_cRFi (k2 := 0) (n2 := 0) (g_runF (rest := [.ref x]) hC (c_Jx4a65c_size_8abf5 hE (α 3 3) (α 3 (14 + 2)) (N 2) (α 2)) Y_Jx4a65c_size_8abf5 k_165 F_Jx4a65c_size_8abf5 (hR.list 2 (by decide)).rcv rfl (hR.list 2 (by decide)) rfl hl.1 dX4_keepDeed_16 ⟨Nat.le_of_ble_eq_true rfl, Nat.le_of_ble_eq_true rfl⟩ ⟨Nat.le_of_ble_eq_true rfl, Nat.le_of_ble_eq_true rfl⟩ rfl (Nat.le_of_ble_eq_true rfl)) rfl rfl g_no (fun r1_ h2_ => ?_)
  obtain rfl := h2_
  refine x_putD (y := nI (N 2)) (δ := (upd δ 6 (M 0 5 0))) 7 (by decide) hC hRB hD hxE hxn hxB hS k_314 rfl rfl rfl rfl dX4_keepDeed_21 (fun H lo hRB hD hS => ?_)
  have hR := hRB.1
  refine lv_aload_n hx hb dX4_keepDeed_24 rfl (lv_at hl 1 rfl) ?_
  refine lv_aload_n hx hb dX4_keepDeed_25 rfl (lv_at hl 0 rfl) ?_
  refine lv_aload_n hx hb dX4_keepDeed_26 rfl (lv_at hl 1 rfl) ?_
  refine lv_aload_n hx hb dX4_keepDeed_27 rfl (lv_at hl 0 rfl) ?_
  refine g_get (v := .ref (α 3 4)) hC hR.sig (C := RX4) (T := TX4) (N := 6) rfl u4_in 3 (by decide) k_729 rfl dX4_keepDeed_28 ?_
  refine g_cRi (k2 := 0) (n2 := 0) (g_runV (rest := [.ref x]) hC (c_X4_addUp hE (α := α) (ξ := ξ) (M := M) (N := N) x (N 1) (upd (upd δ 6 (M 0 5 0)) 7 (nI (N 2))) (by omega) 0 (by decide)) Y_X4_addUp k_364 I_X4_addUp V_X4_addUp hR.sig rfl ⟨hR, hD⟩ rfl hl.1 dX4_keepDeed_31 ⟨Nat.le_of_ble_eq_true rfl, Nat.le_of_ble_eq_true rfl⟩ ⟨Nat.le_of_ble_eq_true rfl, Nat.le_of_ble_eq_true rfl⟩ rfl (Nat.le_of_ble_eq_true rfl)) rfl rfl g_no (fun r3_ h4_ => ?_)
  obtain rfl : r3_ = kSum ξ M N δ := h4_
  refine x_putD (y := kSum ξ M N δ) (δ := (upd (upd δ 6 (M 0 5 0)) 7 (nI (N 2)))) 8 (by decide) hC hRB hD hxE hxn hxB hS k_315 rfl rfl rfl rfl dX4_keepDeed_34 (fun H lo hRB hD hS => ?_)
  have hR := hRB.1
  refine lv_aload_n hx hb dX4_keepDeed_37 rfl (lv_at hl 0 rfl) ?_
  refine lv_aload_n hx hb dX4_keepDeed_38 rfl (lv_at hl 1 rfl) ?_
  refine lv_aload_n hx hb dX4_keepDeed_39 rfl (lv_at hl 1 rfl) ?_
  refine g_get (v := .int (kSum ξ M N δ)) hC hD (C := RX0) (T := TX0) (N := 16) rfl u0_in 8 (by decide) k_315 rfl dX4_keepDeed_40 ?_
  refine lv_aload_n hx hb dX4_keepDeed_43 rfl (lv_at hl 0 rfl) ?_
  refine g_get (v := .ref (α 3 4)) hC hR.sig (C := RX4) (T := TX4) (N := 6) rfl u4_in 3 (by decide) k_729 rfl dX4_keepDeed_44 ?_
  refine g_cRi (k2 := 0) (n2 := 0) (g_runV (rest := []) hC (c_X4_signersSuffice hE (α := α) (ξ := ξ) (M := M) (N := N) x (N 1) (upd (upd (upd δ 6 (M 0 5 0)) 7 (nI (N 2))) 8 (kSum ξ M N δ)) hj2 (kSum ξ M N δ) 0 (by decide)) Y_X4_signersSuffice k_391 I_X4_signersSuffice V_X4_signersSuffice hR.sig rfl ⟨hR, hD⟩ rfl hl.1 dX4_keepDeed_47 ⟨Nat.le_of_ble_eq_true rfl, Nat.le_of_ble_eq_true rfl⟩ ⟨Nat.le_of_ble_eq_true rfl, Nat.le_of_ble_eq_true rfl⟩ rfl (Nat.le_of_ble_eq_true rfl)) rfl rfl g_no (fun r5_ h6_ => ?_)
  have f7_ : bz (mOk (xv ξ (M 0)) (N 0) (M 0 5 0) (δ 1) (δ 2) (δ 3) (kSum ξ M N δ)) r5_ := h6_
  refine lv_if_eq (tgt := 62) hx hb dX4_keepDeed_50 (by decide) (fun c8_ => ?_) (fun c8_ => ?_)
  · have q9_ := bz.f f7_ c8_
    refine lv_aload_n hx hb dX4_keepDeed_62 rfl (lv_at hl 1 rfl) ?_
    refine lv_bipush (v := 119) hx hb dX4_keepDeed_63 (by decide) ?_
    refine x_putD (y := 119) (δ := (upd (upd (upd δ 6 (M 0 5 0)) 7 (nI (N 2))) 8 (kSum ξ M N δ))) 9 (by decide) hC hRB hD hxE hxn hxB hS k_317 rfl rfl rfl rfl dX4_keepDeed_65 (fun H lo hRB hD hS => ?_)
    have hR := hRB.1
    refine lv_aload_n hx hb dX4_keepDeed_68 rfl (lv_at hl 0 rfl) ?_
    refine lv_aload_n hx hb dX4_keepDeed_69 rfl (lv_at hl 1 rfl) ?_
    refine g_cWv (k2 := 0) (n2 := 0) (g_runV (rest := []) hC (c_X4_findLack hE (α := α) (ξ := ξ) (M := M) (N := N) (B := B) x (N 1) hxE hxn hxB (upd (kRow M N δ (kSum ξ M N δ)) 9 119) h11 h12 hj2) Y_X4_findLack k_426 I_X4_findLack V_X4_findLack hR.sig rfl ⟨hRB, hD⟩ rfl hl.1 dX4_keepDeed_70 ⟨Nat.le_of_ble_eq_true rfl, Nat.le_of_ble_eq_true rfl⟩ ⟨Nat.le_of_ble_eq_true rfl, Nat.le_of_ble_eq_true rfl⟩ rfl (Nat.le_of_ble_eq_true rfl)) hS (fun _ h => h) rfl rfl (fun H lo h11_ _ _ hS => ?_)
    obtain ⟨hRB, hD⟩ := h11_
    have hR := hRB.1
    have hD : gD E x (N 1) (dL (upd (kRow M N δ (kSum ξ M N δ)) 9 119) (fLk (xv ξ (M 0)) (M 0 5 0) (δ 1) (δ 2) (δ 3) (kSum ξ M N δ) (N 0))) H := hD
    have hB := hD
    have hxl := hB.lt
    refine lv_aload_n hx hb dX4_keepDeed_73 rfl (lv_at hl 0 rfl) ?_
    refine g_get (v := .ref (α 3 2)) hC hR.sig (C := RX4) (T := TX4) (N := 6) rfl u4_in 1 (by decide) k_727 rfl dX4_keepDeed_74 ?_
    refine lv_aload_n hx hb dX4_keepDeed_77 rfl (lv_at hl 1 rfl) ?_
    refine g_cWFi (k2 := 1) (n2 := 1000) (g_runF (rest := []) hC (c_Jx4a65c_add_9ea2d hE (α 3 2) (α 3 15) (N 1) H.size x (α 1) (by have := hR.nle 1 (by decide); omega) (hR.ge 3 2 (xV_3 (by decide))) (fun h0 => hR.ge 3 15 (Or.inr ⟨rfl, Or.inr ⟨1, by decide, rfl, h0⟩⟩)) (fun h0 z => absurd (hR.apart (Or.inr ⟨rfl, Or.inr ⟨1, by decide, rfl, h0⟩⟩) (xV_3 (i := 2) (by decide)) z).2 (by decide)) (fun z => hxn 3 2 (xV_3 (by decide)) z.symm) (fun h0 z => hxn 3 15 (Or.inr ⟨rfl, Or.inr ⟨1, by decide, rfl, h0⟩⟩) z.symm) (fun i hi z => absurd (hR.apart (Or.inl ⟨by decide, hi⟩) (xV_3 (i := 2) (by decide)) z).1 (by decide))) Y_Jx4a65c_add_9ea2d k_175 F_Jx4a65c_add_9ea2d (hR.list 1 (by decide)).rcv rfl ⟨⟨⟨hR.frz, rfl⟩, hR.list 1 (by decide), hR.gO2 1 (by decide)⟩, ⟨_, _, Or.inl rfl, hB⟩⟩ rfl hl.1 dX4_keepDeed_78 ⟨Nat.le_of_ble_eq_true rfl, Nat.le_of_ble_eq_true rfl⟩ ⟨Nat.le_of_ble_eq_true rfl, Nat.le_of_ble_eq_true rfl⟩ rfl (Nat.le_of_ble_eq_true rfl)) hS (hRB.lA 1 (by decide)) rfl rfl (fun r12_ H lo h13_ hz_ hk_ hS => ?_)
    obtain ⟨rfl, t1, ht1, hL1⟩ := h13_
    have hB0 := hB
    have hB := hB.kept (hk_ x hxl (fun z => z.elim (fun z => hxn 3 2 (xV_3 (by decide)) z.symm) (fun z => z.elim (fun z => hxn 3 15 (Or.inr ⟨rfl, Or.inr ⟨1, by decide, rfl, z.1⟩⟩) z.2.symm) (fun z => by omega))))
    have hg1 := hRB.gadd 1 (by decide) hxE hxn hxl ht1 hL1 hk_
    have hKd : kDeed ξ M N δ = dL (upd (kRow M N δ (kSum ξ M N δ)) 9 119) (fLk (xv ξ (M 0)) (M 0 5 0) (δ 1) (δ 2) (δ 3) (kSum ξ M N δ) (N 0)) := cif_neg (by assumption)
    have k1 : kDeed ξ M N δ 1 = δ 1 := by rw [hKd]; rfl
    have k2 : kDeed ξ M N δ 2 = δ 2 := by rw [hKd]; rfl
    rw [← hKd] at hB
    have hRB : RB E B (aAdd α 1 (N 1) x t1) (deedX ξ (N 1) (kDeed ξ M N δ)) M (updN N 1 (N 1 + 1)) H := ⟨hR.addDeed hg1 hn1 hB (by rw [k1]; exact hp1) (by rw [k2]; exact hp2) deedX_n deedX_v, hRB.addB (by decide) hxB ht1, fun q z => Nat.lt_of_lt_of_le (hRB.2.2 q z) hz_⟩
    have hR := hRB.1
    refine lv_pop hx hb dX4_keepDeed_83 rfl ?_
    have hD : gD E x (N 1) (kDeed ξ M N δ) H := hB
    refine lv_aload_n hx hb dX4_keepDeed_84 rfl (lv_at hl 1 rfl) ?_
    refine g_get (v := .int (nI (N 1))) hC hD (C := RX0) (T := TX0) (N := 16) rfl u0_in 0 (by decide) k_302 rfl dX4_keepDeed_85 ?_
    exact g_iretW hC hr dX4_keepDeed_88 hS (Nat.le_of_ble_eq_true rfl) (Nat.le_of_ble_eq_true rfl) ⟨rfl, aAdd α 1 (N 1) x t1, rfl, hRB⟩
  · have q9_ := bz.t f7_ c8_
    refine lv_aload_n hx hb dX4_keepDeed_53 rfl (lv_at hl 1 rfl) ?_
    refine lv_bipush (v := 115) hx hb dX4_keepDeed_54 (by decide) ?_
    refine x_putD (y := 115) (δ := (upd (upd (upd δ 6 (M 0 5 0)) 7 (nI (N 2))) 8 (kSum ξ M N δ))) 9 (by decide) hC hRB hD hxE hxn hxB hS k_317 rfl rfl rfl rfl dX4_keepDeed_56 (fun H lo hRB hD hS => ?_)
    have hR := hRB.1
    refine lv_goto (tgt := 73) hx hb dX4_keepDeed_59 (by decide) ?_
    have hB := hD
    have hxl := hB.lt
    refine lv_aload_n hx hb dX4_keepDeed_73 rfl (lv_at hl 0 rfl) ?_
    refine g_get (v := .ref (α 3 2)) hC hR.sig (C := RX4) (T := TX4) (N := 6) rfl u4_in 1 (by decide) k_727 rfl dX4_keepDeed_74 ?_
    refine lv_aload_n hx hb dX4_keepDeed_77 rfl (lv_at hl 1 rfl) ?_
    refine g_cWFi (k2 := 1) (n2 := 1000) (g_runF (rest := []) hC (c_Jx4a65c_add_9ea2d hE (α 3 2) (α 3 15) (N 1) H.size x (α 1) (by have := hR.nle 1 (by decide); omega) (hR.ge 3 2 (xV_3 (by decide))) (fun h0 => hR.ge 3 15 (Or.inr ⟨rfl, Or.inr ⟨1, by decide, rfl, h0⟩⟩)) (fun h0 z => absurd (hR.apart (Or.inr ⟨rfl, Or.inr ⟨1, by decide, rfl, h0⟩⟩) (xV_3 (i := 2) (by decide)) z).2 (by decide)) (fun z => hxn 3 2 (xV_3 (by decide)) z.symm) (fun h0 z => hxn 3 15 (Or.inr ⟨rfl, Or.inr ⟨1, by decide, rfl, h0⟩⟩) z.symm) (fun i hi z => absurd (hR.apart (Or.inl ⟨by decide, hi⟩) (xV_3 (i := 2) (by decide)) z).1 (by decide))) Y_Jx4a65c_add_9ea2d k_175 F_Jx4a65c_add_9ea2d (hR.list 1 (by decide)).rcv rfl ⟨⟨⟨hR.frz, rfl⟩, hR.list 1 (by decide), hR.gO2 1 (by decide)⟩, ⟨_, _, Or.inl rfl, hB⟩⟩ rfl hl.1 dX4_keepDeed_78 ⟨Nat.le_of_ble_eq_true rfl, Nat.le_of_ble_eq_true rfl⟩ ⟨Nat.le_of_ble_eq_true rfl, Nat.le_of_ble_eq_true rfl⟩ rfl (Nat.le_of_ble_eq_true rfl)) hS (hRB.lA 1 (by decide)) rfl rfl (fun r14_ H lo h15_ hz_ hk_ hS => ?_)
    obtain ⟨rfl, t1, ht1, hL1⟩ := h15_
    have hB0 := hB
    have hB := hB.kept (hk_ x hxl (fun z => z.elim (fun z => hxn 3 2 (xV_3 (by decide)) z.symm) (fun z => z.elim (fun z => hxn 3 15 (Or.inr ⟨rfl, Or.inr ⟨1, by decide, rfl, z.1⟩⟩) z.2.symm) (fun z => by omega))))
    have hg1 := hRB.gadd 1 (by decide) hxE hxn hxl ht1 hL1 hk_
    have hKd : kDeed ξ M N δ = (upd (upd (upd (upd δ 6 (M 0 5 0)) 7 (nI (N 2))) 8 (kSum ξ M N δ)) 9 115) := cif_pos (by assumption)
    have k1 : kDeed ξ M N δ 1 = δ 1 := by rw [hKd]; rfl
    have k2 : kDeed ξ M N δ 2 = δ 2 := by rw [hKd]; rfl
    rw [← hKd] at hB
    have hRB : RB E B (aAdd α 1 (N 1) x t1) (deedX ξ (N 1) (kDeed ξ M N δ)) M (updN N 1 (N 1 + 1)) H := ⟨hR.addDeed hg1 hn1 hB (by rw [k1]; exact hp1) (by rw [k2]; exact hp2) deedX_n deedX_v, hRB.addB (by decide) hxB ht1, fun q z => Nat.lt_of_lt_of_le (hRB.2.2 q z) hz_⟩
    have hR := hRB.1
    refine lv_pop hx hb dX4_keepDeed_83 rfl ?_
    have hD : gD E x (N 1) (kDeed ξ M N δ) H := hB
    refine lv_aload_n hx hb dX4_keepDeed_84 rfl (lv_at hl 1 rfl) ?_
    refine g_get (v := .int (nI (N 1))) hC hD (C := RX0) (T := TX0) (N := 16) rfl u0_in 0 (by decide) k_302 rfl dX4_keepDeed_85 ?_
    exact g_iretW hC hr dX4_keepDeed_88 hS (Nat.le_of_ble_eq_true rfl) (Nat.le_of_ble_eq_true rfl) ⟨rfl, aAdd α 1 (N 1) x t1, rfl, hRB⟩
