set_option maxHeartbeats 4000000 in
set_option maxRecDepth 100000 in
theorem c_X4_isBetween {l : Launch} {E : gV} (hE : gOK l E) (v lo hi : Int32) : gM l E yX4_isBetween cX4_isBetween 3 (some .boolean) ({ frames := 0, cells := 0, slots := 0, locals := 0 } : Room) [.int v, .int lo, .int hi] (fun H => True) (gQR (gPi (bz (lo ≤ v ∧ v ≤ hi)))) (fun _ => False) gN := by
  refine gM_body hE (by decide +kernel) (Nat.le_of_ble_eq_true rfl) ?_
  intro p_ e_ s m args below meth c hC ht hr hname hP ls hl
  have hx := hC.2.2.1
  have hb := hC.2.2.2.1
  have hl : lv_has ls 3 [(0, .int v), (1, .int lo), (2, .int hi)] := hl
  refine lv_iload_n hx hb dX4_isBetween_0 rfl (lv_at hl 0 rfl) ?_
  refine lv_iload_n hx hb dX4_isBetween_1 rfl (lv_at hl 1 rfl) ?_
  refine lv_icmp_lt (tgt := 14) hx hb dX4_isBetween_2 (by decide) (fun c1_ => ?_) (fun c1_ => ?_)
  · refine lv_iconst (v := 0) hx hb dX4_isBetween_14 (by decide) ?_
    exact g_zret hC hr rfl dX4_isBetween_15 (Nat.le_of_ble_eq_true rfl) (Nat.le_of_ble_eq_true rfl) (bz_0 (by grind))
  · refine lv_iload_n hx hb dX4_isBetween_5 rfl (lv_at hl 0 rfl) ?_
    refine lv_iload_n hx hb dX4_isBetween_6 rfl (lv_at hl 2 rfl) ?_
    refine lv_icmp_gt (tgt := 14) hx hb dX4_isBetween_7 (by decide) (fun c2_ => ?_) (fun c2_ => ?_)
    · refine lv_iconst (v := 0) hx hb dX4_isBetween_14 (by decide) ?_
      exact g_zret hC hr rfl dX4_isBetween_15 (Nat.le_of_ble_eq_true rfl) (Nat.le_of_ble_eq_true rfl) (bz_0 (by grind))
    · refine lv_iconst (v := 1) hx hb dX4_isBetween_10 (by decide) ?_
      refine lv_goto (tgt := 15) hx hb dX4_isBetween_11 (by decide) ?_
      exact g_zret hC hr rfl dX4_isBetween_15 (Nat.le_of_ble_eq_true rfl) (Nat.le_of_ble_eq_true rfl) (bz_1 (by grind))
set_option maxHeartbeats 4000000 in
set_option maxRecDepth 100000 in
theorem c_X4_isIndex {l : Launch} {E : gV} (hE : gOK l E) (v n : Int32) : gM l E yX4_isIndex cX4_isIndex 2 (some .boolean) ({ frames := 0, cells := 0, slots := 0, locals := 0 } : Room) [.int v, .int n] (fun H => True) (gQR (gPi (bz (0 ≤ v ∧ v < n)))) (fun _ => False) gN := by
  refine gM_body hE (by decide +kernel) (Nat.le_of_ble_eq_true rfl) ?_
  intro p_ e_ s m args below meth c hC ht hr hname hP ls hl
  have hx := hC.2.2.1
  have hb := hC.2.2.2.1
  have hl : lv_has ls 2 [(0, .int v), (1, .int n)] := hl
  refine lv_iload_n hx hb dX4_isIndex_0 rfl (lv_at hl 0 rfl) ?_
  refine lv_if_lt (tgt := 13) hx hb dX4_isIndex_1 (by decide) (fun c1_ => ?_) (fun c1_ => ?_)
  · refine lv_iconst (v := 0) hx hb dX4_isIndex_13 (by decide) ?_
    exact g_zret hC hr rfl dX4_isIndex_14 (Nat.le_of_ble_eq_true rfl) (Nat.le_of_ble_eq_true rfl) (bz_0 (by grind))
  · refine lv_iload_n hx hb dX4_isIndex_4 rfl (lv_at hl 0 rfl) ?_
    refine lv_iload_n hx hb dX4_isIndex_5 rfl (lv_at hl 1 rfl) ?_
    refine lv_icmp_ge (tgt := 13) hx hb dX4_isIndex_6 (by decide) (fun c2_ => ?_) (fun c2_ => ?_)
    · refine lv_iconst (v := 0) hx hb dX4_isIndex_13 (by decide) ?_
      exact g_zret hC hr rfl dX4_isIndex_14 (Nat.le_of_ble_eq_true rfl) (Nat.le_of_ble_eq_true rfl) (bz_0 (by grind))
    · refine lv_iconst (v := 1) hx hb dX4_isIndex_9 (by decide) ?_
      refine lv_goto (tgt := 14) hx hb dX4_isIndex_10 (by decide) ?_
      exact g_zret hC hr rfl dX4_isIndex_14 (Nat.le_of_ble_eq_true rfl) (Nat.le_of_ble_eq_true rfl) (bz_1 (by grind))
set_option maxHeartbeats 4000000 in
set_option maxRecDepth 100000 in
theorem c_X4_suffice {l : Launch} {E : gV} (hE : gOK l E) (h o : Int32) : gM l E yX4_suffice cX4_suffice 2 (some .boolean) ({ frames := 0, cells := 0, slots := 0, locals := 0 } : Room) [.int h, .int o] (fun H => True) (gQR (gPi (bz (fSuf h o)))) (fun _ => False) gN := by
  refine gM_body hE (by decide +kernel) (Nat.le_of_ble_eq_true rfl) ?_
  intro p_ e_ s m args below meth c hC ht hr hname hP ls hl
  have hx := hC.2.2.1
  have hb := hC.2.2.2.1
  have hl : lv_has ls 2 [(0, .int h), (1, .int o)] := hl
  refine lv_iload_n hx hb dX4_suffice_0 rfl (lv_at hl 0 rfl) ?_
  refine lv_iload_n hx hb dX4_suffice_1 rfl (lv_at hl 1 rfl) ?_
  refine lv_ior hx hb dX4_suffice_2 ?_
  refine lv_iconst (v := 1) hx hb dX4_suffice_3 (by decide) ?_
  refine lv_iand hx hb dX4_suffice_4 ?_
  refine lv_if_ne (tgt := 32) hx hb dX4_suffice_5 (by decide) (fun c1_ => ?_) (fun c1_ => ?_)
  · refine lv_iconst (v := 1) hx hb dX4_suffice_32 (by decide) ?_
    refine lv_goto (tgt := 37) hx hb dX4_suffice_33 (by decide) ?_
    exact g_zret hC hr rfl dX4_suffice_37 (Nat.le_of_ble_eq_true rfl) (Nat.le_of_ble_eq_true rfl) (bz_1 (by unfold fSuf; grind))
  · refine lv_iload_n hx hb dX4_suffice_8 rfl (lv_at hl 0 rfl) ?_
    refine lv_iconst (v := 2) hx hb dX4_suffice_9 (by decide) ?_
    refine lv_iand hx hb dX4_suffice_10 ?_
    refine lv_if_eq (tgt := 20) hx hb dX4_suffice_11 (by decide) (fun c3_ => ?_) (fun c3_ => ?_)
    · refine lv_iload_n hx hb dX4_suffice_20 rfl (lv_at hl 0 rfl) ?_
      refine lv_iconst (v := 4) hx hb dX4_suffice_21 (by decide) ?_
      refine lv_iand hx hb dX4_suffice_22 ?_
      refine lv_if_eq (tgt := 36) hx hb dX4_suffice_23 (by decide) (fun c5_ => ?_) (fun c5_ => ?_)
      · refine lv_iconst (v := 0) hx hb dX4_suffice_36 (by decide) ?_
        exact g_zret hC hr rfl dX4_suffice_37 (Nat.le_of_ble_eq_true rfl) (Nat.le_of_ble_eq_true rfl) (bz_0 (by unfold fSuf; grind))
      · refine lv_iload_n hx hb dX4_suffice_26 rfl (lv_at hl 1 rfl) ?_
        refine lv_iconst (v := 2) hx hb dX4_suffice_27 (by decide) ?_
        refine lv_iand hx hb dX4_suffice_28 ?_
        refine lv_if_eq (tgt := 36) hx hb dX4_suffice_29 (by decide) (fun c7_ => ?_) (fun c7_ => ?_)
        · refine lv_iconst (v := 0) hx hb dX4_suffice_36 (by decide) ?_
          exact g_zret hC hr rfl dX4_suffice_37 (Nat.le_of_ble_eq_true rfl) (Nat.le_of_ble_eq_true rfl) (bz_0 (by unfold fSuf; grind))
        · refine lv_iconst (v := 1) hx hb dX4_suffice_32 (by decide) ?_
          refine lv_goto (tgt := 37) hx hb dX4_suffice_33 (by decide) ?_
          exact g_zret hC hr rfl dX4_suffice_37 (Nat.le_of_ble_eq_true rfl) (Nat.le_of_ble_eq_true rfl) (bz_1 (by unfold fSuf; grind))
    · refine lv_iload_n hx hb dX4_suffice_14 rfl (lv_at hl 1 rfl) ?_
      refine lv_iconst (v := 4) hx hb dX4_suffice_15 (by decide) ?_
      refine lv_iand hx hb dX4_suffice_16 ?_
      refine lv_if_ne (tgt := 32) hx hb dX4_suffice_17 (by decide) (fun c9_ => ?_) (fun c9_ => ?_)
      · refine lv_iconst (v := 1) hx hb dX4_suffice_32 (by decide) ?_
        refine lv_goto (tgt := 37) hx hb dX4_suffice_33 (by decide) ?_
        exact g_zret hC hr rfl dX4_suffice_37 (Nat.le_of_ble_eq_true rfl) (Nat.le_of_ble_eq_true rfl) (bz_1 (by unfold fSuf; grind))
      · refine lv_iload_n hx hb dX4_suffice_20 rfl (lv_at hl 0 rfl) ?_
        refine lv_iconst (v := 4) hx hb dX4_suffice_21 (by decide) ?_
        refine lv_iand hx hb dX4_suffice_22 ?_
        refine lv_if_eq (tgt := 36) hx hb dX4_suffice_23 (by decide) (fun c11_ => ?_) (fun c11_ => ?_)
        · refine lv_iconst (v := 0) hx hb dX4_suffice_36 (by decide) ?_
          exact g_zret hC hr rfl dX4_suffice_37 (Nat.le_of_ble_eq_true rfl) (Nat.le_of_ble_eq_true rfl) (bz_0 (by unfold fSuf; grind))
        · refine lv_iload_n hx hb dX4_suffice_26 rfl (lv_at hl 1 rfl) ?_
          refine lv_iconst (v := 2) hx hb dX4_suffice_27 (by decide) ?_
          refine lv_iand hx hb dX4_suffice_28 ?_
          refine lv_if_eq (tgt := 36) hx hb dX4_suffice_29 (by decide) (fun c13_ => ?_) (fun c13_ => ?_)
          · refine lv_iconst (v := 0) hx hb dX4_suffice_36 (by decide) ?_
            exact g_zret hC hr rfl dX4_suffice_37 (Nat.le_of_ble_eq_true rfl) (Nat.le_of_ble_eq_true rfl) (bz_0 (by unfold fSuf; grind))
          · refine lv_iconst (v := 1) hx hb dX4_suffice_32 (by decide) ?_
            refine lv_goto (tgt := 37) hx hb dX4_suffice_33 (by decide) ?_
            exact g_zret hC hr rfl dX4_suffice_37 (Nat.le_of_ble_eq_true rfl) (Nat.le_of_ble_eq_true rfl) (bz_1 (by unfold fSuf; grind))
set_option maxHeartbeats 4000000 in
set_option maxRecDepth 100000 in
theorem c_Jx4a65c_size_8abf5 {l : Launch} {E : gV} (hE : gOK l E) (a t n : Nat) (row : Nat → Nat) : gM l E yJx4a65c_size_8abf5 cJx4a65c_size_8abf5 1 (some .int) ({ frames := 0, cells := 0, slots := 0, locals := 0 } : Room) [.ref a] (fun H => gL E a t n row H) (gQR (gPi (fun r => r = nI n))) (fun _ => False) gN := by
  refine gM_body hE (by decide +kernel) (Nat.le_of_ble_eq_true rfl) ?_
  intro p_ e_ s m args below meth c hC ht hr hname hP ls hl
  have hx := hC.2.2.1
  have hb := hC.2.2.2.1
  have hl : lv_has ls 1 [(0, .ref a)] := hl
  obtain ⟨mc, hL1, -⟩ := (show gL E a t n row s.heap from hP)
  refine lv_aload_n hx hb dJx4a65c_size_8abf5_0 rfl (lv_at hl 0 rfl) ?_
  refine g_get (v := .int (nI n)) hC hL1 (C := RJx4a65c) (T := TJx4a65c) (N := 3) rfl uJ_in 2 (by decide) k_683 rfl dJx4a65c_size_8abf5_1 ?_
  exact g_iret hC hr dJx4a65c_size_8abf5_4 (Nat.le_of_ble_eq_true rfl) (Nat.le_of_ble_eq_true rfl) rfl
set_option maxHeartbeats 4000000 in
set_option maxRecDepth 100000 in
theorem c_J3_checkIndex_8e157 {l : Launch} {E : gV} (hE : gOK l E) (i n : Nat) (hi : i < n) (hn : n < 2 ^ 31) : gM l E yJ3_checkIndex_8e157 cJ3_checkIndex_8e157 3 (some .int) ({ frames := 0, cells := 0, slots := 0, locals := 0 } : Room) [.int (nI i), .int (nI n), .null] (fun H => True) (gQR (gPi (fun r => r = nI i))) (fun _ => False) gN := by
  refine gM_body hE (by decide +kernel) (Nat.le_of_ble_eq_true rfl) ?_
  intro p_ e_ s m args below meth c hC ht hr hname hP ls hl
  have hx := hC.2.2.1
  have hb := hC.2.2.2.1
  have hl : lv_has ls 3 [(0, .int (nI i)), (1, .int (nI n)), (2, .null)] := hl
  refine lv_iload_n hx hb dJ3_checkIndex_8e157_0 rfl (lv_at hl 0 rfl) ?_
  refine lv_if_lt (tgt := 9) hx hb dJ3_checkIndex_8e157_1 (by decide) (fun c1_ => ?_) (fun c1_ => ?_)
  · exact absurd c1_ (nI_pos (by omega))
  · refine lv_iload_n hx hb dJ3_checkIndex_8e157_4 rfl (lv_at hl 0 rfl) ?_
    refine lv_iload_n hx hb dJ3_checkIndex_8e157_5 rfl (lv_at hl 1 rfl) ?_
    refine lv_icmp_lt (tgt := 16) hx hb dJ3_checkIndex_8e157_6 (by decide) (fun c2_ => ?_) (fun c2_ => ?_)
    · refine lv_iload_n hx hb dJ3_checkIndex_8e157_16 rfl (lv_at hl 0 rfl) ?_
      exact g_iret hC hr dJ3_checkIndex_8e157_17 (Nat.le_of_ble_eq_true rfl) (Nat.le_of_ble_eq_true rfl) rfl
    · exact absurd (nI_lt hi hn) c2_
set_option maxHeartbeats 4000000 in
set_option maxRecDepth 100000 in
theorem c_J15_checkIndex_7cf53 {l : Launch} {E : gV} (hE : gOK l E) (i n : Nat) (hi : i < n) (hn : n < 2 ^ 31) : gM l E yJ15_checkIndex_7cf53 cJ15_checkIndex_7cf53 2 (some .int) ({ frames := 1, cells := 0, slots := 0, locals := 22 } : Room) [.int (nI i), .int (nI n)] (fun H => True) (gQR (gPi (fun r => r = nI i))) (fun _ => False) gN := by
  refine gM_body hE (by decide +kernel) (Nat.le_of_ble_eq_true rfl) ?_
  intro p_ e_ s m args below meth c hC ht hr hname hP ls hl
  have hx := hC.2.2.1
  have hb := hC.2.2.2.1
  have hl : lv_has ls 2 [(0, .int (nI i)), (1, .int (nI n))] := hl
  refine lv_iload_n hx hb dJ15_checkIndex_7cf53_0 rfl (lv_at hl 0 rfl) ?_
  refine lv_iload_n hx hb dJ15_checkIndex_7cf53_1 rfl (lv_at hl 1 rfl) ?_
  refine lv_null hx hb dJ15_checkIndex_7cf53_2 ?_
  refine g_cRi (k2 := 0) (n2 := 0) (g_runS (rest := []) hC (c_J3_checkIndex_8e157 hE i n hi hn) Y_J3_checkIndex_8e157 k_380 S_J3_checkIndex_8e157 trivial rfl hl.1 dJ15_checkIndex_7cf53_3 ⟨Nat.le_of_ble_eq_true rfl, Nat.le_of_ble_eq_true rfl⟩ ⟨Nat.le_of_ble_eq_true rfl, Nat.le_of_ble_eq_true rfl⟩ rfl (Nat.le_of_ble_eq_true rfl)) rfl rfl g_no (fun r1_ h2_ => ?_)
  obtain rfl := h2_
  exact g_iret hC hr dJ15_checkIndex_7cf53_6 (Nat.le_of_ble_eq_true rfl) (Nat.le_of_ble_eq_true rfl) rfl
set_option maxHeartbeats 4000000 in
set_option maxRecDepth 100000 in
theorem c_Jx4a65c_elementData_915e3 {l : Launch} {E : gV} (hE : gOK l E) (a t n : Nat) (row : Nat → Nat) (i : Nat) (hi : i < n) (hn : n ≤ 1000) : gM l E yJx4a65c_elementData_915e3 cJx4a65c_elementData_915e3 2 (some (.object "java/lang/Object")) ({ frames := 0, cells := 0, slots := 0, locals := 0 } : Room) [.ref a, .int (nI i)] (fun H => gL E a t n row H) (gQR (gPr (fun r => r = row i))) (fun _ => False) gN := by
  refine gM_body hE (by decide +kernel) (Nat.le_of_ble_eq_true rfl) ?_
  intro p_ e_ s m args below meth c hC ht hr hname hP ls hl
  have hx := hC.2.2.1
  have hb := hC.2.2.2.1
  have hl : lv_has ls 2 [(0, .ref a), (1, .int (nI i))] := hl
  obtain ⟨mc, hL1, -, hL3⟩ := (show gL E a t n row s.heap from hP)
  obtain ⟨cap, rw_, hc1, hc2, hL4, hL5⟩ := hL3 (by omega)
  refine lv_aload_n hx hb dJx4a65c_elementData_915e3_0 rfl (lv_at hl 0 rfl) ?_
  refine g_get (v := .ref t) hC hL1 (C := RJx4a65c) (T := TJx4a65c) (N := 3) rfl uJ_in 1 (by decide) k_682 rfl dJx4a65c_elementData_915e3_1 ?_
  refine lv_iload_n hx hb dJx4a65c_elementData_915e3_4 rfl (lv_at hl 1 rfl) ?_
  refine g_aald (n := cap) (f := rw_) (j := i) hC hL4 (by omega) (by omega) dJx4a65c_elementData_915e3_5 ?_
  rw [hL5 i hi, show va_rf (some (row i)) = .ref (row i) from rfl]
  exact g_aret hC hr (Or.inl ⟨_, rfl⟩) dJx4a65c_elementData_915e3_6 (Nat.le_of_ble_eq_true rfl) (Nat.le_of_ble_eq_true rfl) rfl
set_option maxHeartbeats 4000000 in
set_option maxRecDepth 100000 in
theorem c_Jx4a65c_get_915e3 {l : Launch} {E : gV} (hE : gOK l E) (a t n : Nat) (row : Nat → Nat) (i : Nat) (hi : i < n) (hn : n ≤ 1000) : gM l E yJx4a65c_get_915e3 cJx4a65c_get_915e3 2 (some (.object "java/lang/Object")) ({ frames := 2, cells := 0, slots := 0, locals := 43 } : Room) [.ref a, .int (nI i)] (fun H => gL E a t n row H) (gQR (gPr (fun r => r = row i))) (fun _ => False) gN := by
  refine gM_body hE (by decide +kernel) (Nat.le_of_ble_eq_true rfl) ?_
  intro p_ e_ s m args below meth c hC ht hr hname hP ls hl
  have hx := hC.2.2.1
  have hb := hC.2.2.2.1
  have hl : lv_has ls 2 [(0, .ref a), (1, .int (nI i))] := hl
  obtain ⟨mc, hL1, -, hL3⟩ := (show gL E a t n row s.heap from hP)
  obtain ⟨cap, rw_, hc1, hc2, hL4, hL5⟩ := hL3 (by omega)
  have hn31 : n < 2 ^ 31 := by omega
  refine lv_iload_n hx hb dJx4a65c_get_915e3_0 rfl (lv_at hl 1 rfl) ?_
  refine lv_aload_n hx hb dJx4a65c_get_915e3_1 rfl (lv_at hl 0 rfl) ?_
  refine g_get (v := .int (nI n)) hC hL1 (C := RJx4a65c) (T := TJx4a65c) (N := 3) rfl uJ_in 2 (by decide) k_683 rfl dJx4a65c_get_915e3_2 ?_
  refine g_cRi (k2 := 0) (n2 := 0) (g_runS (rest := []) hC (c_J15_checkIndex_7cf53 hE i n hi hn31) Y_J15_checkIndex_7cf53 k_377 S_J15_checkIndex_7cf53 trivial rfl hl.1 dJx4a65c_get_915e3_5 ⟨Nat.le_of_ble_eq_true rfl, Nat.le_of_ble_eq_true rfl⟩ ⟨Nat.le_of_ble_eq_true rfl, Nat.le_of_ble_eq_true rfl⟩ rfl (Nat.le_of_ble_eq_true rfl)) rfl rfl g_no (fun r1_ h2_ => ?_)
  obtain rfl := h2_
  refine lv_pop hx hb dJx4a65c_get_915e3_8 rfl ?_
  refine lv_aload_n hx hb dJx4a65c_get_915e3_9 rfl (lv_at hl 0 rfl) ?_
  refine lv_iload_n hx hb dJx4a65c_get_915e3_10 rfl (lv_at hl 1 rfl) ?_
  refine g_cRr (k2 := 0) (n2 := 0) (g_runV (rest := []) hC (c_Jx4a65c_elementData_915e3 hE a t n row i hi hn) Y_Jx4a65c_elementData_915e3 k_383 I_Jx4a65c_elementData_915e3 V_Jx4a65c_elementData_915e3 hL1 rfl hP rfl hl.1 dJx4a65c_get_915e3_11 ⟨Nat.le_of_ble_eq_true rfl, Nat.le_of_ble_eq_true rfl⟩ ⟨Nat.le_of_ble_eq_true rfl, Nat.le_of_ble_eq_true rfl⟩ rfl (Nat.le_of_ble_eq_true rfl)) rfl rfl g_no (fun r3_ h4_ => ?_)
  obtain rfl := h4_
  exact g_aret hC hr (Or.inl ⟨_, rfl⟩) dJx4a65c_get_915e3_14 (Nat.le_of_ble_eq_true rfl) (Nat.le_of_ble_eq_true rfl) rfl
set_option maxHeartbeats 4000000 in
set_option maxRecDepth 100000 in
theorem c_X1_limitOf {l : Launch} {E : gV} (hE : gOK l E) {α : Nat → Nat → Nat} {ξ : F2} {M : Nat → F2} {N : Nat → Nat}(w : Nat) (hw : w < 2) (i : Nat) (hi : i < N 0) : gM l E yX1_limitOf cX1_limitOf 3 (some .int) ({ frames := 0, cells := 0, slots := 0, locals := 0 } : Room) [.ref (α 3 (4 + w)), .ref (α 0 i)] (fun H => RX E α ξ M N H) (gQR (gPi (fun r => r = M w 0 i))) (fun _ => False) gN := by
  refine gM_body hE (by decide +kernel) (Nat.le_of_ble_eq_true rfl) ?_
  intro p_ e_ s m args below meth c hC ht hr hname hP ls hl
  have hx := hC.2.2.1
  have hb := hC.2.2.2.1
  have hl : lv_has ls 3 [(0, .ref (α 3 (4 + w))), (1, .ref (α 0 i))] := hl
  have hR : RX E α ξ M N s.heap := hP
  have hSr := hR.inv.src (M 0)
  obtain ⟨hN0, hN1, hN2, hN3, -, hHo, hDe⟩ := hR.inv
  refine lv_aload_n hx hb dX1_limitOf_0 rfl (lv_at hl 1 rfl) ?_
  refine g_get (v := .int (nI i)) hC (hR.pow (i := i) (by omega)) (C := RX3) (T := TX3) (N := 7) rfl u3_in 0 (by decide) k_789 rfl dX1_limitOf_1 ?_
  refine lv_istore_n (lv' := [(2, .int (nI i)), (0, .ref (α 3 (4 + w))), (1, .ref (α 0 i))]) hx hb dX1_limitOf_4 rfl hl (by decide) rfl (fun ls hl => ?_)
  refine lv_iload_n hx hb dX1_limitOf_5 rfl (lv_at hl 0 rfl) ?_
  refine lv_if_lt (tgt := 27) hx hb dX1_limitOf_6 (by decide) (fun c1_ => ?_) (fun c1_ => ?_)
  · exact absurd c1_ (nI_pos (by omega))
  · refine lv_iload_n hx hb dX1_limitOf_9 rfl (lv_at hl 0 rfl) ?_
    refine lv_aload_n hx hb dX1_limitOf_10 rfl (lv_at hl 1 rfl) ?_
    refine g_get (v := .ref (α 3 (6 + 4 * w))) hC (hR.mom w hw) (C := RX1) (T := TX1) (N := 6) rfl u1_in 0 (by decide) k_703 rfl dX1_limitOf_11 ?_
    refine g_alen 0 hC (hR.lim w hw) rfl dX1_limitOf_14 ?_
    refine lv_icmp_ge (tgt := 27) hx hb dX1_limitOf_15 (by decide) (fun c2_ => ?_) (fun c2_ => ?_)
    · exact absurd (le_nI (by omega) (by omega) c2_) (by omega)
    · refine lv_aload_n hx hb dX1_limitOf_18 rfl (lv_at hl 1 rfl) ?_
      refine g_get (v := .ref (α 3 (6 + 4 * w))) hC (hR.mom w hw) (C := RX1) (T := TX1) (N := 6) rfl u1_in 0 (by decide) k_703 rfl dX1_limitOf_19 ?_
      refine lv_iload_n hx hb dX1_limitOf_22 rfl (lv_at hl 0 rfl) ?_
      refine g_iald (n := 20) (f := M w 0) (j := i) hC (hR.lim w hw) (by omega) (by decide) dX1_limitOf_23 ?_
      refine lv_goto (tgt := 28) hx hb dX1_limitOf_24 (by decide) ?_
      exact g_iret hC hr dX1_limitOf_28 (Nat.le_of_ble_eq_true rfl) (Nat.le_of_ble_eq_true rfl) rfl
set_option maxHeartbeats 4000000 in
set_option maxRecDepth 100000 in
theorem c_X1_isRevoked {l : Launch} {E : gV} (hE : gOK l E) {α : Nat → Nat → Nat} {ξ : F2} {M : Nat → F2} {N : Nat → Nat}(w : Nat) (hw : w < 2) (i : Nat) (hi : i < N 0) : gM l E yX1_isRevoked cX1_isRevoked 3 (some .boolean) ({ frames := 0, cells := 0, slots := 0, locals := 0 } : Room) [.ref (α 3 (4 + w)), .ref (α 0 i)] (fun H => RX E α ξ M N H) (gQR (gPi (bz (¬ M w 1 i = 0)))) (fun _ => False) gN := by
  refine gM_body hE (by decide +kernel) (Nat.le_of_ble_eq_true rfl) ?_
  intro p_ e_ s m args below meth c hC ht hr hname hP ls hl
  have hx := hC.2.2.1
  have hb := hC.2.2.2.1
  have hl : lv_has ls 3 [(0, .ref (α 3 (4 + w))), (1, .ref (α 0 i))] := hl
  have hR : RX E α ξ M N s.heap := hP
  have hSr := hR.inv.src (M 0)
  obtain ⟨hN0, hN1, hN2, hN3, -, hHo, hDe⟩ := hR.inv
  refine lv_aload_n hx hb dX1_isRevoked_0 rfl (lv_at hl 1 rfl) ?_
  refine g_get (v := .int (nI i)) hC (hR.pow (i := i) (by omega)) (C := RX3) (T := TX3) (N := 7) rfl u3_in 0 (by decide) k_789 rfl dX1_isRevoked_1 ?_
  refine lv_istore_n (lv' := [(2, .int (nI i)), (0, .ref (α 3 (4 + w))), (1, .ref (α 0 i))]) hx hb dX1_isRevoked_4 rfl hl (by decide) rfl (fun ls hl => ?_)
  refine lv_iload_n hx hb dX1_isRevoked_5 rfl (lv_at hl 0 rfl) ?_
  refine lv_if_lt (tgt := 31) hx hb dX1_isRevoked_6 (by decide) (fun c1_ => ?_) (fun c1_ => ?_)
  · exact absurd c1_ (nI_pos (by omega))
  · refine lv_iload_n hx hb dX1_isRevoked_9 rfl (lv_at hl 0 rfl) ?_
    refine lv_aload_n hx hb dX1_isRevoked_10 rfl (lv_at hl 1 rfl) ?_
    refine g_get (v := .ref (α 3 (7 + 4 * w))) hC (hR.mom w hw) (C := RX1) (T := TX1) (N := 6) rfl u1_in 1 (by decide) k_704 rfl dX1_isRevoked_11 ?_
    refine g_alen 1 hC (hR.rev w hw) rfl dX1_isRevoked_14 ?_
    refine lv_icmp_ge (tgt := 31) hx hb dX1_isRevoked_15 (by decide) (fun c2_ => ?_) (fun c2_ => ?_)
    · exact absurd (le_nI (by omega) (by omega) c2_) (by omega)
    · refine lv_aload_n hx hb dX1_isRevoked_18 rfl (lv_at hl 1 rfl) ?_
      refine g_get (v := .ref (α 3 (7 + 4 * w))) hC (hR.mom w hw) (C := RX1) (T := TX1) (N := 6) rfl u1_in 1 (by decide) k_704 rfl dX1_isRevoked_19 ?_
      refine lv_iload_n hx hb dX1_isRevoked_22 rfl (lv_at hl 0 rfl) ?_
      refine g_zald (n := 20) (f := M w 1) (j := i) hC (hR.rev w hw) (by omega) (by decide) dX1_isRevoked_23 ?_
      refine lv_if_eq (tgt := 31) hx hb dX1_isRevoked_24 (by decide) (fun c3_ => ?_) (fun c3_ => ?_)
      · refine lv_iconst (v := 0) hx hb dX1_isRevoked_31 (by decide) ?_
        exact g_zret hC hr rfl dX1_isRevoked_32 (Nat.le_of_ble_eq_true rfl) (Nat.le_of_ble_eq_true rfl) (bz_0 (fun z => z (by assumption)))
      · refine lv_iconst (v := 1) hx hb dX1_isRevoked_27 (by decide) ?_
        refine lv_goto (tgt := 32) hx hb dX1_isRevoked_28 (by decide) ?_
        exact g_zret hC hr rfl dX1_isRevoked_32 (Nat.le_of_ble_eq_true rfl) (Nat.le_of_ble_eq_true rfl) (bz_1 (by assumption))
set_option maxHeartbeats 4000000 in
set_option maxRecDepth 100000 in
theorem c_X1_isAnnulled {l : Launch} {E : gV} (hE : gOK l E) {α : Nat → Nat → Nat} {ξ : F2} {M : Nat → F2} {N : Nat → Nat}(w : Nat) (hw : w < 2) (i : Nat) (hi : i < N 1) : gM l E yX1_isAnnulled cX1_isAnnulled 2 (some .boolean) ({ frames := 1, cells := 0, slots := 0, locals := 21 } : Room) [.ref (α 3 (4 + w)), .ref (α 1 i)] (fun H => RX E α ξ M N H) (gQR (gPi (bz (¬ M w 3 i = 0)))) (fun _ => False) gN := by
  refine gM_body hE (by decide +kernel) (Nat.le_of_ble_eq_true rfl) ?_
  intro p_ e_ s m args below meth c hC ht hr hname hP ls hl
  have hx := hC.2.2.1
  have hb := hC.2.2.2.1
  have hl : lv_has ls 2 [(0, .ref (α 3 (4 + w))), (1, .ref (α 1 i))] := hl
  have hR : RX E α ξ M N s.heap := hP
  have hSr := hR.inv.src (M 0)
  obtain ⟨hN0, hN1, hN2, hN3, -, hHo, hDe⟩ := hR.inv
  refine lv_aload_n hx hb dX1_isAnnulled_0 rfl (lv_at hl 1 rfl) ?_
  refine g_get (v := .int (nI i)) hC (hR.deed (i := i) (by omega)) (C := RX0) (T := TX0) (N := 16) rfl u0_in 0 (by decide) k_301 rfl dX1_isAnnulled_1 ?_
  refine lv_aload_n hx hb dX1_isAnnulled_4 rfl (lv_at hl 0 rfl) ?_
  refine g_get (v := .ref (α 3 (9 + 4 * w))) hC (hR.mom w hw) (C := RX1) (T := TX1) (N := 6) rfl u1_in 3 (by decide) k_706 rfl dX1_isAnnulled_5 ?_
  refine g_alen 1 hC (hR.ann w hw) rfl dX1_isAnnulled_8 ?_
  refine g_cRi (k2 := 0) (n2 := 0) (g_runSN (rest := []) hC (c_X4_isIndex hE (nI i) (nI 24)) Y_X4_isIndex k_140 S_X4_isIndex trivial rfl hl.1 dX1_isAnnulled_9 ⟨Nat.le_of_ble_eq_true rfl, Nat.le_of_ble_eq_true rfl⟩ ⟨Nat.le_of_ble_eq_true rfl, Nat.le_of_ble_eq_true rfl⟩ rfl (Nat.le_of_ble_eq_true rfl)) rfl rfl g_no (fun r1_ h2_ => ?_)
  refine lv_if_eq (tgt := 31) hx hb dX1_isAnnulled_12 (by decide) (fun c3_ => ?_) (fun c3_ => ?_)
  · exact absurd (⟨nI_pos' (by omega), nI_lt (by omega) (by omega)⟩ : 0 ≤ nI i ∧ nI i < nI 24) (bz.f (by assumption) c3_)
  · refine lv_aload_n hx hb dX1_isAnnulled_15 rfl (lv_at hl 0 rfl) ?_
    refine g_get (v := .ref (α 3 (9 + 4 * w))) hC (hR.mom w hw) (C := RX1) (T := TX1) (N := 6) rfl u1_in 3 (by decide) k_706 rfl dX1_isAnnulled_16 ?_
    refine lv_aload_n hx hb dX1_isAnnulled_19 rfl (lv_at hl 1 rfl) ?_
    refine g_get (v := .int (nI i)) hC (hR.deed (i := i) (by omega)) (C := RX0) (T := TX0) (N := 16) rfl u0_in 0 (by decide) k_301 rfl dX1_isAnnulled_20 ?_
    refine g_zald (n := 24) (f := M w 3) (j := i) hC (hR.ann w hw) (by omega) (by decide) dX1_isAnnulled_23 ?_
    refine lv_if_eq (tgt := 31) hx hb dX1_isAnnulled_24 (by decide) (fun c4_ => ?_) (fun c4_ => ?_)
    · refine lv_iconst (v := 0) hx hb dX1_isAnnulled_31 (by decide) ?_
      exact g_zret hC hr rfl dX1_isAnnulled_32 (Nat.le_of_ble_eq_true rfl) (Nat.le_of_ble_eq_true rfl) (bz_0 (fun z => z (by assumption)))
    · refine lv_iconst (v := 1) hx hb dX1_isAnnulled_27 (by decide) ?_
      refine lv_goto (tgt := 32) hx hb dX1_isAnnulled_28 (by decide) ?_
      exact g_zret hC hr rfl dX1_isAnnulled_32 (Nat.le_of_ble_eq_true rfl) (Nat.le_of_ble_eq_true rfl) (bz_1 (by assumption))
set_option maxHeartbeats 4000000 in
set_option maxRecDepth 100000 in
theorem c_X1_substituteFor {l : Launch} {E : gV} (hE : gOK l E) {α : Nat → Nat → Nat} {ξ : F2} {M : Nat → F2} {N : Nat → Nat}(w : Nat) (hw : w < 2) (j : Nat) (hj : j < 8) : gM l E yX1_substituteFor cX1_substituteFor 2 (some .int) ({ frames := 1, cells := 0, slots := 0, locals := 21 } : Room) [.ref (α 3 (4 + w)), .int (nI j)] (fun H => RX E α ξ M N H) (gQR (gPi (fun r => r = M w 2 j))) (fun _ => False) gN := by
  refine gM_body hE (by decide +kernel) (Nat.le_of_ble_eq_true rfl) ?_
  intro p_ e_ s m args below meth c hC ht hr hname hP ls hl
  have hx := hC.2.2.1
  have hb := hC.2.2.2.1
  have hl : lv_has ls 2 [(0, .ref (α 3 (4 + w))), (1, .int (nI j))] := hl
  have hR : RX E α ξ M N s.heap := hP
  have hSr := hR.inv.src (M 0)
  obtain ⟨hN0, hN1, hN2, hN3, -, hHo, hDe⟩ := hR.inv
  refine lv_iload_n hx hb dX1_substituteFor_0 rfl (lv_at hl 1 rfl) ?_
  refine lv_aload_n hx hb dX1_substituteFor_1 rfl (lv_at hl 0 rfl) ?_
  refine g_get (v := .ref (α 3 (8 + 4 * w))) hC (hR.mom w hw) (C := RX1) (T := TX1) (N := 6) rfl u1_in 2 (by decide) k_705 rfl dX1_substituteFor_2 ?_
  refine g_alen 0 hC (hR.sub w hw) rfl dX1_substituteFor_5 ?_
  refine g_cRi (k2 := 0) (n2 := 0) (g_runSN (rest := []) hC (c_X4_isIndex hE (nI j) (nI 8)) Y_X4_isIndex k_140 S_X4_isIndex trivial rfl hl.1 dX1_substituteFor_6 ⟨Nat.le_of_ble_eq_true rfl, Nat.le_of_ble_eq_true rfl⟩ ⟨Nat.le_of_ble_eq_true rfl, Nat.le_of_ble_eq_true rfl⟩ rfl (Nat.le_of_ble_eq_true rfl)) rfl rfl g_no (fun r1_ h2_ => ?_)
  refine lv_if_eq (tgt := 21) hx hb dX1_substituteFor_9 (by decide) (fun c3_ => ?_) (fun c3_ => ?_)
  · exact absurd (⟨nI_pos' (by omega), nI_lt (by omega) (by omega)⟩ : 0 ≤ nI j ∧ nI j < nI 8) (bz.f (by assumption) c3_)
  · refine lv_aload_n hx hb dX1_substituteFor_12 rfl (lv_at hl 0 rfl) ?_
    refine g_get (v := .ref (α 3 (8 + 4 * w))) hC (hR.mom w hw) (C := RX1) (T := TX1) (N := 6) rfl u1_in 2 (by decide) k_705 rfl dX1_substituteFor_13 ?_
    refine lv_iload_n hx hb dX1_substituteFor_16 rfl (lv_at hl 1 rfl) ?_
    refine g_iald (n := 8) (f := M w 2) (j := j) hC (hR.sub w hw) (by omega) (by decide) dX1_substituteFor_17 ?_
    refine lv_goto (tgt := 23) hx hb dX1_substituteFor_18 (by decide) ?_
    exact g_iret hC hr dX1_substituteFor_23 (Nat.le_of_ble_eq_true rfl) (Nat.le_of_ble_eq_true rfl) rfl
set_option maxHeartbeats 4000000 in
set_option maxRecDepth 100000 in
theorem c_X1_actsByPowersOf {l : Launch} {E : gV} (hE : gOK l E) {α : Nat → Nat → Nat} {ξ : F2} {M : Nat → F2} {N : Nat → Nat}(w : Nat) (hw : w < 2) (i : Int32) (j : Nat) (hj : j < 8) : gM l E yX1_actsByPowersOf cX1_actsByPowersOf 3 (some .boolean) ({ frames := 2, cells := 0, slots := 0, locals := 42 } : Room) [.ref (α 3 (4 + w)), .int i, .int (nI j)] (fun H => RX E α ξ M N H) (gQR (gPi (bz (fAct (xv ξ (M w)) i (nI j))))) (fun _ => False) gN := by
  refine gM_body hE (by decide +kernel) (Nat.le_of_ble_eq_true rfl) ?_
  intro p_ e_ s m args below meth c hC ht hr hname hP ls hl
  have hx := hC.2.2.1
  have hb := hC.2.2.2.1
  have hl : lv_has ls 3 [(0, .ref (α 3 (4 + w))), (1, .int i), (2, .int (nI j))] := hl
  have hR : RX E α ξ M N s.heap := hP
  have hSr := hR.inv.src (M 0)
  obtain ⟨hN0, hN1, hN2, hN3, -, hHo, hDe⟩ := hR.inv
  refine lv_iload_n hx hb dX1_actsByPowersOf_0 rfl (lv_at hl 1 rfl) ?_
  refine lv_iload_n hx hb dX1_actsByPowersOf_1 rfl (lv_at hl 2 rfl) ?_
  refine lv_icmp_eq (tgt := 14) hx hb dX1_actsByPowersOf_2 (by decide) (fun c1_ => ?_) (fun c1_ => ?_)
  · refine lv_iconst (v := 1) hx hb dX1_actsByPowersOf_14 (by decide) ?_
    refine lv_goto (tgt := 19) hx hb dX1_actsByPowersOf_15 (by decide) ?_
    exact g_zret hC hr rfl dX1_actsByPowersOf_19 (Nat.le_of_ble_eq_true rfl) (Nat.le_of_ble_eq_true rfl) (bz_1 (by unfold fAct; rw [nI_clamp (by omega)]; first | exact Or.inl (by assumption) | exact Or.inr (by assumption)))
  · refine lv_aload_n hx hb dX1_actsByPowersOf_5 rfl (lv_at hl 0 rfl) ?_
    refine lv_iload_n hx hb dX1_actsByPowersOf_6 rfl (lv_at hl 2 rfl) ?_
    refine g_cRi (k2 := 0) (n2 := 0) (g_runV (rest := []) hC (c_X1_substituteFor hE (α := α) (ξ := ξ) (M := M) (N := N) w hw j (by omega)) Y_X1_substituteFor k_404 I_X1_substituteFor V_X1_substituteFor (hR.mom w hw) rfl hR rfl hl.1 dX1_actsByPowersOf_7 ⟨Nat.le_of_ble_eq_true rfl, Nat.le_of_ble_eq_true rfl⟩ ⟨Nat.le_of_ble_eq_true rfl, Nat.le_of_ble_eq_true rfl⟩ rfl (Nat.le_of_ble_eq_true rfl)) rfl rfl g_no (fun r2_ h3_ => ?_)
    obtain rfl := h3_
    refine lv_iload_n hx hb dX1_actsByPowersOf_10 rfl (lv_at hl 1 rfl) ?_
    refine lv_icmp_ne (tgt := 18) hx hb dX1_actsByPowersOf_11 (by decide) (fun c4_ => ?_) (fun c4_ => ?_)
    · refine lv_iconst (v := 0) hx hb dX1_actsByPowersOf_18 (by decide) ?_
      exact g_zret hC hr rfl dX1_actsByPowersOf_19 (Nat.le_of_ble_eq_true rfl) (Nat.le_of_ble_eq_true rfl) (bz_0 (by unfold fAct; rw [nI_clamp (by omega)]; exact fun z => z.elim (by assumption) (by assumption)))
    · refine lv_iconst (v := 1) hx hb dX1_actsByPowersOf_14 (by decide) ?_
      refine lv_goto (tgt := 19) hx hb dX1_actsByPowersOf_15 (by decide) ?_
      exact g_zret hC hr rfl dX1_actsByPowersOf_19 (Nat.le_of_ble_eq_true rfl) (Nat.le_of_ble_eq_true rfl) (bz_1 (by unfold fAct; rw [nI_clamp (by omega)]; first | exact Or.inl (by assumption) | exact Or.inr (by assumption)))
set_option maxHeartbeats 4000000 in
set_option maxRecDepth 100000 in
theorem c_X1_ownFault {l : Launch} {E : gV} (hE : gOK l E) {α : Nat → Nat → Nat} {ξ : F2} {M : Nat → F2} {N : Nat → Nat}(w : Nat) (hw : w < 2) (i : Nat) (hi : i < N 0) (s0 : Int32) : gM l E yX1_ownFault cX1_ownFault 3 (some .char) ({ frames := 1, cells := 0, slots := 0, locals := 22 } : Room) [.ref (α 3 (4 + w)), .ref (α 0 i), .int s0] (fun H => RX E α ξ M N H) (gQR (gPi (fun r => r = fOwn (xv ξ (M w)) (M w 5 0) s0 i))) (fun _ => False) gN := by
  refine gM_body hE (by decide +kernel) (Nat.le_of_ble_eq_true rfl) ?_
  intro p_ e_ s m args below meth c hC ht hr hname hP ls hl
  have hx := hC.2.2.1
  have hb := hC.2.2.2.1
  have hl : lv_has ls 3 [(0, .ref (α 3 (4 + w))), (1, .ref (α 0 i)), (2, .int s0)] := hl
  have hR : RX E α ξ M N s.heap := hP
  have hSr := hR.inv.src (M 0)
  obtain ⟨hN0, hN1, hN2, hN3, -, hHo, hDe⟩ := hR.inv
  refine lv_aload_n hx hb dX1_ownFault_0 rfl (lv_at hl 0 rfl) ?_
  refine g_get (v := .int (M w 5 0)) hC (hR.mom w hw) (C := RX1) (T := TX1) (N := 6) rfl u1_in 5 (by decide) k_709 rfl dX1_ownFault_1 ?_
  refine lv_aload_n hx hb dX1_ownFault_4 rfl (lv_at hl 1 rfl) ?_
  refine g_get (v := .int (ξ 4 i)) hC (hR.pow (i := i) (by omega)) (C := RX3) (T := TX3) (N := 7) rfl u3_in 4 (by decide) k_799 rfl dX1_ownFault_5 ?_
  refine lv_aload_n hx hb dX1_ownFault_8 rfl (lv_at hl 1 rfl) ?_
  refine g_get (v := .int (ξ 5 i)) hC (hR.pow (i := i) (by omega)) (C := RX3) (T := TX3) (N := 7) rfl u3_in 5 (by decide) k_802 rfl dX1_ownFault_9 ?_
  refine g_cRi (k2 := 0) (n2 := 0) (g_runSN (rest := []) hC (c_X4_isBetween hE (M w 5 0) (ξ 4 i) (ξ 5 i)) Y_X4_isBetween k_414 S_X4_isBetween trivial rfl hl.1 dX1_ownFault_12 ⟨Nat.le_of_ble_eq_true rfl, Nat.le_of_ble_eq_true rfl⟩ ⟨Nat.le_of_ble_eq_true rfl, Nat.le_of_ble_eq_true rfl⟩ rfl (Nat.le_of_ble_eq_true rfl)) rfl rfl g_no (fun r1_ h2_ => ?_)
  refine lv_if_ne (tgt := 21) hx hb dX1_ownFault_15 (by decide) (fun c3_ => ?_) (fun c3_ => ?_)
  · have q4_ := bz.t h2_ c3_
    refine lv_aload_n hx hb dX1_ownFault_21 rfl (lv_at hl 0 rfl) ?_
    refine lv_aload_n hx hb dX1_ownFault_22 rfl (lv_at hl 1 rfl) ?_
    refine g_cRi (k2 := 0) (n2 := 0) (g_runV (rest := []) hC (c_X1_isRevoked hE (α := α) (ξ := ξ) (M := M) (N := N) w hw i (by omega)) Y_X1_isRevoked k_415 I_X1_isRevoked V_X1_isRevoked (hR.mom w hw) rfl hR rfl hl.1 dX1_ownFault_23 ⟨Nat.le_of_ble_eq_true rfl, Nat.le_of_ble_eq_true rfl⟩ ⟨Nat.le_of_ble_eq_true rfl, Nat.le_of_ble_eq_true rfl⟩ rfl (Nat.le_of_ble_eq_true rfl)) rfl rfl g_no (fun r5_ h6_ => ?_)
    refine lv_if_eq (tgt := 32) hx hb dX1_ownFault_26 (by decide) (fun c7_ => ?_) (fun c7_ => ?_)
    · have q8_ := bz.f h6_ c7_
      refine lv_iload_n hx hb dX1_ownFault_32 rfl (lv_at hl 2 rfl) ?_
      refine lv_aload_n hx hb dX1_ownFault_33 rfl (lv_at hl 0 rfl) ?_
      refine lv_aload_n hx hb dX1_ownFault_34 rfl (lv_at hl 1 rfl) ?_
      refine g_cRi (k2 := 0) (n2 := 0) (g_runV (rest := [.int s0]) hC (c_X1_limitOf hE (α := α) (ξ := ξ) (M := M) (N := N) w hw i (by omega)) Y_X1_limitOf k_419 I_X1_limitOf V_X1_limitOf (hR.mom w hw) rfl hR rfl hl.1 dX1_ownFault_35 ⟨Nat.le_of_ble_eq_true rfl, Nat.le_of_ble_eq_true rfl⟩ ⟨Nat.le_of_ble_eq_true rfl, Nat.le_of_ble_eq_true rfl⟩ rfl (Nat.le_of_ble_eq_true rfl)) rfl rfl g_no (fun r9_ h10_ => ?_)
      obtain rfl := h10_
      refine lv_icmp_le (tgt := 46) hx hb dX1_ownFault_38 (by decide) (fun c11_ => ?_) (fun c11_ => ?_)
      · refine lv_bipush (v := 45) hx hb dX1_ownFault_46 (by decide) ?_
        exact g_zret hC hr rfl dX1_ownFault_48 (Nat.le_of_ble_eq_true rfl) (Nat.le_of_ble_eq_true rfl) (by unfold fOwn; rw [if_pos (by assumption), if_neg (by assumption), if_neg (Int32.not_lt.mpr (by assumption))])
      · refine lv_bipush (v := 108) hx hb dX1_ownFault_41 (by decide) ?_
        refine lv_goto (tgt := 48) hx hb dX1_ownFault_43 (by decide) ?_
        exact g_zret hC hr rfl dX1_ownFault_48 (Nat.le_of_ble_eq_true rfl) (Nat.le_of_ble_eq_true rfl) (by unfold fOwn; rw [if_pos (by assumption), if_neg (by assumption), if_pos (Int32.not_le.mp (by assumption))])
    · have q8_ := bz.t h6_ c7_
      refine lv_bipush (v := 118) hx hb dX1_ownFault_29 (by decide) ?_
      exact g_zret hC hr rfl dX1_ownFault_31 (Nat.le_of_ble_eq_true rfl) (Nat.le_of_ble_eq_true rfl) (by unfold fOwn; rw [if_pos (by assumption), if_pos (by assumption)])
  · have q4_ := bz.f h2_ c3_
    refine lv_bipush (v := 100) hx hb dX1_ownFault_18 (by decide) ?_
    exact g_zret hC hr rfl dX1_ownFault_20 (Nat.le_of_ble_eq_true rfl) (Nat.le_of_ble_eq_true rfl) (by exact (if_neg (by assumption)).symm)
set_option maxHeartbeats 4000000 in
set_option maxRecDepth 100000 in
theorem c_X1_faultOf {l : Launch} {E : gV} (hE : gOK l E) {α : Nat → Nat → Nat} {ξ : F2} {M : Nat → F2} {N : Nat → Nat}(w : Nat) (hw : w < 2) (i : Nat) (hi : i < N 0) (s0 : Int32) : gM l E yX1_faultOf cX1_faultOf 6 (some .char) ({ frames := 2, cells := 0, slots := 0, locals := 44 } : Room) [.ref (α 3 (4 + w)), .ref (α 0 i), .int s0] (fun H => RX E α ξ M N H) (gQR (gPi (fun r => r = fl (xv ξ (M w)) (M w 5 0) s0 i))) (fun _ => False) gN := by
  refine gM_body hE (by decide +kernel) (Nat.le_of_ble_eq_true rfl) ?_
  intro p_ e_ s m args below meth c hC ht hr hname hP ls hl
  have hx := hC.2.2.1
  have hb := hC.2.2.2.1
  have hl : lv_has ls 6 [(0, .ref (α 3 (4 + w))), (1, .ref (α 0 i)), (2, .int s0)] := hl
  have hR : RX E α ξ M N s.heap := hP
  have hSr := hR.inv.src (M 0)
  obtain ⟨hN0, hN1, hN2, hN3, -, hHo, hDe⟩ := hR.inv
  have hSw := hR.inv.src (M w)
  refine lv_bipush (v := 45) hx hb dX1_faultOf_0 (by decide) ?_
  refine lv_istore_n (lv' := [(3, .int 45), (0, .ref (α 3 (4 + w))), (1, .ref (α 0 i)), (2, .int s0)]) hx hb dX1_faultOf_2 rfl hl (by decide) rfl (fun ls hl => ?_)
  refine lv_aload_n hx hb dX1_faultOf_3 rfl (lv_at hl 2 rfl) ?_
  refine lv_astore (lv' := [(4, .ref (α 0 i)), (3, .int 45), (0, .ref (α 3 (4 + w))), (1, .ref (α 0 i)), (2, .int s0)]) hx hb dX1_faultOf_4 hl (by decide) rfl (fun ls hl => ?_)
  have loop : ∀ (n_ : Nat) (q : Nat) (f : Int32) (ls : Array Slot), q < n_ → (q < N 0) → (fRes (fl (xv ξ (M w)) (M w 5 0) s0 q) f = fl (xv ξ (M w)) (M w 5 0) s0 i) → lv_has ls 6 [(0, .ref (α 3 (4 + w))), (1, .ref (α 0 i)), (2, .int s0), (3, .int f), (4, .ref (α 0 q))] → W p_ l e_ ({ frames := 2, cells := 0, slots := 0, locals := 44 } : Room) s m args below meth c s.heap [] 0 0 (vx_MQ below (gQR (gPi (fun r => r = fl (xv ξ (M w)) (M w 5 0) s0 i))) (gX (fun _ => False)) args s 0 0 gN) (F0 m 6 ls []) := by
    intro n_
    induction n_ with
    | zero => intro q f ls h_; exact absurd h_ (Nat.not_lt_zero _)
    | succ n_ ih_loop =>
      intro q f ls hn_ i1 i2 hl
      refine lv_aload hx hb dX1_faultOf_6 (lv_at hl 4 rfl) ?_
      refine lv_ifnull hx hb dX1_faultOf_8 ?_
      refine lv_aload_n hx hb dX1_faultOf_11 rfl (lv_at hl 0 rfl) ?_
      refine lv_aload hx hb dX1_faultOf_12 (lv_at hl 4 rfl) ?_
      refine lv_iload_n hx hb dX1_faultOf_14 rfl (lv_at hl 2 rfl) ?_
      refine g_cRi (k2 := 0) (n2 := 0) (g_runV (rest := []) hC (c_X1_ownFault hE (α := α) (ξ := ξ) (M := M) (N := N) w hw q (by omega) s0) Y_X1_ownFault k_409 I_X1_ownFault V_X1_ownFault (hR.mom w hw) rfl hR rfl hl.1 dX1_faultOf_15 ⟨Nat.le_of_ble_eq_true rfl, Nat.le_of_ble_eq_true rfl⟩ ⟨Nat.le_of_ble_eq_true rfl, Nat.le_of_ble_eq_true rfl⟩ rfl (Nat.le_of_ble_eq_true rfl)) rfl rfl g_no (fun r1_ h2_ => ?_)
      refine lv_istore (lv' := [(5, .int r1_), (0, .ref (α 3 (4 + w))), (1, .ref (α 0 i)), (2, .int s0), (3, .int f), (4, .ref (α 0 q))]) hx hb dX1_faultOf_18 hl (by decide) rfl (fun ls hl => ?_)
      refine lv_iload hx hb dX1_faultOf_20 (lv_at hl 0 rfl) ?_
      refine lv_bipush (v := 45) hx hb dX1_faultOf_22 (by decide) ?_
      refine lv_icmp_eq (tgt := 30) hx hb dX1_faultOf_24 (by decide) (fun c3_ => ?_) (fun c3_ => ?_)
      · refine lv_aload hx hb dX1_faultOf_30 (lv_at hl 5 rfl) ?_
        refine g_get (v := srcV α (ξ 6 q)) hC (hR.pow (i := q) (by omega)) (C := RX3) (T := TX3) (N := 7) rfl u3_in 6 (by decide) k_804 rfl dX1_faultOf_32 ?_
        rcases hSr q (by omega) with hs5_ | ⟨q4_, hq6_, hs5_⟩
        · have hs5_ : ξ 6 q < 0 := hs5_
          rw [srcV_n hs5_]
          refine lv_astoreN (lv' := [(4, .null), (5, .int r1_), (0, .ref (α 3 (4 + w))), (1, .ref (α 0 i)), (2, .int s0), (3, .int f)]) hx hb dX1_faultOf_35 hl (by decide) rfl (fun ls hl => ?_)
          refine lv_goto (tgt := 6) hx hb dX1_faultOf_37 (by decide) ?_
          refine lv_aloadN hx hb dX1_faultOf_6 (lv_at hl 0 rfl) ?_
          refine lv_ifnullN (tgt := 40) hx hb dX1_faultOf_8 (by decide) ?_
          refine lv_iload_n hx hb dX1_faultOf_40 rfl (lv_at hl 5 rfl) ?_
          exact g_zret hC hr (by rw [show f = fl (xv ξ (M w)) (M w 5 0) s0 i from (by rw [← i2, fRes_0 (show xv ξ (M w) 4 q < 0 from hs5_), if_pos (by rw [← h2_]; assumption)])]; exact fl_nar _ _ _ _) dX1_faultOf_41 (Nat.le_of_ble_eq_true rfl) (Nat.le_of_ble_eq_true rfl) (by rw [← i2, fRes_0 (show xv ξ (M w) 4 q < 0 from hs5_), if_pos (by rw [← h2_]; assumption)])
        · have hs5_ : ξ 6 q = nI q4_ := hs5_
          rw [srcV_s hs5_ (by omega)]
          refine lv_astore (lv' := [(4, .ref (α 0 q4_)), (5, .int r1_), (0, .ref (α 3 (4 + w))), (1, .ref (α 0 i)), (2, .int s0), (3, .int f)]) hx hb dX1_faultOf_35 hl (by decide) rfl (fun ls hl => ?_)
          refine lv_goto (tgt := 6) hx hb dX1_faultOf_37 (by decide) ?_
          exact ih_loop q4_ f ls (by omega) (by omega) (by rw [← i2, fRes_s hSw (by omega) i1 hq6_ (show xv ξ (M w) 4 q = nI _ from hs5_), if_pos (by rw [← h2_]; assumption)]) (lv_sub hl [2, 3, 4, 5, 0] rfl)
      · refine lv_iload hx hb dX1_faultOf_27 (lv_at hl 0 rfl) ?_
        refine lv_istore_n (lv' := [(3, .int r1_), (5, .int r1_), (0, .ref (α 3 (4 + w))), (1, .ref (α 0 i)), (2, .int s0), (4, .ref (α 0 q))]) hx hb dX1_faultOf_29 rfl hl (by decide) rfl (fun ls hl => ?_)
        refine lv_aload hx hb dX1_faultOf_30 (lv_at hl 5 rfl) ?_
        refine g_get (v := srcV α (ξ 6 q)) hC (hR.pow (i := q) (by omega)) (C := RX3) (T := TX3) (N := 7) rfl u3_in 6 (by decide) k_804 rfl dX1_faultOf_32 ?_
        rcases hSr q (by omega) with hs8_ | ⟨q7_, hq9_, hs8_⟩
        · have hs8_ : ξ 6 q < 0 := hs8_
          rw [srcV_n hs8_]
          refine lv_astoreN (lv' := [(4, .null), (3, .int r1_), (5, .int r1_), (0, .ref (α 3 (4 + w))), (1, .ref (α 0 i)), (2, .int s0)]) hx hb dX1_faultOf_35 hl (by decide) rfl (fun ls hl => ?_)
          refine lv_goto (tgt := 6) hx hb dX1_faultOf_37 (by decide) ?_
          refine lv_aloadN hx hb dX1_faultOf_6 (lv_at hl 0 rfl) ?_
          refine lv_ifnullN (tgt := 40) hx hb dX1_faultOf_8 (by decide) ?_
          refine lv_iload_n hx hb dX1_faultOf_40 rfl (lv_at hl 1 rfl) ?_
          exact g_zret hC hr (by rw [show r1_ = fl (xv ξ (M w)) (M w 5 0) s0 i from (by rw [← i2, fRes_0 (show xv ξ (M w) 4 q < 0 from hs8_), if_neg (by rw [← h2_]; assumption), ← h2_])]; exact fl_nar _ _ _ _) dX1_faultOf_41 (Nat.le_of_ble_eq_true rfl) (Nat.le_of_ble_eq_true rfl) (by rw [← i2, fRes_0 (show xv ξ (M w) 4 q < 0 from hs8_), if_neg (by rw [← h2_]; assumption), ← h2_])
        · have hs8_ : ξ 6 q = nI q7_ := hs8_
          rw [srcV_s hs8_ (by omega)]
          refine lv_astore (lv' := [(4, .ref (α 0 q7_)), (3, .int r1_), (5, .int r1_), (0, .ref (α 3 (4 + w))), (1, .ref (α 0 i)), (2, .int s0)]) hx hb dX1_faultOf_35 hl (by decide) rfl (fun ls hl => ?_)
          refine lv_goto (tgt := 6) hx hb dX1_faultOf_37 (by decide) ?_
          exact ih_loop q7_ r1_ ls (by omega) (by omega) (by rw [← i2, fRes_s hSw (by omega) i1 hq9_ (show xv ξ (M w) 4 q = nI _ from hs8_), if_neg (by rw [← h2_]; assumption), ← h2_]) (lv_sub hl [3, 4, 5, 1, 0] rfl)
  exact loop (((i)) + 1) i 45 ls (by omega) hi (fRes_45 _) (lv_sub hl [2, 3, 4, 1, 0] rfl)
