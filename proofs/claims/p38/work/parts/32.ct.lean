set_option maxHeartbeats 4000000 in
set_option maxRecDepth 100000 in
theorem c_X4_init {l : Launch} {E : gV} (hE : gOK l E)  (a : Nat) (sz : Nat) (haE : E.2.1.heap.size ≤ a) : gM l E yX4_init cX4_init 1 none ({ frames := 11, cells := 13, slots := 200, locals := 200 } : Room) [.ref a] (fun H => gFz E H ∧ H.size = sz ∧ gA E a (.inr (5, bl4)) H) (gQW (fun q => q = a ∨ sz ≤ q) (gWv (fun H => H.size = sz + 13 ∧ ∃ t, RX E (aNew a sz t) fZ (fun _ => mZ) nZ H))) (fun _ => False) (fun q => q = a ∨ sz ≤ q) := by
  refine gM_body hE (by decide +kernel) (Nat.le_of_ble_eq_true rfl) ?_
  intro p_ e_ s m args below meth c hC ht hr hname hP ls hl
  have hx := hC.2.2.1
  have hb := hC.2.2.2.1
  have hl : lv_has ls 1 [(0, .ref a)] := hl
  have hS : va_S ((fun q => q = a ∨ sz ≤ q)) s.heap s.heap [] := va_S.rf
  obtain ⟨hF, hsz, hO⟩ := hP
  have hal := hO.lt
  have hAn : ∀ q, s.heap.size ≤ q → q = a ∨ sz ≤ q := fun q hq => Or.inr (by omega)
  have hal2 : a < sz := by omega
  obtain ⟨t, hem, -⟩ := g_emp hE
  refine lv_aload_n hx hb dX4_init_0 rfl (lv_at hl 0 rfl) ?_
  refine g_oinit hC hl.1 k_670 dX4_init_1 (Nat.le_of_ble_eq_true rfl) (Nat.le_of_ble_eq_true rfl) ?_
  refine lv_aload_n hx hb dX4_init_4 rfl (lv_at hl 0 rfl) ?_
  refine g_nwo (q := sz + 0) (ci := 0) (by omega) hC rfl uJ_in tyJx4a65c tyJx4a65c_ok k_671 k_186 k_4 blJ_ok hS hAn (Nat.le_of_ble_eq_true rfl) (Nat.le_of_ble_eq_true rfl) dX4_init_5 (fun H hB hz_ ho_ hS => ?_)
  have hO := hO.kept (ho_ _ (by omega))
  have hF : gFz E H := hF.kept (fun z hz => ho_ z (by omega))
  refine lv_dup hx hb dX4_init_8 rfl ?_
  refine g_cWv (k2 := 1) (n2 := 3) (g_runI (rest := [.ref (sz + 0), .ref a]) hC (c_Jx4a65c_init_da8c8 hE (sz + 0) (sz + 1) t hem (by omega)) Y_Jx4a65c_init_da8c8 k_672 I_Jx4a65c_init_da8c8 rfl ⟨hF, by omega, hB⟩ rfl hl.1 dX4_init_9 ⟨Nat.le_of_ble_eq_true rfl, Nat.le_of_ble_eq_true rfl⟩ ⟨Nat.le_of_ble_eq_true rfl, Nat.le_of_ble_eq_true rfl⟩ rfl (Nat.le_of_ble_eq_true rfl)) hS (fun q h => Or.inr (by omega)) rfl rfl (fun H lo h2_ hz_ hk_ hS => ?_)
  obtain ⟨hszhL1, hL1⟩ := h2_
  have hL1 := hL1 nZ
  have hO := hO.kept (hk_ _ (by omega) (by omega))
  have hF : gFz E H := hF.kept (fun z hz => hk_ z (by omega) (by omega))
  refine g_put hC hO hS (Or.inl rfl) (C := RX4) (T := TX4) (N := 6) rfl u4_in tyX4 tyX4_ok nmX4 0 (by omega) k_726 (Or.inr ⟨rfl, hname, rfl⟩) (tyX4_ok 0 (by omega)) rfl rfl (show 0 < 6 by omega) dX4_init_12 (fun H lo hO hz_ ho_ hS => ?_)
  have hO : gA E a (.inr (5, [.ref (sz + 0), .null, .null, .null, .null, .int 0])) H := hO
  have hF : gFz E H := hF.kept (fun z hz => ho_ z (by omega))
  have hL1 := hL1.kept0 (row' := nZ) (ho_ _ (by omega))
  refine lv_aload_n hx hb dX4_init_15 rfl (lv_at hl 0 rfl) ?_
  refine g_nwo (q := sz + 1) (ci := 0) (by omega) hC rfl uJ_in tyJx4a65c tyJx4a65c_ok k_671 k_186 k_4 blJ_ok hS hAn (Nat.le_of_ble_eq_true rfl) (Nat.le_of_ble_eq_true rfl) dX4_init_16 (fun H hB hz_ ho_ hS => ?_)
  have hO := hO.kept (ho_ _ (by omega))
  have hF : gFz E H := hF.kept (fun z hz => ho_ z (by omega))
  have hL1 := hL1.kept0 (row' := nZ) (ho_ _ (by omega))
  refine lv_dup hx hb dX4_init_19 rfl ?_
  refine g_cWv (k2 := 2) (n2 := 6) (g_runI (rest := [.ref (sz + 1), .ref a]) hC (c_Jx4a65c_init_da8c8 hE (sz + 1) (sz + 2) t hem (by omega)) Y_Jx4a65c_init_da8c8 k_672 I_Jx4a65c_init_da8c8 rfl ⟨hF, by omega, hB⟩ rfl hl.1 dX4_init_20 ⟨Nat.le_of_ble_eq_true rfl, Nat.le_of_ble_eq_true rfl⟩ ⟨Nat.le_of_ble_eq_true rfl, Nat.le_of_ble_eq_true rfl⟩ rfl (Nat.le_of_ble_eq_true rfl)) hS (fun q h => Or.inr (by omega)) rfl rfl (fun H lo h4_ hz_ hk_ hS => ?_)
  obtain ⟨hszhL2, hL2⟩ := h4_
  have hL2 := hL2 nZ
  have hO := hO.kept (hk_ _ (by omega) (by omega))
  have hF : gFz E H := hF.kept (fun z hz => hk_ z (by omega) (by omega))
  have hL1 := hL1.kept0 (row' := nZ) (hk_ _ (by omega) (by omega))
  refine g_put hC hO hS (Or.inl rfl) (C := RX4) (T := TX4) (N := 6) rfl u4_in tyX4 tyX4_ok nmX4 1 (by omega) k_727 (Or.inr ⟨rfl, hname, rfl⟩) (tyX4_ok 1 (by omega)) rfl rfl (show 1 < 6 by omega) dX4_init_23 (fun H lo hO hz_ ho_ hS => ?_)
  have hO : gA E a (.inr (5, [.ref (sz + 0), .ref (sz + 1), .null, .null, .null, .int 0])) H := hO
  have hF : gFz E H := hF.kept (fun z hz => ho_ z (by omega))
  have hL1 := hL1.kept0 (row' := nZ) (ho_ _ (by omega))
  have hL2 := hL2.kept0 (row' := nZ) (ho_ _ (by omega))
  refine lv_aload_n hx hb dX4_init_26 rfl (lv_at hl 0 rfl) ?_
  refine g_nwo (q := sz + 2) (ci := 0) (by omega) hC rfl uJ_in tyJx4a65c tyJx4a65c_ok k_671 k_186 k_4 blJ_ok hS hAn (Nat.le_of_ble_eq_true rfl) (Nat.le_of_ble_eq_true rfl) dX4_init_27 (fun H hB hz_ ho_ hS => ?_)
  have hO := hO.kept (ho_ _ (by omega))
  have hF : gFz E H := hF.kept (fun z hz => ho_ z (by omega))
  have hL1 := hL1.kept0 (row' := nZ) (ho_ _ (by omega))
  have hL2 := hL2.kept0 (row' := nZ) (ho_ _ (by omega))
  refine lv_dup hx hb dX4_init_30 rfl ?_
  refine g_cWv (k2 := 3) (n2 := 9) (g_runI (rest := [.ref (sz + 2), .ref a]) hC (c_Jx4a65c_init_da8c8 hE (sz + 2) (sz + 3) t hem (by omega)) Y_Jx4a65c_init_da8c8 k_672 I_Jx4a65c_init_da8c8 rfl ⟨hF, by omega, hB⟩ rfl hl.1 dX4_init_31 ⟨Nat.le_of_ble_eq_true rfl, Nat.le_of_ble_eq_true rfl⟩ ⟨Nat.le_of_ble_eq_true rfl, Nat.le_of_ble_eq_true rfl⟩ rfl (Nat.le_of_ble_eq_true rfl)) hS (fun q h => Or.inr (by omega)) rfl rfl (fun H lo h6_ hz_ hk_ hS => ?_)
  obtain ⟨hszhL3, hL3⟩ := h6_
  have hL3 := hL3 nZ
  have hO := hO.kept (hk_ _ (by omega) (by omega))
  have hF : gFz E H := hF.kept (fun z hz => hk_ z (by omega) (by omega))
  have hL1 := hL1.kept0 (row' := nZ) (hk_ _ (by omega) (by omega))
  have hL2 := hL2.kept0 (row' := nZ) (hk_ _ (by omega) (by omega))
  refine g_put hC hO hS (Or.inl rfl) (C := RX4) (T := TX4) (N := 6) rfl u4_in tyX4 tyX4_ok nmX4 2 (by omega) k_728 (Or.inr ⟨rfl, hname, rfl⟩) (tyX4_ok 2 (by omega)) rfl rfl (show 2 < 6 by omega) dX4_init_34 (fun H lo hO hz_ ho_ hS => ?_)
  have hO : gA E a (.inr (5, [.ref (sz + 0), .ref (sz + 1), .ref (sz + 2), .null, .null, .int 0])) H := hO
  have hF : gFz E H := hF.kept (fun z hz => ho_ z (by omega))
  have hL1 := hL1.kept0 (row' := nZ) (ho_ _ (by omega))
  have hL2 := hL2.kept0 (row' := nZ) (ho_ _ (by omega))
  have hL3 := hL3.kept0 (row' := nZ) (ho_ _ (by omega))
  refine lv_aload_n hx hb dX4_init_37 rfl (lv_at hl 0 rfl) ?_
  refine g_nwo (q := sz + 3) (ci := 2) (by omega) hC rfl u1_in tyX1 tyX1_ok k_694 k_412 k_5 bl1_ok hS hAn (Nat.le_of_ble_eq_true rfl) (Nat.le_of_ble_eq_true rfl) dX4_init_38 (fun H hB hz_ ho_ hS => ?_)
  have hO := hO.kept (ho_ _ (by omega))
  have hF : gFz E H := hF.kept (fun z hz => ho_ z (by omega))
  have hL1 := hL1.kept0 (row' := nZ) (ho_ _ (by omega))
  have hL2 := hL2.kept0 (row' := nZ) (ho_ _ (by omega))
  have hL3 := hL3.kept0 (row' := nZ) (ho_ _ (by omega))
  refine lv_dup hx hb dX4_init_41 rfl ?_
  refine g_cWv (k2 := 8) (n2 := 87) (g_runI (rest := [.ref (sz + 3), .ref a]) hC (c_X1_init hE (sz + 3) (sz + 4)) Y_X1_init k_695 I_X1_init rfl ⟨by omega, hB⟩ rfl hl.1 dX4_init_42 ⟨Nat.le_of_ble_eq_true rfl, Nat.le_of_ble_eq_true rfl⟩ ⟨Nat.le_of_ble_eq_true rfl, Nat.le_of_ble_eq_true rfl⟩ rfl (Nat.le_of_ble_eq_true rfl)) hS (fun q h => Or.inr (by omega)) rfl rfl (fun H lo h8_ hz_ hk_ hS => ?_)
  obtain ⟨hszhM4, hM4⟩ := h8_
  have hO := hO.kept (hk_ _ (by omega) (by omega))
  have hF : gFz E H := hF.kept (fun z hz => hk_ z (by omega) (by omega))
  have hL1 := hL1.kept0 (row' := nZ) (hk_ _ (by omega) (by omega))
  have hL2 := hL2.kept0 (row' := nZ) (hk_ _ (by omega) (by omega))
  have hL3 := hL3.kept0 (row' := nZ) (hk_ _ (by omega) (by omega))
  refine g_put hC hO hS (Or.inl rfl) (C := RX4) (T := TX4) (N := 6) rfl u4_in tyX4 tyX4_ok nmX4 3 (by omega) k_729 (Or.inr ⟨rfl, hname, rfl⟩) (tyX4_ok 3 (by omega)) rfl rfl (show 3 < 6 by omega) dX4_init_45 (fun H lo hO hz_ ho_ hS => ?_)
  have hO : gA E a (.inr (5, [.ref (sz + 0), .ref (sz + 1), .ref (sz + 2), .ref (sz + 3), .null, .int 0])) H := hO
  have hF : gFz E H := hF.kept (fun z hz => ho_ z (by omega))
  have hL1 := hL1.kept0 (row' := nZ) (ho_ _ (by omega))
  have hL2 := hL2.kept0 (row' := nZ) (ho_ _ (by omega))
  have hL3 := hL3.kept0 (row' := nZ) (ho_ _ (by omega))
  have hM4 := hM4.kept (fun k hk => ho_ _ (by split <;> omega))
  refine lv_aload_n hx hb dX4_init_48 rfl (lv_at hl 0 rfl) ?_
  refine g_nwo (q := sz + 8) (ci := 2) (by omega) hC rfl u1_in tyX1 tyX1_ok k_694 k_412 k_5 bl1_ok hS hAn (Nat.le_of_ble_eq_true rfl) (Nat.le_of_ble_eq_true rfl) dX4_init_49 (fun H hB hz_ ho_ hS => ?_)
  have hO := hO.kept (ho_ _ (by omega))
  have hF : gFz E H := hF.kept (fun z hz => ho_ z (by omega))
  have hL1 := hL1.kept0 (row' := nZ) (ho_ _ (by omega))
  have hL2 := hL2.kept0 (row' := nZ) (ho_ _ (by omega))
  have hL3 := hL3.kept0 (row' := nZ) (ho_ _ (by omega))
  have hM4 := hM4.kept (fun k hk => ho_ _ (by split <;> omega))
  refine lv_dup hx hb dX4_init_52 rfl ?_
  refine g_cWv (k2 := 13) (n2 := 165) (g_runI (rest := [.ref (sz + 8), .ref a]) hC (c_X1_init hE (sz + 8) (sz + 9)) Y_X1_init k_695 I_X1_init rfl ⟨by omega, hB⟩ rfl hl.1 dX4_init_53 ⟨Nat.le_of_ble_eq_true rfl, Nat.le_of_ble_eq_true rfl⟩ ⟨Nat.le_of_ble_eq_true rfl, Nat.le_of_ble_eq_true rfl⟩ rfl (Nat.le_of_ble_eq_true rfl)) hS (fun q h => Or.inr (by omega)) rfl rfl (fun H lo h10_ hz_ hk_ hS => ?_)
  obtain ⟨hszhM9, hM9⟩ := h10_
  have hO := hO.kept (hk_ _ (by omega) (by omega))
  have hF : gFz E H := hF.kept (fun z hz => hk_ z (by omega) (by omega))
  have hL1 := hL1.kept0 (row' := nZ) (hk_ _ (by omega) (by omega))
  have hL2 := hL2.kept0 (row' := nZ) (hk_ _ (by omega) (by omega))
  have hL3 := hL3.kept0 (row' := nZ) (hk_ _ (by omega) (by omega))
  have hM4 := hM4.kept (fun k hk => hk_ _ (by split <;> omega) (by split <;> omega))
  refine g_put hC hO hS (Or.inl rfl) (C := RX4) (T := TX4) (N := 6) rfl u4_in tyX4 tyX4_ok nmX4 4 (by omega) k_730 (Or.inr ⟨rfl, hname, rfl⟩) (tyX4_ok 4 (by omega)) rfl rfl (show 4 < 6 by omega) dX4_init_56 (fun H lo hO hz_ ho_ hS => ?_)
  have hO : gA E a (.inr (5, [.ref (sz + 0), .ref (sz + 1), .ref (sz + 2), .ref (sz + 3), .ref (sz + 8), .int 0])) H := hO
  have hF : gFz E H := hF.kept (fun z hz => ho_ z (by omega))
  have hL1 := hL1.kept0 (row' := nZ) (ho_ _ (by omega))
  have hL2 := hL2.kept0 (row' := nZ) (ho_ _ (by omega))
  have hL3 := hL3.kept0 (row' := nZ) (ho_ _ (by omega))
  have hM4 := hM4.kept (fun k hk => ho_ _ (by split <;> omega))
  have hM9 := hM9.kept (fun k hk => ho_ _ (by split <;> omega))
  refine lv_aload_n hx hb dX4_init_59 rfl (lv_at hl 0 rfl) ?_
  refine lv_iconst (v := 0) hx hb dX4_init_60 (by decide) ?_
  refine g_put hC hO hS (Or.inl rfl) (C := RX4) (T := TX4) (N := 6) rfl u4_in tyX4 tyX4_ok nmX4 5 (by omega) k_731 (Or.inl rfl) (tyX4_ok 5 (by omega)) rfl rfl (show 5 < 6 by omega) dX4_init_61 (fun H lo hO hz_ ho_ hS => ?_)
  have hO : gA E a (.inr (5, [.ref (sz + 0), .ref (sz + 1), .ref (sz + 2), .ref (sz + 3), .ref (sz + 8), .int 0])) H := hO
  have hF : gFz E H := hF.kept (fun z hz => ho_ z (by omega))
  have hL1 := hL1.kept0 (row' := nZ) (ho_ _ (by omega))
  have hL2 := hL2.kept0 (row' := nZ) (ho_ _ (by omega))
  have hL3 := hL3.kept0 (row' := nZ) (ho_ _ (by omega))
  have hM4 := hM4.kept (fun k hk => ho_ _ (by split <;> omega))
  have hM9 := hM9.kept (fun k hk => ho_ _ (by split <;> omega))
  exact g_vretW hC hr dX4_init_64 hS (Nat.le_of_ble_eq_true rfl) (Nat.le_of_ble_eq_true rfl) ⟨by omega, t, rx_new hF haE hal2 hO hL1 hL2 hL3 hM4 hM9⟩
