set_option maxHeartbeats 4000000 in
set_option maxRecDepth 100000 in
theorem c_X4_init {l : Launch} {E : gV} (hE : gOK l E)  (a : Nat) (sz : Nat) (haE : E.2.1.heap.size ≤ a) : gM l E yX4_init cX4_init 1 none ({ frames := 11, cells := 13, slots := 200, locals := 200 } : Room) [.ref a] (fun H => gFz E H ∧ H.size = sz ∧ gA E a (.inr (5, bl4)) H) (gQW (fun q => q = a ∨ sz ≤ q) (gWv (fun H => H.size = sz + 13 ∧ ∃ t, RX E (aNew a sz t) fZ (fun _ => mZ) nZ H))) (fun _ => False) (fun q => q = a ∨ sz ≤ q) := by
  refine gM_body hE (by decide +kernel) (Nat.le_of_ble_eq_true rfl) ?_
  intro p_ e_ s m args below meth c hC ht hr hname hP ls hl
  have hx := hC.2.2.1
  have hb := hC.2.2.2.1
  have hl : lv_has ls 1 [(0, .ref a)] := hl
  have hS : va_S ((fun q => q = a ∨ sz ≤ q)) s.heap s.heap [] := va_S.rf
  obtain ⟨hF, hsz, hO⟩ := hP
  have hal := hO.lt
  have hAn : ∀ q, s.heap.size ≤ q → q = a ∨ sz ≤ q := fun q hq => Or.inr (by omega)
  have hal2 : a < sz := by omega
  obtain ⟨t, hem, -⟩ := g_emp hE
  refine lv_aload_n hx hb dX4_init_0 rfl (lv_at hl 0 rfl) ?_
  refine g_oinit hC hl.1 k_33 dX4_init_1 (Nat.le_of_ble_eq_true rfl) (Nat.le_of_ble_eq_true rfl) ?_
  refine lv_aload_n hx hb dX4_init_4 rfl (lv_at hl 0 rfl) ?_
  refine g_nwo (q := sz + 0) (ci := 0) (by omega) hC rfl uJ_in tyJx4a65c tyJx4a65c_ok k_36 k_37 k_4 blJ_ok hS hAn (Nat.le_of_ble_eq_true rfl) (Nat.le_of_ble_eq_true rfl) dX4_init_5 (fun H hB hz_ ho_ hS => ?_)
  have hO := hO.kept (ho_ _ (by omega))
  have hF : gFz E H := hF.kept (fun z hz => ho_ z (by omega))
  refine lv_dup hx hb dX4_init_8 rfl ?_
  refine g_cWv (k2 := 1) (n2 := 3) (g_runI (rest := [.ref (sz + 0), .ref a]) hC (c_Jx4a65c_init_da8c8 hE (sz + 0) (sz + 1) t hem (by omega)) Y_Jx4a65c_init_da8c8 k_38 I_Jx4a65c_init_da8c8 rfl ⟨hF, by omega, hB⟩ rfl hl.1 dX4_init_9 ⟨Nat.le_of_ble_eq_true rfl, Nat.le_of_ble_eq_true rfl⟩ ⟨Nat.le_of_ble_eq_true rfl, Nat.le_of_ble_eq_true rfl⟩ rfl (Nat.le_of_ble_eq_true rfl)) hS (fun q h => Or.inr (by omega)) rfl rfl (fun H lo h2_ hz_ hk_ hS => ?_)
  obtain ⟨hszhL1, hL1⟩ := h2_
  have hL1 := hL1 nZ
  have hO := hO.kept (hk_ _ (by omega) (by omega))
  have hF : gFz E H := hF.kept (fun z hz => hk_ z (by omega) (by omega))
  refine g_put hC hO hS (Or.inl rfl) (C := RX4) (T := TX4) (N := 6) rfl u4_in tyX4 tyX4_ok nmX4 0 (by omega) k_95 (Or.inr ⟨rfl, hname, rfl⟩) (tyX4_ok 0 (by omega)) rfl rfl (show 0 < 6 by omega) dX4_init_12 (fun H lo hO hz_ ho_ hS => ?_)
  have hO : gA E a (.inr (5, [.ref (sz + 0), .null, .null, .null, .null, .int 0])) H := hO
  have hF : gFz E H := hF.kept (fun z hz => ho_ z (by omega))
  have hL1 := hL1.kept0 (row' := nZ) (ho_ _ (by omega))
  refine lv_aload_n hx hb dX4_init_15 rfl (lv_at hl 0 rfl) ?_
  refine g_nwo (q := sz + 1) (ci := 0) (by omega) hC rfl uJ_in tyJx4a65c tyJx4a65c_ok k_36 k_37 k_4 blJ_ok hS hAn (Nat.le_of_ble_eq_true rfl) (Nat.le_of_ble_eq_true rfl) dX4_init_16 (fun H hB hz_ ho_ hS => ?_)
  have hO := hO.kept (ho_ _ (by omega))
  have hF : gFz E H := hF.kept (fun z hz => ho_ z (by omega))
  have hL1 := hL1.kept0 (row' := nZ) (ho_ _ (by omega))
  refine lv_dup hx hb dX4_init_19 rfl ?_
  refine g_cWv (k2 := 2) (n2 := 6) (g_runI (rest := [.ref (sz + 1), .ref a]) hC (c_Jx4a65c_init_da8c8 hE (sz + 1) (sz + 2) t hem (by omega)) Y_Jx4a65c_init_da8c8 k_38 I_Jx4a65c_init_da8c8 rfl ⟨hF, by omega, hB⟩ rfl hl.1 dX4_init_20 ⟨Nat.le_of_ble_eq_true rfl, Nat.le_of_ble_eq_true rfl⟩ ⟨Nat.le_of_ble_eq_true rfl, Nat.le_of_ble_eq_true rfl⟩ rfl (Nat.le_of_ble_eq_true rfl)) hS (fun q h => Or.inr (by omega)) rfl rfl (fun H lo h4_ hz_ hk_ hS => ?_)
  obtain ⟨hszhL2, hL2⟩ := h4_
  have hL2 := hL2 nZ
  have hO := hO.kept (hk_ _ (by omega) (by omega))
  have hF : gFz E H := hF.kept (fun z hz => hk_ z (by omega) (by omega))
  have hL1 := hL1.kept0 (row' := nZ) (hk_ _ (by omega) (by omega))
  refine g_put hC hO hS (Or.inl rfl) (C := RX4) (T := TX4) (N := 6) rfl u4_in tyX4 tyX4_ok nmX4 1 (by omega) k_96 (Or.inr ⟨rfl, hname, rfl⟩) (tyX4_ok 1 (by omega)) rfl rfl (show 1 < 6 by omega) dX4_init_23 (fun H lo hO hz_ ho_ hS => ?_)
  have hO : gA E a (.inr (5, [.ref (sz + 0), .ref (sz + 1), .null, .null, .null, .int 0])) H := hO
  have hF : gFz E H := hF.kept (fun z hz => ho_ z (by omega))
  have hL1 := hL1.kept0 (row' := nZ) (ho_ _ (by omega))
  have hL2 := hL2.kept0 (row' := nZ) (ho_ _ (by omega))
  refine lv_aload_n hx hb dX4_init_26 rfl (lv_at hl 0 rfl) ?_
  refine g_nwo (q := sz + 2) (ci := 0) (by omega) hC rfl uJ_in tyJx4a65c tyJx4a65c_ok k_36 k_37 k_4 blJ_ok hS hAn (Nat.le_of_ble_eq_true rfl) (Nat.le_of_ble_eq_true rfl) dX4_init_27 (fun H hB hz_ ho_ hS => ?_)
  have hO := hO.kept (ho_ _ (by omega))
  have hF : gFz E H := hF.kept (fun z hz => ho_ z (by omega))
  have hL1 := hL1.kept0 (row' := nZ) (ho_ _ (by omega))
  have hL2 := hL2.kept0 (row' := nZ) (ho_ _ (by omega))
  refine lv_dup hx hb dX4_init_30 rfl ?_
  refine g_cWv (k2 := 3) (n2 := 9) (g_runI (rest := [.ref (sz + 2), .ref a]) hC (c_Jx4a65c_init_da8c8 hE (sz + 2) (sz + 3) t hem (by omega)) Y_Jx4a65c_init_da8c8 k_38 I_Jx4a65c_init_da8c8 rfl ⟨hF, by omega, hB⟩ rfl hl.1 dX4_init_31 ⟨Nat.le_of_ble_eq_true rfl, Nat.le_of_ble_eq_true rfl⟩ ⟨Nat.le_of_ble_eq_true rfl, Nat.le_of_ble_eq_true rfl⟩ rfl (Nat.le_of_ble_eq_true rfl)) hS (fun q h => Or.inr (by omega)) rfl rfl (fun H lo h6_ hz_ hk_ hS => ?_)
  obtain ⟨hszhL3, hL3⟩ := h6_
  have hL3 := hL3 nZ
  have hO := hO.kept (hk_ _ (by omega) (by omega))
  have hF : gFz E H := hF.kept (fun z hz => hk_ z (by omega) (by omega))
  have hL1 := hL1.kept0 (row' := nZ) (hk_ _ (by omega) (by omega))
  have hL2 := hL2.kept0 (row' := nZ) (hk_ _ (by omega) (by omega))
  refine g_put hC hO hS (Or.inl rfl) (C := RX4) (T := TX4) (N := 6) rfl u4_in tyX4 tyX4_ok nmX4 2 (by omega) k_97 (Or.inr ⟨rfl, hname, rfl⟩) (tyX4_ok 2 (by omega)) rfl rfl (show 2 < 6 by omega) dX4_init_34 (fun H lo hO hz_ ho_ hS => ?_)
  have hO : gA E a (.inr (5, [.ref (sz + 0), .ref (sz + 1), .ref (sz + 2), .null, .null, .int 0])) H := hO
  have hF : gFz E H := hF.kept (fun z hz => ho_ z (by omega))
  have hL1 := hL1.kept0 (row' := nZ) (ho_ _ (by omega))
  have hL2 := hL2.kept0 (row' := nZ) (ho_ _ (by omega))
  have hL3 := hL3.kept0 (row' := nZ) (ho_ _ (by omega))
  refine lv_aload_n hx hb dX4_init_37 rfl (lv_at hl 0 rfl) ?_
  refine g_nwo (q := sz + 3) (ci := 2) (by omega) hC rfl u1_in tyX1 tyX1_ok k_62 k_63 k_5 bl1_ok hS hAn (Nat.le_of_ble_eq_true rfl) (Nat.le_of_ble_eq_true rfl) dX4_init_38 (fun H hB hz_ ho_ hS => ?_)
  have hO := hO.kept (ho_ _ (by omega))
  have hF : gFz E H := hF.kept (fun z hz => ho_ z (by omega))
  have hL1 := hL1.kept0 (row' := nZ) (ho_ _ (by omega))
  have hL2 := hL2.kept0 (row' := nZ) (ho_ _ (by omega))
  have hL3 := hL3.kept0 (row' := nZ) (ho_ _ (by omega))
  refine lv_dup hx hb dX4_init_41 rfl ?_
  refine g_cWv (k2 := 8) (n2 := 87) (g_runI (rest := [.ref (sz + 3), .ref a]) hC (c_X1_init hE (sz + 3) (sz + 4)) Y_X1_init k_64 I_X1_init rfl ⟨by omega, hB⟩ rfl hl.1 dX4_init_42 ⟨Nat.le_of_ble_eq_true rfl, Nat.le_of_ble_eq_true rfl⟩ ⟨Nat.le_of_ble_eq_true rfl, Nat.le_of_ble_eq_true rfl⟩ rfl (Nat.le_of_ble_eq_true rfl)) hS (fun q h => Or.inr (by omega)) rfl rfl (fun H lo h8_ hz_ hk_ hS => ?_)
  obtain ⟨hszhM4, hM4⟩ := h8_
  have hO := hO.kept (hk_ _ (by omega) (by omega))
  have hF : gFz E H := hF.kept (fun z hz => hk_ z (by omega) (by omega))
  have hL1 := hL1.kept0 (row' := nZ) (hk_ _ (by omega) (by omega))
  have hL2 := hL2.kept0 (row' := nZ) (hk_ _ (by omega) (by omega))
  have hL3 := hL3.kept0 (row' := nZ) (hk_ _ (by omega) (by omega))
  refine g_put hC hO hS (Or.inl rfl) (C := RX4) (T := TX4) (N := 6) rfl u4_in tyX4 tyX4_ok nmX4 3 (by omega) k_98 (Or.inr ⟨rfl, hname, rfl⟩) (tyX4_ok 3 (by omega)) rfl rfl (show 3 < 6 by omega) dX4_init_45 (fun H lo hO hz_ ho_ hS => ?_)
  have hO : gA E a (.inr (5, [.ref (sz + 0), .ref (sz + 1), .ref (sz + 2), .ref (sz + 3), .null, .int 0])) H := hO
  have hF : gFz E H := hF.kept (fun z hz => ho_ z (by omega))
  have hL1 := hL1.kept0 (row' := nZ) (ho_ _ (by omega))
  have hL2 := hL2.kept0 (row' := nZ) (ho_ _ (by omega))
  have hL3 := hL3.kept0 (row' := nZ) (ho_ _ (by omega))
  have hM4 := hM4.kept (fun k hk => ho_ _ (by split <;> omega))
  refine lv_aload_n hx hb dX4_init_48 rfl (lv_at hl 0 rfl) ?_
  refine g_nwo (q := sz + 8) (ci := 2) (by omega) hC rfl u1_in tyX1 tyX1_ok k_62 k_63 k_5 bl1_ok hS hAn (Nat.le_of_ble_eq_true rfl) (Nat.le_of_ble_eq_true rfl) dX4_init_49 (fun H hB hz_ ho_ hS => ?_)
  have hO := hO.kept (ho_ _ (by omega))
  have hF : gFz E H := hF.kept (fun z hz => ho_ z (by omega))
  have hL1 := hL1.kept0 (row' := nZ) (ho_ _ (by omega))
  have hL2 := hL2.kept0 (row' := nZ) (ho_ _ (by omega))
  have hL3 := hL3.kept0 (row' := nZ) (ho_ _ (by omega))
  have hM4 := hM4.kept (fun k hk => ho_ _ (by split <;> omega))
  refine lv_dup hx hb dX4_init_52 rfl ?_
  refine g_cWv (k2 := 13) (n2 := 165) (g_runI (rest := [.ref (sz + 8), .ref a]) hC (c_X1_init hE (sz + 8) (sz + 9)) Y_X1_init k_64 I_X1_init rfl ⟨by omega, hB⟩ rfl hl.1 dX4_init_53 ⟨Nat.le_of_ble_eq_true rfl, Nat.le_of_ble_eq_true rfl⟩ ⟨Nat.le_of_ble_eq_true rfl, Nat.le_of_ble_eq_true rfl⟩ rfl (Nat.le_of_ble_eq_true rfl)) hS (fun q h => Or.inr (by omega)) rfl rfl (fun H lo h10_ hz_ hk_ hS => ?_)
  obtain ⟨hszhM9, hM9⟩ := h10_
  have hO := hO.kept (hk_ _ (by omega) (by omega))
  have hF : gFz E H := hF.kept (fun z hz => hk_ z (by omega) (by omega))
  have hL1 := hL1.kept0 (row' := nZ) (hk_ _ (by omega) (by omega))
  have hL2 := hL2.kept0 (row' := nZ) (hk_ _ (by omega) (by omega))
  have hL3 := hL3.kept0 (row' := nZ) (hk_ _ (by omega) (by omega))
  have hM4 := hM4.kept (fun k hk => hk_ _ (by split <;> omega) (by split <;> omega))
  refine g_put hC hO hS (Or.inl rfl) (C := RX4) (T := TX4) (N := 6) rfl u4_in tyX4 tyX4_ok nmX4 4 (by omega) k_99 (Or.inr ⟨rfl, hname, rfl⟩) (tyX4_ok 4 (by omega)) rfl rfl (show 4 < 6 by omega) dX4_init_56 (fun H lo hO hz_ ho_ hS => ?_)
  have hO : gA E a (.inr (5, [.ref (sz + 0), .ref (sz + 1), .ref (sz + 2), .ref (sz + 3), .ref (sz + 8), .int 0])) H := hO
  have hF : gFz E H := hF.kept (fun z hz => ho_ z (by omega))
  have hL1 := hL1.kept0 (row' := nZ) (ho_ _ (by omega))
  have hL2 := hL2.kept0 (row' := nZ) (ho_ _ (by omega))
  have hL3 := hL3.kept0 (row' := nZ) (ho_ _ (by omega))
  have hM4 := hM4.kept (fun k hk => ho_ _ (by split <;> omega))
  have hM9 := hM9.kept (fun k hk => ho_ _ (by split <;> omega))
  refine lv_aload_n hx hb dX4_init_59 rfl (lv_at hl 0 rfl) ?_
  refine lv_iconst (v := 0) hx hb dX4_init_60 (by decide) ?_
  refine g_put hC hO hS (Or.inl rfl) (C := RX4) (T := TX4) (N := 6) rfl u4_in tyX4 tyX4_ok nmX4 5 (by omega) k_100 (Or.inl rfl) (tyX4_ok 5 (by omega)) rfl rfl (show 5 < 6 by omega) dX4_init_61 (fun H lo hO hz_ ho_ hS => ?_)
  have hO : gA E a (.inr (5, [.ref (sz + 0), .ref (sz + 1), .ref (sz + 2), .ref (sz + 3), .ref (sz + 8), .int 0])) H := hO
  have hF : gFz E H := hF.kept (fun z hz => ho_ z (by omega))
  have hL1 := hL1.kept0 (row' := nZ) (ho_ _ (by omega))
  have hL2 := hL2.kept0 (row' := nZ) (ho_ _ (by omega))
  have hL3 := hL3.kept0 (row' := nZ) (ho_ _ (by omega))
  have hM4 := hM4.kept (fun k hk => ho_ _ (by split <;> omega))
  have hM9 := hM9.kept (fun k hk => ho_ _ (by split <;> omega))
  exact g_vretW hC hr dX4_init_64 hS (Nat.le_of_ble_eq_true rfl) (Nat.le_of_ble_eq_true rfl) ⟨by omega, t, rx_new hF haE hal2 hO hL1 hL2 hL3 hM4 hM9⟩
set_option maxHeartbeats 4000000 in
set_option maxRecDepth 100000 in
theorem c_X5_init {l : Launch} {E : gV} (hE : gOK l E)  (a : Nat) (sz : Nat) : gM l E yX5_init cX5_init 1 none ({ frames := 8, cells := 19, slots := 400, locals := 140 } : Room) [.ref a] (fun H => H.size = sz ∧ gA E a (.inr (6, bl5)) H) (gQW (fun q => q = a ∨ sz ≤ q) (gWv (fun H => H.size = sz + 19 ∧ RM E (fun k => if k = 19 then a else sz + k) mu0 nZ 0 0 H))) (fun _ => False) (fun q => q = a ∨ sz ≤ q) := by
  refine gM_body hE (by decide +kernel) (Nat.le_of_ble_eq_true rfl) ?_
  intro p_ e_ s m args below meth c hC ht hr hname hP ls hl
  have hx := hC.2.2.1
  have hb := hC.2.2.2.1
  have hl : lv_has ls 1 [(0, .ref a)] := hl
  have hS : va_S ((fun q => q = a ∨ sz ≤ q)) s.heap s.heap [] := va_S.rf
  obtain ⟨hsz, hO⟩ := hP
  have hal : a < sz := by have := hO.lt; omega
  have hR : mG E a sz 0 s.heap := ⟨hal, hsz, hO, fun j hj => by omega⟩
  refine lv_aload_n hx hb dX5_init_0 rfl (lv_at hl 0 rfl) ?_
  refine g_oinit hC hl.1 k_995 dX5_init_1 (Nat.le_of_ble_eq_true rfl) (Nat.le_of_ble_eq_true rfl) ?_
  refine lv_aload_n hx hb dX5_init_4 rfl (lv_at hl 0 rfl) ?_
  refine lv_bipush (v := 8) hx hb dX5_init_5 (by decide) ?_
  refine m_newp (n := 8) (atype := .boolean) 0 1 (by decide) hC hname hR hS hsz rfl rfl k_94 rfl rfl (fun C h => by cases h) rfl (by decide) (by decide) k_996 ⟨rfl, rfl⟩ rfl rfl (show 0 < 26 by omega) rfl (Nat.le_of_ble_eq_true rfl) (Nat.le_of_ble_eq_true rfl) dX5_init_7 dX5_init_9 (fun H lo hR hS => ?_)
  refine lv_aload_n hx hb dX5_init_12 rfl (lv_at hl 0 rfl) ?_
  refine lv_bipush (v := 20) hx hb dX5_init_13 (by decide) ?_
  refine m_newp (n := 20) (atype := .boolean) 1 1 (by decide) hC hname hR hS hsz rfl rfl k_94 rfl rfl (fun C h => by cases h) rfl (by decide) (by decide) k_997 ⟨rfl, rfl⟩ rfl rfl (show 1 < 26 by omega) rfl (Nat.le_of_ble_eq_true rfl) (Nat.le_of_ble_eq_true rfl) dX5_init_15 dX5_init_17 (fun H lo hR hS => ?_)
  refine lv_aload_n hx hb dX5_init_20 rfl (lv_at hl 0 rfl) ?_
  refine lv_bipush (v := 8) hx hb dX5_init_21 (by decide) ?_
  refine m_newp (n := 8) (atype := .int) 2 0 (by decide) hC hname hR hS hsz rfl rfl k_93 rfl rfl (fun C h => by cases h) rfl (by decide) (by decide) k_998 ⟨rfl, rfl⟩ rfl rfl (show 2 < 26 by omega) rfl (Nat.le_of_ble_eq_true rfl) (Nat.le_of_ble_eq_true rfl) dX5_init_23 dX5_init_25 (fun H lo hR hS => ?_)
  refine lv_aload_n hx hb dX5_init_28 rfl (lv_at hl 0 rfl) ?_
  refine lv_bipush (v := 20) hx hb dX5_init_29 (by decide) ?_
  refine m_newp (n := 20) (atype := .int) 3 0 (by decide) hC hname hR hS hsz rfl rfl k_93 rfl rfl (fun C h => by cases h) rfl (by decide) (by decide) k_999 ⟨rfl, rfl⟩ rfl rfl (show 3 < 26 by omega) rfl (Nat.le_of_ble_eq_true rfl) (Nat.le_of_ble_eq_true rfl) dX5_init_31 dX5_init_33 (fun H lo hR hS => ?_)
  refine lv_aload_n hx hb dX5_init_36 rfl (lv_at hl 0 rfl) ?_
  refine lv_bipush (v := 20) hx hb dX5_init_37 (by decide) ?_
  refine m_newp (n := 20) (atype := .int) 4 0 (by decide) hC hname hR hS hsz rfl rfl k_93 rfl rfl (fun C h => by cases h) rfl (by decide) (by decide) k_1000 ⟨rfl, rfl⟩ rfl rfl (show 4 < 26 by omega) rfl (Nat.le_of_ble_eq_true rfl) (Nat.le_of_ble_eq_true rfl) dX5_init_39 dX5_init_41 (fun H lo hR hS => ?_)
  refine lv_aload_n hx hb dX5_init_44 rfl (lv_at hl 0 rfl) ?_
  refine lv_bipush (v := 20) hx hb dX5_init_45 (by decide) ?_
  refine m_newp (n := 20) (atype := .int) 5 0 (by decide) hC hname hR hS hsz rfl rfl k_93 rfl rfl (fun C h => by cases h) rfl (by decide) (by decide) k_1001 ⟨rfl, rfl⟩ rfl rfl (show 5 < 26 by omega) rfl (Nat.le_of_ble_eq_true rfl) (Nat.le_of_ble_eq_true rfl) dX5_init_47 dX5_init_49 (fun H lo hR hS => ?_)
  refine lv_aload_n hx hb dX5_init_52 rfl (lv_at hl 0 rfl) ?_
  refine lv_bipush (v := 20) hx hb dX5_init_53 (by decide) ?_
  refine m_newp (n := 20) (atype := .int) 6 0 (by decide) hC hname hR hS hsz rfl rfl k_93 rfl rfl (fun C h => by cases h) rfl (by decide) (by decide) k_1002 ⟨rfl, rfl⟩ rfl rfl (show 6 < 26 by omega) rfl (Nat.le_of_ble_eq_true rfl) (Nat.le_of_ble_eq_true rfl) dX5_init_55 dX5_init_57 (fun H lo hR hS => ?_)
  refine lv_aload_n hx hb dX5_init_60 rfl (lv_at hl 0 rfl) ?_
  refine lv_bipush (v := 20) hx hb dX5_init_61 (by decide) ?_
  refine m_newp (n := 20) (atype := .int) 7 0 (by decide) hC hname hR hS hsz rfl rfl k_93 rfl rfl (fun C h => by cases h) rfl (by decide) (by decide) k_1003 ⟨rfl, rfl⟩ rfl rfl (show 7 < 26 by omega) rfl (Nat.le_of_ble_eq_true rfl) (Nat.le_of_ble_eq_true rfl) dX5_init_63 dX5_init_65 (fun H lo hR hS => ?_)
  refine lv_aload_n hx hb dX5_init_68 rfl (lv_at hl 0 rfl) ?_
  refine lv_bipush (v := 20) hx hb dX5_init_69 (by decide) ?_
  refine m_newp (n := 20) (atype := .int) 8 0 (by decide) hC hname hR hS hsz rfl rfl k_93 rfl rfl (fun C h => by cases h) rfl (by decide) (by decide) k_1004 ⟨rfl, rfl⟩ rfl rfl (show 8 < 26 by omega) rfl (Nat.le_of_ble_eq_true rfl) (Nat.le_of_ble_eq_true rfl) dX5_init_71 dX5_init_73 (fun H lo hR hS => ?_)
  refine lv_aload_n hx hb dX5_init_76 rfl (lv_at hl 0 rfl) ?_
  refine lv_bipush (v := 20) hx hb dX5_init_77 (by decide) ?_
  refine m_newp (n := 20) (atype := .char) 9 2 (by decide) hC hname hR hS hsz rfl rfl k_1075 rfl rfl (fun C h => by cases h) rfl (by decide) (by decide) k_1005 ⟨rfl, rfl⟩ rfl rfl (show 9 < 26 by omega) rfl (Nat.le_of_ble_eq_true rfl) (Nat.le_of_ble_eq_true rfl) dX5_init_79 dX5_init_81 (fun H lo hR hS => ?_)
  refine lv_aload_n hx hb dX5_init_84 rfl (lv_at hl 0 rfl) ?_
  refine lv_bipush (v := 24) hx hb dX5_init_85 (by decide) ?_
  refine m_newp (n := 24) (atype := .int) 10 0 (by decide) hC hname hR hS hsz rfl rfl k_93 rfl rfl (fun C h => by cases h) rfl (by decide) (by decide) k_1006 ⟨rfl, rfl⟩ rfl rfl (show 10 < 26 by omega) rfl (Nat.le_of_ble_eq_true rfl) (Nat.le_of_ble_eq_true rfl) dX5_init_87 dX5_init_89 (fun H lo hR hS => ?_)
  refine lv_aload_n hx hb dX5_init_92 rfl (lv_at hl 0 rfl) ?_
  refine lv_bipush (v := 24) hx hb dX5_init_93 (by decide) ?_
  refine m_newp (n := 24) (atype := .int) 11 0 (by decide) hC hname hR hS hsz rfl rfl k_93 rfl rfl (fun C h => by cases h) rfl (by decide) (by decide) k_1007 ⟨rfl, rfl⟩ rfl rfl (show 11 < 26 by omega) rfl (Nat.le_of_ble_eq_true rfl) (Nat.le_of_ble_eq_true rfl) dX5_init_95 dX5_init_97 (fun H lo hR hS => ?_)
  refine lv_aload_n hx hb dX5_init_100 rfl (lv_at hl 0 rfl) ?_
  refine lv_bipush (v := 24) hx hb dX5_init_101 (by decide) ?_
  refine m_newp (n := 24) (atype := .int) 12 0 (by decide) hC hname hR hS hsz rfl rfl k_93 rfl rfl (fun C h => by cases h) rfl (by decide) (by decide) k_1008 ⟨rfl, rfl⟩ rfl rfl (show 12 < 26 by omega) rfl (Nat.le_of_ble_eq_true rfl) (Nat.le_of_ble_eq_true rfl) dX5_init_103 dX5_init_105 (fun H lo hR hS => ?_)
  refine lv_aload_n hx hb dX5_init_108 rfl (lv_at hl 0 rfl) ?_
  refine lv_bipush (v := 24) hx hb dX5_init_109 (by decide) ?_
  refine m_newp (n := 24) (atype := .int) 13 0 (by decide) hC hname hR hS hsz rfl rfl k_93 rfl rfl (fun C h => by cases h) rfl (by decide) (by decide) k_1009 ⟨rfl, rfl⟩ rfl rfl (show 13 < 26 by omega) rfl (Nat.le_of_ble_eq_true rfl) (Nat.le_of_ble_eq_true rfl) dX5_init_111 dX5_init_113 (fun H lo hR hS => ?_)
  refine lv_aload_n hx hb dX5_init_116 rfl (lv_at hl 0 rfl) ?_
  refine lv_bipush (v := 24) hx hb dX5_init_117 (by decide) ?_
  refine m_newp (n := 24) (atype := .int) 14 0 (by decide) hC hname hR hS hsz rfl rfl k_93 rfl rfl (fun C h => by cases h) rfl (by decide) (by decide) k_1010 ⟨rfl, rfl⟩ rfl rfl (show 14 < 26 by omega) rfl (Nat.le_of_ble_eq_true rfl) (Nat.le_of_ble_eq_true rfl) dX5_init_119 dX5_init_121 (fun H lo hR hS => ?_)
  refine lv_aload_n hx hb dX5_init_124 rfl (lv_at hl 0 rfl) ?_
  refine lv_bipush (v := 24) hx hb dX5_init_125 (by decide) ?_
  refine m_newp (n := 24) (atype := .int) 15 0 (by decide) hC hname hR hS hsz rfl rfl k_93 rfl rfl (fun C h => by cases h) rfl (by decide) (by decide) k_1011 ⟨rfl, rfl⟩ rfl rfl (show 15 < 26 by omega) rfl (Nat.le_of_ble_eq_true rfl) (Nat.le_of_ble_eq_true rfl) dX5_init_127 dX5_init_129 (fun H lo hR hS => ?_)
  refine lv_aload_n hx hb dX5_init_132 rfl (lv_at hl 0 rfl) ?_
  refine lv_bipush (v := 24) hx hb dX5_init_133 (by decide) ?_
  refine m_newp (n := 24) (atype := .int) 16 0 (by decide) hC hname hR hS hsz rfl rfl k_93 rfl rfl (fun C h => by cases h) rfl (by decide) (by decide) k_1012 ⟨rfl, rfl⟩ rfl rfl (show 16 < 26 by omega) rfl (Nat.le_of_ble_eq_true rfl) (Nat.le_of_ble_eq_true rfl) dX5_init_135 dX5_init_137 (fun H lo hR hS => ?_)
  refine lv_aload_n hx hb dX5_init_140 rfl (lv_at hl 0 rfl) ?_
  refine lv_bipush (v := 24) hx hb dX5_init_141 (by decide) ?_
  refine m_newp (n := 24) (atype := .char) 17 2 (by decide) hC hname hR hS hsz rfl rfl k_1075 rfl rfl (fun C h => by cases h) rfl (by decide) (by decide) k_1013 ⟨rfl, rfl⟩ rfl rfl (show 17 < 26 by omega) rfl (Nat.le_of_ble_eq_true rfl) (Nat.le_of_ble_eq_true rfl) dX5_init_143 dX5_init_145 (fun H lo hR hS => ?_)
  refine lv_aload_n hx hb dX5_init_148 rfl (lv_at hl 0 rfl) ?_
  refine lv_bipush (v := 24) hx hb dX5_init_149 (by decide) ?_
  refine m_newp (n := 24) (atype := .char) 18 2 (by decide) hC hname hR hS hsz rfl rfl k_1075 rfl rfl (fun C h => by cases h) rfl (by decide) (by decide) k_1014 ⟨rfl, rfl⟩ rfl rfl (show 18 < 26 by omega) rfl (Nat.le_of_ble_eq_true rfl) (Nat.le_of_ble_eq_true rfl) dX5_init_151 dX5_init_153 (fun H lo hR hS => ?_)
  obtain ⟨-, hz_, hO, hN⟩ := hR
  refine lv_aload_n hx hb dX5_init_156 rfl (lv_at hl 0 rfl) ?_
  refine lv_bipush (v := 30) hx hb dX5_init_157 (by decide) ?_
  refine g_put hC hO hS (Or.inl rfl) (C := RX5) (T := TX5) (N := 26) rfl u5_in tyX5 tyX5_ok nmX5 23 (by omega) k_1019 (Or.inl rfl) (tyX5_ok 23 (by omega)) rfl rfl (show 23 < 26 by omega) dX5_init_159 (fun H lo hO hz2_ ho_ hS => ?_)
  exact g_vretW hC hr dX5_init_162 hS (Nat.le_of_ble_eq_true rfl) (Nat.le_of_ble_eq_true rfl) ⟨by omega, rm_new hal hO (fun k hk => (hN k hk).kept (ho_ _ (by omega)))⟩
