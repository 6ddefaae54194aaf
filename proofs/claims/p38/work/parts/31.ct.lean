set_option maxHeartbeats 4000000 in
set_option maxRecDepth 100000 in
theorem c_X0_init {l : Launch} {E : gV} (hE : gOK l E)  (a : Nat) (d : Nat) (p1 o1 k1 a1 pa1 : Int32) : gM l E yX0_init cX0_init 7 none ({ frames := 8, cells := 0, slots := 0, locals := 140 } : Room) [.ref a, .int (nI d), .int p1, .int o1, .int k1, .int a1, .int pa1] (fun H => gA E a (.inr (1, bl0)) H) (gQW (fun q => q = a) (gWv (fun H => gA E a (.inr (1, [.int (nI d), .int p1, .int o1, .int k1, .int a1, .int pa1, .int 0, .int 0, .int 0, .int 0, .int 45, .int (-1), .int 0, .int (-1), .int 0, .int 0])) H))) (fun _ => False) (fun q => q = a) := by
  refine gM_body hE (by decide +kernel) (Nat.le_of_ble_eq_true rfl) ?_
  intro p_ e_ s m args below meth c hC ht hr hname hP ls hl
  have hx := hC.2.2.1
  have hb := hC.2.2.2.1
  have hl : lv_has ls 7 [(0, .ref a), (1, .int (nI d)), (2, .int p1), (3, .int o1), (4, .int k1), (5, .int a1), (6, .int pa1)] := hl
  have hS : va_S ((fun q => q = a)) s.heap s.heap [] := va_S.rf
  have hO : gA E a (.inr (1, bl0)) s.heap := hP
  refine lv_aload_n hx hb dX0_init_0 rfl (lv_at hl 0 rfl) ?_
  refine g_oinit hC hl.1 k_299 dX0_init_1 (Nat.le_of_ble_eq_true rfl) (Nat.le_of_ble_eq_true rfl) ?_
  refine lv_aload_n hx hb dX0_init_4 rfl (lv_at hl 0 rfl) ?_
  refine lv_bipush (v := 45) hx hb dX0_init_5 (by decide) ?_
  refine g_put hC hO hS rfl (C := RX0) (T := TX0) (N := 16) rfl u0_in tyX0 tyX0_ok nmX0 10 (by omega) k_318 (Or.inl rfl) (tyX0_ok 10 (by omega)) rfl rfl (show 10 < 16 by omega) dX0_init_7 (fun H lo hO hz_ ho_ hS => ?_)
  have hO : gA E a (.inr (1, [.int 0, .int 0, .int 0, .int 0, .int 0, .int 0, .int 0, .int 0, .int 0, .int 0, .int 45, .int 0, .int 0, .int 0, .int 0, .int 0])) H := hO
  refine lv_aload_n hx hb dX0_init_10 rfl (lv_at hl 0 rfl) ?_
  refine lv_iconst (v := (-1)) hx hb dX0_init_11 (by decide) ?_
  refine g_put hC hO hS rfl (C := RX0) (T := TX0) (N := 16) rfl u0_in tyX0 tyX0_ok nmX0 11 (by omega) k_320 (Or.inl rfl) (tyX0_ok 11 (by omega)) rfl rfl (show 11 < 16 by omega) dX0_init_12 (fun H lo hO hz_ ho_ hS => ?_)
  have hO : gA E a (.inr (1, [.int 0, .int 0, .int 0, .int 0, .int 0, .int 0, .int 0, .int 0, .int 0, .int 0, .int 45, .int ((-1)), .int 0, .int 0, .int 0, .int 0])) H := hO
  refine lv_aload_n hx hb dX0_init_15 rfl (lv_at hl 0 rfl) ?_
  refine lv_iconst (v := (-1)) hx hb dX0_init_16 (by decide) ?_
  refine g_put hC hO hS rfl (C := RX0) (T := TX0) (N := 16) rfl u0_in tyX0 tyX0_ok nmX0 13 (by omega) k_323 (Or.inl rfl) (tyX0_ok 13 (by omega)) rfl rfl (show 13 < 16 by omega) dX0_init_17 (fun H lo hO hz_ ho_ hS => ?_)
  have hO : gA E a (.inr (1, [.int 0, .int 0, .int 0, .int 0, .int 0, .int 0, .int 0, .int 0, .int 0, .int 0, .int 45, .int ((-1)), .int 0, .int ((-1)), .int 0, .int 0])) H := hO
  refine lv_aload_n hx hb dX0_init_20 rfl (lv_at hl 0 rfl) ?_
  refine lv_iload_n hx hb dX0_init_21 rfl (lv_at hl 1 rfl) ?_
  refine g_put hC hO hS rfl (C := RX0) (T := TX0) (N := 16) rfl u0_in tyX0 tyX0_ok nmX0 0 (by omega) k_300 (Or.inr ⟨rfl, hname, rfl⟩) (tyX0_ok 0 (by omega)) rfl rfl (show 0 < 16 by omega) dX0_init_22 (fun H lo hO hz_ ho_ hS => ?_)
  have hO : gA E a (.inr (1, [.int (nI d), .int 0, .int 0, .int 0, .int 0, .int 0, .int 0, .int 0, .int 0, .int 0, .int 45, .int ((-1)), .int 0, .int ((-1)), .int 0, .int 0])) H := hO
  refine lv_aload_n hx hb dX0_init_25 rfl (lv_at hl 0 rfl) ?_
  refine lv_iload_n hx hb dX0_init_26 rfl (lv_at hl 2 rfl) ?_
  refine g_put hC hO hS rfl (C := RX0) (T := TX0) (N := 16) rfl u0_in tyX0 tyX0_ok nmX0 1 (by omega) k_303 (Or.inr ⟨rfl, hname, rfl⟩) (tyX0_ok 1 (by omega)) rfl rfl (show 1 < 16 by omega) dX0_init_27 (fun H lo hO hz_ ho_ hS => ?_)
  have hO : gA E a (.inr (1, [.int (nI d), .int p1, .int 0, .int 0, .int 0, .int 0, .int 0, .int 0, .int 0, .int 0, .int 45, .int ((-1)), .int 0, .int ((-1)), .int 0, .int 0])) H := hO
  refine lv_aload_n hx hb dX0_init_30 rfl (lv_at hl 0 rfl) ?_
  refine lv_iload_n hx hb dX0_init_31 rfl (lv_at hl 3 rfl) ?_
  refine g_put hC hO hS rfl (C := RX0) (T := TX0) (N := 16) rfl u0_in tyX0 tyX0_ok nmX0 2 (by omega) k_305 (Or.inr ⟨rfl, hname, rfl⟩) (tyX0_ok 2 (by omega)) rfl rfl (show 2 < 16 by omega) dX0_init_32 (fun H lo hO hz_ ho_ hS => ?_)
  have hO : gA E a (.inr (1, [.int (nI d), .int p1, .int o1, .int 0, .int 0, .int 0, .int 0, .int 0, .int 0, .int 0, .int 45, .int ((-1)), .int 0, .int ((-1)), .int 0, .int 0])) H := hO
  refine lv_aload_n hx hb dX0_init_35 rfl (lv_at hl 0 rfl) ?_
  refine lv_iload hx hb dX0_init_36 (lv_at hl 4 rfl) ?_
  refine g_put hC hO hS rfl (C := RX0) (T := TX0) (N := 16) rfl u0_in tyX0 tyX0_ok nmX0 3 (by omega) k_307 (Or.inr ⟨rfl, hname, rfl⟩) (tyX0_ok 3 (by omega)) rfl rfl (show 3 < 16 by omega) dX0_init_38 (fun H lo hO hz_ ho_ hS => ?_)
  have hO : gA E a (.inr (1, [.int (nI d), .int p1, .int o1, .int k1, .int 0, .int 0, .int 0, .int 0, .int 0, .int 0, .int 45, .int ((-1)), .int 0, .int ((-1)), .int 0, .int 0])) H := hO
  refine lv_aload_n hx hb dX0_init_41 rfl (lv_at hl 0 rfl) ?_
  refine lv_iload hx hb dX0_init_42 (lv_at hl 5 rfl) ?_
  refine g_put hC hO hS rfl (C := RX0) (T := TX0) (N := 16) rfl u0_in tyX0 tyX0_ok nmX0 4 (by omega) k_309 (Or.inr ⟨rfl, hname, rfl⟩) (tyX0_ok 4 (by omega)) rfl rfl (show 4 < 16 by omega) dX0_init_44 (fun H lo hO hz_ ho_ hS => ?_)
  have hO : gA E a (.inr (1, [.int (nI d), .int p1, .int o1, .int k1, .int a1, .int 0, .int 0, .int 0, .int 0, .int 0, .int 45, .int ((-1)), .int 0, .int ((-1)), .int 0, .int 0])) H := hO
  refine lv_aload_n hx hb dX0_init_47 rfl (lv_at hl 0 rfl) ?_
  refine lv_iload hx hb dX0_init_48 (lv_at hl 6 rfl) ?_
  refine g_put hC hO hS rfl (C := RX0) (T := TX0) (N := 16) rfl u0_in tyX0 tyX0_ok nmX0 5 (by omega) k_311 (Or.inr ⟨rfl, hname, rfl⟩) (tyX0_ok 5 (by omega)) rfl rfl (show 5 < 16 by omega) dX0_init_50 (fun H lo hO hz_ ho_ hS => ?_)
  have hO : gA E a (.inr (1, [.int (nI d), .int p1, .int o1, .int k1, .int a1, .int pa1, .int 0, .int 0, .int 0, .int 0, .int 45, .int ((-1)), .int 0, .int ((-1)), .int 0, .int 0])) H := hO
  exact g_vretW hC hr dX0_init_53 hS (Nat.le_of_ble_eq_true rfl) (Nat.le_of_ble_eq_true rfl) hO
set_option maxHeartbeats 4000000 in
set_option maxRecDepth 100000 in
theorem c_X2_init {l : Launch} {E : gV} (hE : gOK l E)  (a : Nat) (m1 s1 v1 : Int32) : gM l E yX2_init cX2_init 4 none ({ frames := 8, cells := 0, slots := 0, locals := 140 } : Room) [.ref a, .int m1, .int s1, .int v1] (fun H => gA E a (.inr (3, bl2)) H) (gQW (fun q => q = a) (gWv (fun H => gA E a (.inr (3, [.int m1, .int s1, .int v1])) H))) (fun _ => False) (fun q => q = a) := by
  refine gM_body hE (by decide +kernel) (Nat.le_of_ble_eq_true rfl) ?_
  intro p_ e_ s m args below meth c hC ht hr hname hP ls hl
  have hx := hC.2.2.1
  have hb := hC.2.2.2.1
  have hl : lv_has ls 4 [(0, .ref a), (1, .int m1), (2, .int s1), (3, .int v1)] := hl
  have hS : va_S ((fun q => q = a)) s.heap s.heap [] := va_S.rf
  have hO : gA E a (.inr (3, bl2)) s.heap := hP
  refine lv_aload_n hx hb dX2_init_0 rfl (lv_at hl 0 rfl) ?_
  refine g_oinit hC hl.1 k_150 dX2_init_1 (Nat.le_of_ble_eq_true rfl) (Nat.le_of_ble_eq_true rfl) ?_
  refine lv_aload_n hx hb dX2_init_4 rfl (lv_at hl 0 rfl) ?_
  refine lv_iload_n hx hb dX2_init_5 rfl (lv_at hl 1 rfl) ?_
  refine g_put hC hO hS rfl (C := RX2) (T := TX2) (N := 3) rfl u2_in tyX2 tyX2_ok nmX2 0 (by omega) k_151 (Or.inr ⟨rfl, hname, rfl⟩) (tyX2_ok 0 (by omega)) rfl rfl (show 0 < 3 by omega) dX2_init_6 (fun H lo hO hz_ ho_ hS => ?_)
  have hO : gA E a (.inr (3, [.int m1, .int 0, .int 0])) H := hO
  refine lv_aload_n hx hb dX2_init_9 rfl (lv_at hl 0 rfl) ?_
  refine lv_iload_n hx hb dX2_init_10 rfl (lv_at hl 2 rfl) ?_
  refine g_put hC hO hS rfl (C := RX2) (T := TX2) (N := 3) rfl u2_in tyX2 tyX2_ok nmX2 1 (by omega) k_153 (Or.inr ⟨rfl, hname, rfl⟩) (tyX2_ok 1 (by omega)) rfl rfl (show 1 < 3 by omega) dX2_init_11 (fun H lo hO hz_ ho_ hS => ?_)
  have hO : gA E a (.inr (3, [.int m1, .int s1, .int 0])) H := hO
  refine lv_aload_n hx hb dX2_init_14 rfl (lv_at hl 0 rfl) ?_
  refine lv_iload_n hx hb dX2_init_15 rfl (lv_at hl 3 rfl) ?_
  refine g_put hC hO hS rfl (C := RX2) (T := TX2) (N := 3) rfl u2_in tyX2 tyX2_ok nmX2 2 (by omega) k_155 (Or.inr ⟨rfl, hname, rfl⟩) (tyX2_ok 2 (by omega)) rfl rfl (show 2 < 3 by omega) dX2_init_16 (fun H lo hO hz_ ho_ hS => ?_)
  have hO : gA E a (.inr (3, [.int m1, .int s1, .int v1])) H := hO
  exact g_vretW hC hr dX2_init_19 hS (Nat.le_of_ble_eq_true rfl) (Nat.le_of_ble_eq_true rfl) hO
set_option maxHeartbeats 4000000 in
set_option maxRecDepth 100000 in
theorem c_X3_init_n {l : Launch} {E : gV} (hE : gOK l E)  (a : Nat) (d : Nat) (h1 k1 b1 f1 l1 : Int32) : gM l E yX3_init cX3_init 8 none ({ frames := 8, cells := 0, slots := 0, locals := 140 } : Room) [.ref a, .int (nI d), .int h1, .int k1, .int b1, .int f1, .int l1, .null] (fun H => gA E a (.inr (4, bl3)) H) (gQW (fun q => q = a) (gWv (fun H => gA E a (.inr (4, [.int (nI d), .int h1, .int k1, .int b1, .int f1, .int l1, .null])) H))) (fun _ => False) (fun q => q = a) := by
  refine gM_body hE (by decide +kernel) (Nat.le_of_ble_eq_true rfl) ?_
  intro p_ e_ s m args below meth c hC ht hr hname hP ls hl
  have hx := hC.2.2.1
  have hb := hC.2.2.2.1
  have hl : lv_has ls 8 [(0, .ref a), (1, .int (nI d)), (2, .int h1), (3, .int k1), (4, .int b1), (5, .int f1), (6, .int l1), (7, .null)] := hl
  have hS : va_S ((fun q => q = a)) s.heap s.heap [] := va_S.rf
  have hO : gA E a (.inr (4, bl3)) s.heap := hP
  refine lv_aload_n hx hb dX3_init_0 rfl (lv_at hl 0 rfl) ?_
  refine g_oinit hC hl.1 k_787 dX3_init_1 (Nat.le_of_ble_eq_true rfl) (Nat.le_of_ble_eq_true rfl) ?_
  refine lv_aload_n hx hb dX3_init_4 rfl (lv_at hl 0 rfl) ?_
  refine lv_iload_n hx hb dX3_init_5 rfl (lv_at hl 1 rfl) ?_
  refine g_put hC hO hS rfl (C := RX3) (T := TX3) (N := 7) rfl u3_in tyX3 tyX3_ok nmX3 0 (by omega) k_788 (Or.inr ⟨rfl, hname, rfl⟩) (tyX3_ok 0 (by omega)) rfl rfl (show 0 < 7 by omega) dX3_init_6 (fun H lo hO hz_ ho_ hS => ?_)
  have hO : gA E a (.inr (4, [.int (nI d), .int 0, .int 0, .int 0, .int 0, .int 0, .null])) H := hO
  refine lv_aload_n hx hb dX3_init_9 rfl (lv_at hl 0 rfl) ?_
  refine lv_iload_n hx hb dX3_init_10 rfl (lv_at hl 2 rfl) ?_
  refine g_put hC hO hS rfl (C := RX3) (T := TX3) (N := 7) rfl u3_in tyX3 tyX3_ok nmX3 1 (by omega) k_791 (Or.inr ⟨rfl, hname, rfl⟩) (tyX3_ok 1 (by omega)) rfl rfl (show 1 < 7 by omega) dX3_init_11 (fun H lo hO hz_ ho_ hS => ?_)
  have hO : gA E a (.inr (4, [.int (nI d), .int h1, .int 0, .int 0, .int 0, .int 0, .null])) H := hO
  refine lv_aload_n hx hb dX3_init_14 rfl (lv_at hl 0 rfl) ?_
  refine lv_iload_n hx hb dX3_init_15 rfl (lv_at hl 3 rfl) ?_
  refine g_put hC hO hS rfl (C := RX3) (T := TX3) (N := 7) rfl u3_in tyX3 tyX3_ok nmX3 2 (by omega) k_793 (Or.inr ⟨rfl, hname, rfl⟩) (tyX3_ok 2 (by omega)) rfl rfl (show 2 < 7 by omega) dX3_init_16 (fun H lo hO hz_ ho_ hS => ?_)
  have hO : gA E a (.inr (4, [.int (nI d), .int h1, .int k1, .int 0, .int 0, .int 0, .null])) H := hO
  refine lv_aload_n hx hb dX3_init_19 rfl (lv_at hl 0 rfl) ?_
  refine lv_iload hx hb dX3_init_20 (lv_at hl 4 rfl) ?_
  refine g_put hC hO hS rfl (C := RX3) (T := TX3) (N := 7) rfl u3_in tyX3 tyX3_ok nmX3 3 (by omega) k_795 (Or.inr ⟨rfl, hname, rfl⟩) (tyX3_ok 3 (by omega)) rfl rfl (show 3 < 7 by omega) dX3_init_22 (fun H lo hO hz_ ho_ hS => ?_)
  have hO : gA E a (.inr (4, [.int (nI d), .int h1, .int k1, .int b1, .int 0, .int 0, .null])) H := hO
  refine lv_aload_n hx hb dX3_init_25 rfl (lv_at hl 0 rfl) ?_
  refine lv_iload hx hb dX3_init_26 (lv_at hl 5 rfl) ?_
  refine g_put hC hO hS rfl (C := RX3) (T := TX3) (N := 7) rfl u3_in tyX3 tyX3_ok nmX3 4 (by omega) k_797 (Or.inr ⟨rfl, hname, rfl⟩) (tyX3_ok 4 (by omega)) rfl rfl (show 4 < 7 by omega) dX3_init_28 (fun H lo hO hz_ ho_ hS => ?_)
  have hO : gA E a (.inr (4, [.int (nI d), .int h1, .int k1, .int b1, .int f1, .int 0, .null])) H := hO
  refine lv_aload_n hx hb dX3_init_31 rfl (lv_at hl 0 rfl) ?_
  refine lv_iload hx hb dX3_init_32 (lv_at hl 6 rfl) ?_
  refine g_put hC hO hS rfl (C := RX3) (T := TX3) (N := 7) rfl u3_in tyX3 tyX3_ok nmX3 5 (by omega) k_800 (Or.inr ⟨rfl, hname, rfl⟩) (tyX3_ok 5 (by omega)) rfl rfl (show 5 < 7 by omega) dX3_init_34 (fun H lo hO hz_ ho_ hS => ?_)
  have hO : gA E a (.inr (4, [.int (nI d), .int h1, .int k1, .int b1, .int f1, .int l1, .null])) H := hO
  refine lv_aload_n hx hb dX3_init_37 rfl (lv_at hl 0 rfl) ?_
  refine lv_aloadN hx hb dX3_init_38 (lv_at hl 7 rfl) ?_
  refine g_put hC hO hS rfl (C := RX3) (T := TX3) (N := 7) rfl u3_in tyX3 tyX3_ok nmX3 6 (by omega) k_803 (Or.inr ⟨rfl, hname, rfl⟩) (tyX3_ok 6 (by omega)) rfl rfl (show 6 < 7 by omega) dX3_init_40 (fun H lo hO hz_ ho_ hS => ?_)
  have hO : gA E a (.inr (4, [.int (nI d), .int h1, .int k1, .int b1, .int f1, .int l1, .null])) H := hO
  exact g_vretW hC hr dX3_init_43 hS (Nat.le_of_ble_eq_true rfl) (Nat.le_of_ble_eq_true rfl) hO
set_option maxHeartbeats 4000000 in
set_option maxRecDepth 100000 in
theorem c_X3_init_s {l : Launch} {E : gV} (hE : gOK l E)  (a : Nat) (d : Nat) (h1 k1 b1 f1 l1 : Int32) (sr : Nat) : gM l E yX3_init cX3_init 8 none ({ frames := 8, cells := 0, slots := 0, locals := 140 } : Room) [.ref a, .int (nI d), .int h1, .int k1, .int b1, .int f1, .int l1, .ref sr] (fun H => gA E a (.inr (4, bl3)) H) (gQW (fun q => q = a) (gWv (fun H => gA E a (.inr (4, [.int (nI d), .int h1, .int k1, .int b1, .int f1, .int l1, .ref sr])) H))) (fun _ => False) (fun q => q = a) := by
  refine gM_body hE (by decide +kernel) (Nat.le_of_ble_eq_true rfl) ?_
  intro p_ e_ s m args below meth c hC ht hr hname hP ls hl
  have hx := hC.2.2.1
  have hb := hC.2.2.2.1
  have hl : lv_has ls 8 [(0, .ref a), (1, .int (nI d)), (2, .int h1), (3, .int k1), (4, .int b1), (5, .int f1), (6, .int l1), (7, .ref sr)] := hl
  have hS : va_S ((fun q => q = a)) s.heap s.heap [] := va_S.rf
  have hO : gA E a (.inr (4, bl3)) s.heap := hP
  refine lv_aload_n hx hb dX3_init_0 rfl (lv_at hl 0 rfl) ?_
  refine g_oinit hC hl.1 k_787 dX3_init_1 (Nat.le_of_ble_eq_true rfl) (Nat.le_of_ble_eq_true rfl) ?_
  refine lv_aload_n hx hb dX3_init_4 rfl (lv_at hl 0 rfl) ?_
  refine lv_iload_n hx hb dX3_init_5 rfl (lv_at hl 1 rfl) ?_
  refine g_put hC hO hS rfl (C := RX3) (T := TX3) (N := 7) rfl u3_in tyX3 tyX3_ok nmX3 0 (by omega) k_788 (Or.inr ⟨rfl, hname, rfl⟩) (tyX3_ok 0 (by omega)) rfl rfl (show 0 < 7 by omega) dX3_init_6 (fun H lo hO hz_ ho_ hS => ?_)
  have hO : gA E a (.inr (4, [.int (nI d), .int 0, .int 0, .int 0, .int 0, .int 0, .null])) H := hO
  refine lv_aload_n hx hb dX3_init_9 rfl (lv_at hl 0 rfl) ?_
  refine lv_iload_n hx hb dX3_init_10 rfl (lv_at hl 2 rfl) ?_
  refine g_put hC hO hS rfl (C := RX3) (T := TX3) (N := 7) rfl u3_in tyX3 tyX3_ok nmX3 1 (by omega) k_791 (Or.inr ⟨rfl, hname, rfl⟩) (tyX3_ok 1 (by omega)) rfl rfl (show 1 < 7 by omega) dX3_init_11 (fun H lo hO hz_ ho_ hS => ?_)
  have hO : gA E a (.inr (4, [.int (nI d), .int h1, .int 0, .int 0, .int 0, .int 0, .null])) H := hO
  refine lv_aload_n hx hb dX3_init_14 rfl (lv_at hl 0 rfl) ?_
  refine lv_iload_n hx hb dX3_init_15 rfl (lv_at hl 3 rfl) ?_
  refine g_put hC hO hS rfl (C := RX3) (T := TX3) (N := 7) rfl u3_in tyX3 tyX3_ok nmX3 2 (by omega) k_793 (Or.inr ⟨rfl, hname, rfl⟩) (tyX3_ok 2 (by omega)) rfl rfl (show 2 < 7 by omega) dX3_init_16 (fun H lo hO hz_ ho_ hS => ?_)
  have hO : gA E a (.inr (4, [.int (nI d), .int h1, .int k1, .int 0, .int 0, .int 0, .null])) H := hO
  refine lv_aload_n hx hb dX3_init_19 rfl (lv_at hl 0 rfl) ?_
  refine lv_iload hx hb dX3_init_20 (lv_at hl 4 rfl) ?_
  refine g_put hC hO hS rfl (C := RX3) (T := TX3) (N := 7) rfl u3_in tyX3 tyX3_ok nmX3 3 (by omega) k_795 (Or.inr ⟨rfl, hname, rfl⟩) (tyX3_ok 3 (by omega)) rfl rfl (show 3 < 7 by omega) dX3_init_22 (fun H lo hO hz_ ho_ hS => ?_)
  have hO : gA E a (.inr (4, [.int (nI d), .int h1, .int k1, .int b1, .int 0, .int 0, .null])) H := hO
  refine lv_aload_n hx hb dX3_init_25 rfl (lv_at hl 0 rfl) ?_
  refine lv_iload hx hb dX3_init_26 (lv_at hl 5 rfl) ?_
  refine g_put hC hO hS rfl (C := RX3) (T := TX3) (N := 7) rfl u3_in tyX3 tyX3_ok nmX3 4 (by omega) k_797 (Or.inr ⟨rfl, hname, rfl⟩) (tyX3_ok 4 (by omega)) rfl rfl (show 4 < 7 by omega) dX3_init_28 (fun H lo hO hz_ ho_ hS => ?_)
  have hO : gA E a (.inr (4, [.int (nI d), .int h1, .int k1, .int b1, .int f1, .int 0, .null])) H := hO
  refine lv_aload_n hx hb dX3_init_31 rfl (lv_at hl 0 rfl) ?_
  refine lv_iload hx hb dX3_init_32 (lv_at hl 6 rfl) ?_
  refine g_put hC hO hS rfl (C := RX3) (T := TX3) (N := 7) rfl u3_in tyX3 tyX3_ok nmX3 5 (by omega) k_800 (Or.inr ⟨rfl, hname, rfl⟩) (tyX3_ok 5 (by omega)) rfl rfl (show 5 < 7 by omega) dX3_init_34 (fun H lo hO hz_ ho_ hS => ?_)
  have hO : gA E a (.inr (4, [.int (nI d), .int h1, .int k1, .int b1, .int f1, .int l1, .null])) H := hO
  refine lv_aload_n hx hb dX3_init_37 rfl (lv_at hl 0 rfl) ?_
  refine lv_aload hx hb dX3_init_38 (lv_at hl 7 rfl) ?_
  refine g_put hC hO hS rfl (C := RX3) (T := TX3) (N := 7) rfl u3_in tyX3 tyX3_ok nmX3 6 (by omega) k_803 (Or.inr ⟨rfl, hname, rfl⟩) (tyX3_ok 6 (by omega)) rfl rfl (show 6 < 7 by omega) dX3_init_40 (fun H lo hO hz_ ho_ hS => ?_)
  have hO : gA E a (.inr (4, [.int (nI d), .int h1, .int k1, .int b1, .int f1, .int l1, .ref sr])) H := hO
  exact g_vretW hC hr dX3_init_43 hS (Nat.le_of_ble_eq_true rfl) (Nat.le_of_ble_eq_true rfl) hO
set_option maxHeartbeats 4000000 in
set_option maxRecDepth 100000 in
theorem c_Jxa1e45_init_da8c8 {l : Launch} {E : gV} (hE : gOK l E)  (a : Nat) : gM l E yJxa1e45_init_da8c8 cJxa1e45_init_da8c8 1 none ({ frames := 8, cells := 0, slots := 0, locals := 140 } : Room) [.ref a] (fun H => True) (gQR (gPv True)) (fun _ => False) gN := by
  refine gM_body hE (by decide +kernel) (Nat.le_of_ble_eq_true rfl) ?_
  intro p_ e_ s m args below meth c hC ht hr hname hP ls hl
  have hx := hC.2.2.1
  have hb := hC.2.2.2.1
  have hl : lv_has ls 1 [(0, .ref a)] := hl
  refine lv_aload_n hx hb dJxa1e45_init_da8c8_0 rfl (lv_at hl 0 rfl) ?_
  refine g_oinit hC hl.1 k_681 dJxa1e45_init_da8c8_1 (Nat.le_of_ble_eq_true rfl) (Nat.le_of_ble_eq_true rfl) ?_
  exact g_vret hC hr dJxa1e45_init_da8c8_4 (Nat.le_of_ble_eq_true rfl) (Nat.le_of_ble_eq_true rfl) trivial
set_option maxHeartbeats 4000000 in
set_option maxRecDepth 100000 in
theorem c_Jxc12de_init_da8c8 {l : Launch} {E : gV} (hE : gOK l E)  (a : Nat) (sz : Nat) : gM l E yJxc12de_init_da8c8 cJxc12de_init_da8c8 1 none ({ frames := 9, cells := 0, slots := 0, locals := 160 } : Room) [.ref a] (fun H => H.size = sz ∧ gA E a (.inr (0, blJ)) H) (gQW (fun q => q = a) (gWv (fun H => H.size = sz ∧ gA E a (.inr (0, blJ)) H))) (fun _ => False) (fun q => q = a) := by
  refine gM_body hE (by decide +kernel) (Nat.le_of_ble_eq_true rfl) ?_
  intro p_ e_ s m args below meth c hC ht hr hname hP ls hl
  have hx := hC.2.2.1
  have hb := hC.2.2.2.1
  have hl : lv_has ls 1 [(0, .ref a)] := hl
  have hS : va_S ((fun q => q = a)) s.heap s.heap [] := va_S.rf
  obtain ⟨hsz, hO⟩ := hP
  refine lv_aload_n hx hb dJxc12de_init_da8c8_0 rfl (lv_at hl 0 rfl) ?_
  refine g_cRv (k2 := 0) (n2 := 0) (g_runI (rest := []) hC (c_Jxa1e45_init_da8c8 hE a) Y_Jxa1e45_init_da8c8 k_678 I_Jxa1e45_init_da8c8 rfl trivial rfl hl.1 dJxc12de_init_da8c8_1 ⟨Nat.le_of_ble_eq_true rfl, Nat.le_of_ble_eq_true rfl⟩ ⟨Nat.le_of_ble_eq_true rfl, Nat.le_of_ble_eq_true rfl⟩ rfl (Nat.le_of_ble_eq_true rfl)) rfl rfl g_no (fun h2_ => ?_)
  refine lv_aload_n hx hb dJxc12de_init_da8c8_4 rfl (lv_at hl 0 rfl) ?_
  refine lv_iconst (v := 0) hx hb dJxc12de_init_da8c8_5 (by decide) ?_
  refine g_put hC hO hS rfl (C := RJx4a65c) (T := TJx4a65c) (N := 3) rfl uJ_in tyJx4a65c tyJx4a65c_ok nmJx4a65c 0 (by omega) k_684 (Or.inl rfl) (tyJx4a65c_ok 0 (by omega)) rfl rfl (show 0 < 3 by omega) dJxc12de_init_da8c8_6 (fun H lo hO hz_ ho_ hS => ?_)
  have hO : gA E a (.inr (0, [.int 0, .null, .int 0])) H := hO
  exact g_vretW hC hr dJxc12de_init_da8c8_9 hS (Nat.le_of_ble_eq_true rfl) (Nat.le_of_ble_eq_true rfl) ⟨by omega, hO⟩
set_option maxHeartbeats 4000000 in
set_option maxRecDepth 100000 in
theorem c_Jx4a65c_init_da8c8 {l : Launch} {E : gV} (hE : gOK l E)  (a : Nat) (sz t : Nat) (hem : gEmp E t) (haE : E.2.1.heap.size ≤ a) : gM l E yJx4a65c_init_da8c8 cJx4a65c_init_da8c8 1 none ({ frames := 10, cells := 0, slots := 0, locals := 180 } : Room) [.ref a] (fun H => gFz E H ∧ H.size = sz ∧ gA E a (.inr (0, blJ)) H) (gQW (fun q => q = a) (gWv (fun H => H.size = sz ∧ ∀ row, gL E a t 0 row H))) (fun _ => False) (fun q => q = a) := by
  refine gM_body hE (by decide +kernel) (Nat.le_of_ble_eq_true rfl) ?_
  intro p_ e_ s m args below meth c hC ht hr hname hP ls hl
  have hx := hC.2.2.1
  have hb := hC.2.2.2.1
  have hl : lv_has ls 1 [(0, .ref a)] := hl
  have hS : va_S ((fun q => q = a)) s.heap s.heap [] := va_S.rf
  obtain ⟨hF, hsz, hO⟩ := hP
  refine lv_aload_n hx hb dJx4a65c_init_da8c8_0 rfl (lv_at hl 0 rfl) ?_
  refine g_cWv (k2 := 0) (n2 := 0) (g_runI (rest := []) hC (c_Jxc12de_init_da8c8 hE a sz) Y_Jxc12de_init_da8c8 k_675 I_Jxc12de_init_da8c8 rfl ⟨hsz, hO⟩ rfl hl.1 dJx4a65c_init_da8c8_1 ⟨Nat.le_of_ble_eq_true rfl, Nat.le_of_ble_eq_true rfl⟩ ⟨Nat.le_of_ble_eq_true rfl, Nat.le_of_ble_eq_true rfl⟩ rfl (Nat.le_of_ble_eq_true rfl)) hS (fun _ h => h) rfl rfl (fun H lo h2_ hz_ hk_ hS => ?_)
  obtain ⟨hsz, hO⟩ := h2_
  refine lv_aload_n hx hb dJx4a65c_init_da8c8_4 rfl (lv_at hl 0 rfl) ?_
  refine g_gemp (ref := "") (t := t) hC hF hem hS (fun q hq => by rw [hq]; exact haE) k_196 dJx4a65c_init_da8c8_5 ?_
  refine g_put hC hO hS rfl (C := RJx4a65c) (T := TJx4a65c) (N := 3) rfl uJ_in tyJx4a65c tyJx4a65c_ok nmJx4a65c 1 (by omega) k_682 (Or.inl rfl) (tyJx4a65c_ok 1 (by omega)) rfl rfl (show 1 < 3 by omega) dJx4a65c_init_da8c8_8 (fun H lo hO hz_ ho_ hS => ?_)
  have hO : gA E a (.inr (0, [.int 0, .ref t, .int 0])) H := hO
  exact g_vretW hC hr dJx4a65c_init_da8c8_11 hS (Nat.le_of_ble_eq_true rfl) (Nat.le_of_ble_eq_true rfl) ⟨by omega, fun row => ⟨0, hO, fun _ => hem, fun z => by omega⟩⟩
set_option maxHeartbeats 4000000 in
set_option maxRecDepth 100000 in
theorem c_X1_init {l : Launch} {E : gV} (hE : gOK l E)  (a : Nat) (sz : Nat) : gM l E yX1_init cX1_init 1 none ({ frames := 8, cells := 4, slots := 72, locals := 140 } : Room) [.ref a] (fun H => H.size = sz ∧ gA E a (.inr (2, bl1)) H) (gQW (fun q => q = a ∨ sz ≤ q) (gWv (fun H => H.size = sz + 4 ∧ gMo E (fun k => if k = 0 then a else sz + (k - 1)) mZ H))) (fun _ => False) (fun q => q = a ∨ sz ≤ q) := by
  refine gM_body hE (by decide +kernel) (Nat.le_of_ble_eq_true rfl) ?_
  intro p_ e_ s m args below meth c hC ht hr hname hP ls hl
  have hx := hC.2.2.1
  have hb := hC.2.2.2.1
  have hl : lv_has ls 1 [(0, .ref a)] := hl
  have hS : va_S ((fun q => q = a ∨ sz ≤ q)) s.heap s.heap [] := va_S.rf
  obtain ⟨hsz, hO⟩ := hP
  have hal := hO.lt
  have hAn : ∀ q, s.heap.size ≤ q → q = a ∨ sz ≤ q := fun q hq => Or.inr (by omega)
  have hal2 : a < sz := by omega
  refine lv_aload_n hx hb dX1_init_0 rfl (lv_at hl 0 rfl) ?_
  refine g_oinit hC hl.1 k_698 dX1_init_1 (Nat.le_of_ble_eq_true rfl) (Nat.le_of_ble_eq_true rfl) ?_
  refine lv_aload_n hx hb dX1_init_4 rfl (lv_at hl 0 rfl) ?_
  refine lv_bipush (v := 20) hx hb dX1_init_5 (by decide) ?_
  refine g_nwa 0 (atype := .int) (q := sz + 0) (n := 20) (by omega) hC k_724 rfl rfl (fun C h => by cases h) rfl (by decide) (by decide) hS hAn (Nat.le_of_ble_eq_true rfl) (Nat.le_of_ble_eq_true rfl) dX1_init_7 (fun H hN1 hz_ ho_ hS => ?_)
  have hO := hO.kept (ho_ _ (by omega))
  refine g_put hC hO hS (Or.inl rfl) (C := RX1) (T := TX1) (N := 6) rfl u1_in tyX1 tyX1_ok nmX1 0 (by omega) k_703 (Or.inr ⟨rfl, hname, rfl⟩) (tyX1_ok 0 (by omega)) rfl rfl (show 0 < 6 by omega) dX1_init_9 (fun H lo hO hz_ ho_ hS => ?_)
  have hO : gA E a (.inr (2, [.ref (sz + 0), .null, .null, .null, .int 0, .int 0])) H := hO
  have hN1 := hN1.kept (ho_ _ (by omega))
  refine lv_aload_n hx hb dX1_init_12 rfl (lv_at hl 0 rfl) ?_
  refine lv_bipush (v := 20) hx hb dX1_init_13 (by decide) ?_
  refine g_nwa 1 (atype := .boolean) (q := sz + 1) (n := 20) (by omega) hC k_725 rfl rfl (fun C h => by cases h) rfl (by decide) (by decide) hS hAn (Nat.le_of_ble_eq_true rfl) (Nat.le_of_ble_eq_true rfl) dX1_init_15 (fun H hN2 hz_ ho_ hS => ?_)
  have hO := hO.kept (ho_ _ (by omega))
  have hN1 := hN1.kept (ho_ _ (by omega))
  refine g_put hC hO hS (Or.inl rfl) (C := RX1) (T := TX1) (N := 6) rfl u1_in tyX1 tyX1_ok nmX1 1 (by omega) k_704 (Or.inr ⟨rfl, hname, rfl⟩) (tyX1_ok 1 (by omega)) rfl rfl (show 1 < 6 by omega) dX1_init_17 (fun H lo hO hz_ ho_ hS => ?_)
  have hO : gA E a (.inr (2, [.ref (sz + 0), .ref (sz + 1), .null, .null, .int 0, .int 0])) H := hO
  have hN1 := hN1.kept (ho_ _ (by omega))
  have hN2 := hN2.kept (ho_ _ (by omega))
  refine lv_aload_n hx hb dX1_init_20 rfl (lv_at hl 0 rfl) ?_
  refine lv_bipush (v := 8) hx hb dX1_init_21 (by decide) ?_
  refine g_nwa 0 (atype := .int) (q := sz + 2) (n := 8) (by omega) hC k_724 rfl rfl (fun C h => by cases h) rfl (by decide) (by decide) hS hAn (Nat.le_of_ble_eq_true rfl) (Nat.le_of_ble_eq_true rfl) dX1_init_23 (fun H hN3 hz_ ho_ hS => ?_)
  have hO := hO.kept (ho_ _ (by omega))
  have hN1 := hN1.kept (ho_ _ (by omega))
  have hN2 := hN2.kept (ho_ _ (by omega))
  refine g_put hC hO hS (Or.inl rfl) (C := RX1) (T := TX1) (N := 6) rfl u1_in tyX1 tyX1_ok nmX1 2 (by omega) k_705 (Or.inr ⟨rfl, hname, rfl⟩) (tyX1_ok 2 (by omega)) rfl rfl (show 2 < 6 by omega) dX1_init_25 (fun H lo hO hz_ ho_ hS => ?_)
  have hO : gA E a (.inr (2, [.ref (sz + 0), .ref (sz + 1), .ref (sz + 2), .null, .int 0, .int 0])) H := hO
  have hN1 := hN1.kept (ho_ _ (by omega))
  have hN2 := hN2.kept (ho_ _ (by omega))
  have hN3 := hN3.kept (ho_ _ (by omega))
  refine lv_aload_n hx hb dX1_init_28 rfl (lv_at hl 0 rfl) ?_
  refine lv_bipush (v := 24) hx hb dX1_init_29 (by decide) ?_
  refine g_nwa 1 (atype := .boolean) (q := sz + 3) (n := 24) (by omega) hC k_725 rfl rfl (fun C h => by cases h) rfl (by decide) (by decide) hS hAn (Nat.le_of_ble_eq_true rfl) (Nat.le_of_ble_eq_true rfl) dX1_init_31 (fun H hN4 hz_ ho_ hS => ?_)
  have hO := hO.kept (ho_ _ (by omega))
  have hN1 := hN1.kept (ho_ _ (by omega))
  have hN2 := hN2.kept (ho_ _ (by omega))
  have hN3 := hN3.kept (ho_ _ (by omega))
  refine g_put hC hO hS (Or.inl rfl) (C := RX1) (T := TX1) (N := 6) rfl u1_in tyX1 tyX1_ok nmX1 3 (by omega) k_706 (Or.inr ⟨rfl, hname, rfl⟩) (tyX1_ok 3 (by omega)) rfl rfl (show 3 < 6 by omega) dX1_init_33 (fun H lo hO hz_ ho_ hS => ?_)
  have hO : gA E a (.inr (2, [.ref (sz + 0), .ref (sz + 1), .ref (sz + 2), .ref (sz + 3), .int 0, .int 0])) H := hO
  have hN1 := hN1.kept (ho_ _ (by omega))
  have hN2 := hN2.kept (ho_ _ (by omega))
  have hN3 := hN3.kept (ho_ _ (by omega))
  have hN4 := hN4.kept (ho_ _ (by omega))
  refine lv_aload_n hx hb dX1_init_36 rfl (lv_at hl 0 rfl) ?_
  refine g_cWv (k2 := 4) (n2 := 72) (g_runV (rest := []) hC (c_X1_forget hE (q := (fun k => if k = 0 then a else sz + (k - 1))) (mm := fun _ _ => 0) (sz := sz + 4)) Y_X1_forget k_699 I_X1_forget V_X1_forget hO rfl ⟨mo_of hO hN1 hN2 hN3 hN4 hal2, by omega⟩ rfl hl.1 dX1_init_37 ⟨Nat.le_of_ble_eq_true rfl, Nat.le_of_ble_eq_true rfl⟩ ⟨Nat.le_of_ble_eq_true rfl, Nat.le_of_ble_eq_true rfl⟩ rfl (Nat.le_of_ble_eq_true rfl)) hS (fun q h => mo_A h) rfl rfl (fun H lo h2_ hz_ hk_ hS => ?_)
  have hr_ := And.intro h2_.2 h2_.1
  exact g_vretW hC hr dX1_init_40 hS (Nat.le_of_ble_eq_true rfl) (Nat.le_of_ble_eq_true rfl) hr_
