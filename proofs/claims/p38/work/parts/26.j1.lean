set_option maxHeartbeats 4000000 in
set_option maxRecDepth 100000 in
theorem c_J0_isLatin1_aae02 {l : Launch} {E : gV} (hE : gOK l E)  (ad av : Nat) (hk : gKd E ad av) : gM l E yJ0_isLatin1_aae02 cJ0_isLatin1_aae02 1 (some .boolean) ({ frames := 0, cells := 0, slots := 0, locals := 0 } : Room) [.ref ad] (fun H => gFz E H) (gQR (gPi (fun r => r = 1))) (fun _ => False) gN := by
  refine gM_body hE (by decide +kernel) (Nat.le_of_ble_eq_true rfl) ?_
  intro p_ e_ s m args below meth c hC ht hr hname hP ls hl
  have hx := hC.2.2.1
  have hb := hC.2.2.2.1
  have hl : lv_has ls 1 [(0, .ref ad)] := hl
  have hF : gFz E s.heap := hP
  have hk_ := hk.at hC.2.1 hF
  have hS0 : va_S (gA0 E) s.heap s.heap [] := va_S.rf
  refine va_gets (own := "java/lang/String") hx hb (g_cmp hC.1 hC.2.1 hF) hS0 hC.2.2.2.2.2.1 (gw hC.1 hC.2.1 k_451 rfl) (fun _ h => h) dJ0_isLatin1_aae02_0 ?_
  refine lv_if_eq (tgt := 17) hx hb dJ0_isLatin1_aae02_3 (by decide) (fun c1_ => ?_) (fun c1_ => ?_)
  · exact absurd c1_ (by decide)
  · refine lv_aload_n hx hb dJ0_isLatin1_aae02_6 rfl (lv_at hl 0 rfl) ?_
    refine vk_getf (own := "java/lang/String") hx hb (hk_.1 0 (by decide)).2.1 hS0 hC.2.2.2.2.2.1 (gw hC.1 hC.2.1 k_973 rfl) (fun _ h => h) dJ0_isLatin1_aae02_7 ?_
    refine lv_if_ne (tgt := 17) hx hb dJ0_isLatin1_aae02_10 (by decide) (fun c2_ => ?_) (fun c2_ => ?_)
    · exact absurd c2_ (by decide)
    · refine lv_iconst (v := 1) hx hb dJ0_isLatin1_aae02_13 (by decide) ?_
      refine lv_goto (tgt := 18) hx hb dJ0_isLatin1_aae02_14 (by decide) ?_
      exact g_zret hC hr rfl dJ0_isLatin1_aae02_18 (Nat.le_of_ble_eq_true rfl) (Nat.le_of_ble_eq_true rfl) (by decide)
set_option maxHeartbeats 4000000 in
set_option maxRecDepth 100000 in
theorem c_J0_coder_7d493 {l : Launch} {E : gV} (hE : gOK l E)  (ad av : Nat) (hk : gKd E ad av) : gM l E yJ0_coder_7d493 cJ0_coder_7d493 1 (some .byte) ({ frames := 0, cells := 0, slots := 0, locals := 0 } : Room) [.ref ad] (fun H => gFz E H) (gQR (gPi (fun r => r = 0))) (fun _ => False) gN := by
  refine gM_body hE (by decide +kernel) (Nat.le_of_ble_eq_true rfl) ?_
  intro p_ e_ s m args below meth c hC ht hr hname hP ls hl
  have hx := hC.2.2.1
  have hb := hC.2.2.2.1
  have hl : lv_has ls 1 [(0, .ref ad)] := hl
  have hF : gFz E s.heap := hP
  have hk_ := hk.at hC.2.1 hF
  have hS0 : va_S (gA0 E) s.heap s.heap [] := va_S.rf
  refine va_gets (own := "java/lang/String") hx hb (g_cmp hC.1 hC.2.1 hF) hS0 hC.2.2.2.2.2.1 (gw hC.1 hC.2.1 k_451 rfl) (fun _ h => h) dJ0_coder_7d493_0 ?_
  refine lv_if_eq (tgt := 13) hx hb dJ0_coder_7d493_3 (by decide) (fun c1_ => ?_) (fun c1_ => ?_)
  · exact absurd c1_ (by decide)
  · refine lv_aload_n hx hb dJ0_coder_7d493_6 rfl (lv_at hl 0 rfl) ?_
    refine vk_getf (own := "java/lang/String") hx hb (hk_.1 0 (by decide)).2.1 hS0 hC.2.2.2.2.2.1 (gw hC.1 hC.2.1 k_973 rfl) (fun _ h => h) dJ0_coder_7d493_7 ?_
    refine lv_goto (tgt := 14) hx hb dJ0_coder_7d493_10 (by decide) ?_
    exact g_zret hC hr rfl dJ0_coder_7d493_14 (Nat.le_of_ble_eq_true rfl) (Nat.le_of_ble_eq_true rfl) (by decide)
set_option maxHeartbeats 4000000 in
set_option maxRecDepth 100000 in
theorem c_J0_length_8abf5 {l : Launch} {E : gV} (hE : gOK l E)  (ad av : Nat) (hk : gKd E ad av) : gM l E yJ0_length_8abf5 cJ0_length_8abf5 1 (some .int) ({ frames := 1, cells := 0, slots := 0, locals := 20 } : Room) [.ref ad] (fun H => gFz E H) (gQR (gPi (fun r => r = 5))) (fun _ => False) gN := by
  refine gM_body hE (by decide +kernel) (Nat.le_of_ble_eq_true rfl) ?_
  intro p_ e_ s m args below meth c hC ht hr hname hP ls hl
  have hx := hC.2.2.1
  have hb := hC.2.2.2.1
  have hl : lv_has ls 1 [(0, .ref ad)] := hl
  have hF : gFz E s.heap := hP
  have hk_ := hk.at hC.2.1 hF
  have hS0 : va_S (gA0 E) s.heap s.heap [] := va_S.rf
  refine lv_aload_n hx hb dJ0_length_8abf5_0 rfl (lv_at hl 0 rfl) ?_
  refine vk_getf (own := "java/lang/String") hx hb (hk_.1 0 (by decide)).2.2.1 hS0 hC.2.2.2.2.2.1 (gw hC.1 hC.2.1 k_974 rfl) (fun _ h => h) dJ0_length_8abf5_1 ?_
  refine va_tlen (v := 5) hx hb (hk_.1 0 (by decide)).2.2.2 hS0 rfl dJ0_length_8abf5_4 ?_
  refine lv_aload_n hx hb dJ0_length_8abf5_5 rfl (lv_at hl 0 rfl) ?_
  refine g_cRi (k2 := 0) (n2 := 0) (g_runVr (rest := [.int 5]) hC (c_J0_coder_7d493 hE ad av hk) Y_J0_coder_7d493 k_457 I_J0_coder_7d493 V_J0_coder_7d493 (vk_recv (i := 0) hk_ (by decide) hS0) rfl hF rfl hl.1 dJ0_length_8abf5_6 ⟨Nat.le_of_ble_eq_true rfl, Nat.le_of_ble_eq_true rfl⟩ ⟨Nat.le_of_ble_eq_true rfl, Nat.le_of_ble_eq_true rfl⟩ rfl (Nat.le_of_ble_eq_true rfl)) rfl rfl g_no (fun r1_ h2_ => ?_)
  obtain rfl : r1_ = 0 := h2_.trans (by decide)
  refine lv_ishr hx hb dJ0_length_8abf5_9 ?_
  exact g_iret hC hr dJ0_length_8abf5_10 (Nat.le_of_ble_eq_true rfl) (Nat.le_of_ble_eq_true rfl) (by decide)
set_option maxHeartbeats 4000000 in
set_option maxRecDepth 100000 in
theorem c_J1_canEncode_9a6ad {l : Launch} {E : gV} (hE : gOK l E)  (x : Int32) (hx_ : x = 107 ∨ x = 100 ∨ x = 118 ∨ x = 108 ∨ x = 104) : gM l E yJ1_canEncode_9a6ad cJ1_canEncode_9a6ad 1 (some .boolean) ({ frames := 0, cells := 0, slots := 0, locals := 0 } : Room) [.int x] (fun H => True) (gQR (gPi (fun r => r = 1))) (fun _ => False) gN := by
  refine gM_body hE (by decide +kernel) (Nat.le_of_ble_eq_true rfl) ?_
  intro p_ e_ s m args below meth c hC ht hr hname hP ls hl
  have hx := hC.2.2.1
  have hb := hC.2.2.2.1
  have hl : lv_has ls 1 [(0, .int x)] := hl
  rcases hx_ with rfl | rfl | rfl | rfl | rfl
  · refine lv_iload_n hx hb dJ1_canEncode_9a6ad_0 rfl (lv_at hl 0 rfl) ?_
    refine lv_if_lt (tgt := 15) hx hb dJ1_canEncode_9a6ad_1 (by decide) (fun c1_ => ?_) (fun c1_ => ?_)
    · exact absurd c1_ (by decide)
    · refine lv_iload_n hx hb dJ1_canEncode_9a6ad_4 rfl (lv_at hl 0 rfl) ?_
      refine lv_sipush (v := 255) hx hb dJ1_canEncode_9a6ad_5 (by decide) ?_
      refine lv_icmp_gt (tgt := 15) hx hb dJ1_canEncode_9a6ad_8 (by decide) (fun c2_ => ?_) (fun c2_ => ?_)
      · exact absurd c2_ (by decide)
      · refine lv_iconst (v := 1) hx hb dJ1_canEncode_9a6ad_11 (by decide) ?_
        refine lv_goto (tgt := 16) hx hb dJ1_canEncode_9a6ad_12 (by decide) ?_
        exact g_zret hC hr rfl dJ1_canEncode_9a6ad_16 (Nat.le_of_ble_eq_true rfl) (Nat.le_of_ble_eq_true rfl) (by decide)
  · refine lv_iload_n hx hb dJ1_canEncode_9a6ad_0 rfl (lv_at hl 0 rfl) ?_
    refine lv_if_lt (tgt := 15) hx hb dJ1_canEncode_9a6ad_1 (by decide) (fun c3_ => ?_) (fun c3_ => ?_)
    · exact absurd c3_ (by decide)
    · refine lv_iload_n hx hb dJ1_canEncode_9a6ad_4 rfl (lv_at hl 0 rfl) ?_
      refine lv_sipush (v := 255) hx hb dJ1_canEncode_9a6ad_5 (by decide) ?_
      refine lv_icmp_gt (tgt := 15) hx hb dJ1_canEncode_9a6ad_8 (by decide) (fun c4_ => ?_) (fun c4_ => ?_)
      · exact absurd c4_ (by decide)
      · refine lv_iconst (v := 1) hx hb dJ1_canEncode_9a6ad_11 (by decide) ?_
        refine lv_goto (tgt := 16) hx hb dJ1_canEncode_9a6ad_12 (by decide) ?_
        exact g_zret hC hr rfl dJ1_canEncode_9a6ad_16 (Nat.le_of_ble_eq_true rfl) (Nat.le_of_ble_eq_true rfl) (by decide)
  · refine lv_iload_n hx hb dJ1_canEncode_9a6ad_0 rfl (lv_at hl 0 rfl) ?_
    refine lv_if_lt (tgt := 15) hx hb dJ1_canEncode_9a6ad_1 (by decide) (fun c5_ => ?_) (fun c5_ => ?_)
    · exact absurd c5_ (by decide)
    · refine lv_iload_n hx hb dJ1_canEncode_9a6ad_4 rfl (lv_at hl 0 rfl) ?_
      refine lv_sipush (v := 255) hx hb dJ1_canEncode_9a6ad_5 (by decide) ?_
      refine lv_icmp_gt (tgt := 15) hx hb dJ1_canEncode_9a6ad_8 (by decide) (fun c6_ => ?_) (fun c6_ => ?_)
      · exact absurd c6_ (by decide)
      · refine lv_iconst (v := 1) hx hb dJ1_canEncode_9a6ad_11 (by decide) ?_
        refine lv_goto (tgt := 16) hx hb dJ1_canEncode_9a6ad_12 (by decide) ?_
        exact g_zret hC hr rfl dJ1_canEncode_9a6ad_16 (Nat.le_of_ble_eq_true rfl) (Nat.le_of_ble_eq_true rfl) (by decide)
  · refine lv_iload_n hx hb dJ1_canEncode_9a6ad_0 rfl (lv_at hl 0 rfl) ?_
    refine lv_if_lt (tgt := 15) hx hb dJ1_canEncode_9a6ad_1 (by decide) (fun c7_ => ?_) (fun c7_ => ?_)
    · exact absurd c7_ (by decide)
    · refine lv_iload_n hx hb dJ1_canEncode_9a6ad_4 rfl (lv_at hl 0 rfl) ?_
      refine lv_sipush (v := 255) hx hb dJ1_canEncode_9a6ad_5 (by decide) ?_
      refine lv_icmp_gt (tgt := 15) hx hb dJ1_canEncode_9a6ad_8 (by decide) (fun c8_ => ?_) (fun c8_ => ?_)
      · exact absurd c8_ (by decide)
      · refine lv_iconst (v := 1) hx hb dJ1_canEncode_9a6ad_11 (by decide) ?_
        refine lv_goto (tgt := 16) hx hb dJ1_canEncode_9a6ad_12 (by decide) ?_
        exact g_zret hC hr rfl dJ1_canEncode_9a6ad_16 (Nat.le_of_ble_eq_true rfl) (Nat.le_of_ble_eq_true rfl) (by decide)
  · refine lv_iload_n hx hb dJ1_canEncode_9a6ad_0 rfl (lv_at hl 0 rfl) ?_
    refine lv_if_lt (tgt := 15) hx hb dJ1_canEncode_9a6ad_1 (by decide) (fun c9_ => ?_) (fun c9_ => ?_)
    · exact absurd c9_ (by decide)
    · refine lv_iload_n hx hb dJ1_canEncode_9a6ad_4 rfl (lv_at hl 0 rfl) ?_
      refine lv_sipush (v := 255) hx hb dJ1_canEncode_9a6ad_5 (by decide) ?_
      refine lv_icmp_gt (tgt := 15) hx hb dJ1_canEncode_9a6ad_8 (by decide) (fun c10_ => ?_) (fun c10_ => ?_)
      · exact absurd c10_ (by decide)
      · refine lv_iconst (v := 1) hx hb dJ1_canEncode_9a6ad_11 (by decide) ?_
        refine lv_goto (tgt := 16) hx hb dJ1_canEncode_9a6ad_12 (by decide) ?_
        exact g_zret hC hr rfl dJ1_canEncode_9a6ad_16 (Nat.le_of_ble_eq_true rfl) (Nat.le_of_ble_eq_true rfl) (by decide)
set_option maxHeartbeats 4000000 in
set_option maxRecDepth 100000 in
theorem c_J1_indexOfChar_4cfef {l : Launch} {E : gV} (hE : gOK l E)  (ad av : Nat) (hk : gKd E ad av) (x : Int32) (hx_ : x = 107 ∨ x = 100 ∨ x = 118 ∨ x = 108 ∨ x = 104) : gM l E yJ1_indexOfChar_4cfef cJ1_indexOfChar_4cfef 6 (some .int) ({ frames := 0, cells := 0, slots := 0, locals := 0 } : Room) [.ref av, .int x, .int 0, .int 5] (fun H => gFz E H) (gQR (gPi (fun r => r = fOrd x))) (fun _ => False) gN := by
  refine gM_body hE (by decide +kernel) (Nat.le_of_ble_eq_true rfl) ?_
  intro p_ e_ s m args below meth c hC ht hr hname hP ls hl
  have hx := hC.2.2.1
  have hb := hC.2.2.2.1
  have hl : lv_has ls 6 [(0, .ref av), (1, .int x), (2, .int 0), (3, .int 5)] := hl
  have hF : gFz E s.heap := hP
  have hk_ := hk.at hC.2.1 hF
  have hS0 : va_S (gA0 E) s.heap s.heap [] := va_S.rf
  rcases hx_ with rfl | rfl | rfl | rfl | rfl
  · refine lv_iload_n hx hb dJ1_indexOfChar_4cfef_0 rfl (lv_at hl 1 rfl) ?_
    refine lv_i2b (v := 107) hx hb dJ1_indexOfChar_4cfef_1 (by decide) ?_
    refine lv_istore (lv' := [(4, .int 107), (0, .ref av), (1, .int 107), (2, .int 0), (3, .int 5)]) hx hb dJ1_indexOfChar_4cfef_2 hl (by decide) rfl (fun ls hl => ?_)
    refine lv_iload_n hx hb dJ1_indexOfChar_4cfef_4 rfl (lv_at hl 3 rfl) ?_
    refine lv_istore (lv' := [(5, .int 0), (4, .int 107), (0, .ref av), (1, .int 107), (2, .int 0), (3, .int 5)]) hx hb dJ1_indexOfChar_4cfef_5 hl (by decide) rfl (fun ls hl => ?_)
    refine lv_iload hx hb dJ1_indexOfChar_4cfef_7 (lv_at hl 0 rfl) ?_
    refine lv_iload_n hx hb dJ1_indexOfChar_4cfef_9 rfl (lv_at hl 5 rfl) ?_
    refine lv_icmp_ge (tgt := 31) hx hb dJ1_indexOfChar_4cfef_10 (by decide) (fun c1_ => ?_) (fun c1_ => ?_)
    · exact absurd c1_ (by decide)
    · refine lv_aload_n hx hb dJ1_indexOfChar_4cfef_13 rfl (lv_at hl 2 rfl) ?_
      refine lv_iload hx hb dJ1_indexOfChar_4cfef_14 (lv_at hl 0 rfl) ?_
      refine va_tb (v := .int 107) hx hb (hk_.1 0 (by decide)).2.2.2 hS0 (i := 0) (show vp_in (nI 0) 5 from vp_in_nI (by decide) (by decide)) rfl dJ1_indexOfChar_4cfef_16 ?_
      refine lv_iload hx hb dJ1_indexOfChar_4cfef_17 (lv_at hl 1 rfl) ?_
      refine lv_icmp_ne (tgt := 25) hx hb dJ1_indexOfChar_4cfef_19 (by decide) (fun c2_ => ?_) (fun c2_ => ?_)
      · exact absurd c2_ (by decide)
      · refine lv_iload hx hb dJ1_indexOfChar_4cfef_22 (lv_at hl 0 rfl) ?_
        exact g_iret hC hr dJ1_indexOfChar_4cfef_24 (Nat.le_of_ble_eq_true rfl) (Nat.le_of_ble_eq_true rfl) (by decide)
  · refine lv_iload_n hx hb dJ1_indexOfChar_4cfef_0 rfl (lv_at hl 1 rfl) ?_
    refine lv_i2b (v := 100) hx hb dJ1_indexOfChar_4cfef_1 (by decide) ?_
    refine lv_istore (lv' := [(4, .int 100), (0, .ref av), (1, .int 100), (2, .int 0), (3, .int 5)]) hx hb dJ1_indexOfChar_4cfef_2 hl (by decide) rfl (fun ls hl => ?_)
    refine lv_iload_n hx hb dJ1_indexOfChar_4cfef_4 rfl (lv_at hl 3 rfl) ?_
    refine lv_istore (lv' := [(5, .int 0), (4, .int 100), (0, .ref av), (1, .int 100), (2, .int 0), (3, .int 5)]) hx hb dJ1_indexOfChar_4cfef_5 hl (by decide) rfl (fun ls hl => ?_)
    refine lv_iload hx hb dJ1_indexOfChar_4cfef_7 (lv_at hl 0 rfl) ?_
    refine lv_iload_n hx hb dJ1_indexOfChar_4cfef_9 rfl (lv_at hl 5 rfl) ?_
    refine lv_icmp_ge (tgt := 31) hx hb dJ1_indexOfChar_4cfef_10 (by decide) (fun c3_ => ?_) (fun c3_ => ?_)
    · exact absurd c3_ (by decide)
    · refine lv_aload_n hx hb dJ1_indexOfChar_4cfef_13 rfl (lv_at hl 2 rfl) ?_
      refine lv_iload hx hb dJ1_indexOfChar_4cfef_14 (lv_at hl 0 rfl) ?_
      refine va_tb (v := .int 107) hx hb (hk_.1 0 (by decide)).2.2.2 hS0 (i := 0) (show vp_in (nI 0) 5 from vp_in_nI (by decide) (by decide)) rfl dJ1_indexOfChar_4cfef_16 ?_
      refine lv_iload hx hb dJ1_indexOfChar_4cfef_17 (lv_at hl 1 rfl) ?_
      refine lv_icmp_ne (tgt := 25) hx hb dJ1_indexOfChar_4cfef_19 (by decide) (fun c4_ => ?_) (fun c4_ => ?_)
      · refine lv_iinc (v := 1) (lv' := [(5, .int 1), (4, .int 100), (0, .ref av), (1, .int 100), (2, .int 0), (3, .int 5)]) hx hb dJ1_indexOfChar_4cfef_25 hl (k := 0) rfl (by decide) (by decide) rfl (fun ls hl => ?_)
        refine lv_goto (tgt := 7) hx hb dJ1_indexOfChar_4cfef_28 (by decide) ?_
        refine lv_iload hx hb dJ1_indexOfChar_4cfef_7 (lv_at hl 0 rfl) ?_
        refine lv_iload_n hx hb dJ1_indexOfChar_4cfef_9 rfl (lv_at hl 5 rfl) ?_
        refine lv_icmp_ge (tgt := 31) hx hb dJ1_indexOfChar_4cfef_10 (by decide) (fun c5_ => ?_) (fun c5_ => ?_)
        · exact absurd c5_ (by decide)
        · refine lv_aload_n hx hb dJ1_indexOfChar_4cfef_13 rfl (lv_at hl 2 rfl) ?_
          refine lv_iload hx hb dJ1_indexOfChar_4cfef_14 (lv_at hl 0 rfl) ?_
          refine va_tb (v := .int 100) hx hb (hk_.1 0 (by decide)).2.2.2 hS0 (i := 1) (show vp_in (nI 1) 5 from vp_in_nI (by decide) (by decide)) rfl dJ1_indexOfChar_4cfef_16 ?_
          refine lv_iload hx hb dJ1_indexOfChar_4cfef_17 (lv_at hl 1 rfl) ?_
          refine lv_icmp_ne (tgt := 25) hx hb dJ1_indexOfChar_4cfef_19 (by decide) (fun c6_ => ?_) (fun c6_ => ?_)
          · exact absurd c6_ (by decide)
          · refine lv_iload hx hb dJ1_indexOfChar_4cfef_22 (lv_at hl 0 rfl) ?_
            exact g_iret hC hr dJ1_indexOfChar_4cfef_24 (Nat.le_of_ble_eq_true rfl) (Nat.le_of_ble_eq_true rfl) (by decide)
      · exact absurd c4_ (by decide)
  · refine lv_iload_n hx hb dJ1_indexOfChar_4cfef_0 rfl (lv_at hl 1 rfl) ?_
    refine lv_i2b (v := 118) hx hb dJ1_indexOfChar_4cfef_1 (by decide) ?_
    refine lv_istore (lv' := [(4, .int 118), (0, .ref av), (1, .int 118), (2, .int 0), (3, .int 5)]) hx hb dJ1_indexOfChar_4cfef_2 hl (by decide) rfl (fun ls hl => ?_)
    refine lv_iload_n hx hb dJ1_indexOfChar_4cfef_4 rfl (lv_at hl 3 rfl) ?_
    refine lv_istore (lv' := [(5, .int 0), (4, .int 118), (0, .ref av), (1, .int 118), (2, .int 0), (3, .int 5)]) hx hb dJ1_indexOfChar_4cfef_5 hl (by decide) rfl (fun ls hl => ?_)
    refine lv_iload hx hb dJ1_indexOfChar_4cfef_7 (lv_at hl 0 rfl) ?_
    refine lv_iload_n hx hb dJ1_indexOfChar_4cfef_9 rfl (lv_at hl 5 rfl) ?_
    refine lv_icmp_ge (tgt := 31) hx hb dJ1_indexOfChar_4cfef_10 (by decide) (fun c7_ => ?_) (fun c7_ => ?_)
    · exact absurd c7_ (by decide)
    · refine lv_aload_n hx hb dJ1_indexOfChar_4cfef_13 rfl (lv_at hl 2 rfl) ?_
      refine lv_iload hx hb dJ1_indexOfChar_4cfef_14 (lv_at hl 0 rfl) ?_
      refine va_tb (v := .int 107) hx hb (hk_.1 0 (by decide)).2.2.2 hS0 (i := 0) (show vp_in (nI 0) 5 from vp_in_nI (by decide) (by decide)) rfl dJ1_indexOfChar_4cfef_16 ?_
      refine lv_iload hx hb dJ1_indexOfChar_4cfef_17 (lv_at hl 1 rfl) ?_
      refine lv_icmp_ne (tgt := 25) hx hb dJ1_indexOfChar_4cfef_19 (by decide) (fun c8_ => ?_) (fun c8_ => ?_)
      · refine lv_iinc (v := 1) (lv' := [(5, .int 1), (4, .int 118), (0, .ref av), (1, .int 118), (2, .int 0), (3, .int 5)]) hx hb dJ1_indexOfChar_4cfef_25 hl (k := 0) rfl (by decide) (by decide) rfl (fun ls hl => ?_)
        refine lv_goto (tgt := 7) hx hb dJ1_indexOfChar_4cfef_28 (by decide) ?_
        refine lv_iload hx hb dJ1_indexOfChar_4cfef_7 (lv_at hl 0 rfl) ?_
        refine lv_iload_n hx hb dJ1_indexOfChar_4cfef_9 rfl (lv_at hl 5 rfl) ?_
        refine lv_icmp_ge (tgt := 31) hx hb dJ1_indexOfChar_4cfef_10 (by decide) (fun c9_ => ?_) (fun c9_ => ?_)
        · exact absurd c9_ (by decide)
        · refine lv_aload_n hx hb dJ1_indexOfChar_4cfef_13 rfl (lv_at hl 2 rfl) ?_
          refine lv_iload hx hb dJ1_indexOfChar_4cfef_14 (lv_at hl 0 rfl) ?_
          refine va_tb (v := .int 100) hx hb (hk_.1 0 (by decide)).2.2.2 hS0 (i := 1) (show vp_in (nI 1) 5 from vp_in_nI (by decide) (by decide)) rfl dJ1_indexOfChar_4cfef_16 ?_
          refine lv_iload hx hb dJ1_indexOfChar_4cfef_17 (lv_at hl 1 rfl) ?_
          refine lv_icmp_ne (tgt := 25) hx hb dJ1_indexOfChar_4cfef_19 (by decide) (fun c10_ => ?_) (fun c10_ => ?_)
          · refine lv_iinc (v := 2) (lv' := [(5, .int 2), (4, .int 118), (0, .ref av), (1, .int 118), (2, .int 0), (3, .int 5)]) hx hb dJ1_indexOfChar_4cfef_25 hl (k := 0) rfl (by decide) (by decide) rfl (fun ls hl => ?_)
            refine lv_goto (tgt := 7) hx hb dJ1_indexOfChar_4cfef_28 (by decide) ?_
            refine lv_iload hx hb dJ1_indexOfChar_4cfef_7 (lv_at hl 0 rfl) ?_
            refine lv_iload_n hx hb dJ1_indexOfChar_4cfef_9 rfl (lv_at hl 5 rfl) ?_
            refine lv_icmp_ge (tgt := 31) hx hb dJ1_indexOfChar_4cfef_10 (by decide) (fun c11_ => ?_) (fun c11_ => ?_)
            · exact absurd c11_ (by decide)
            · refine lv_aload_n hx hb dJ1_indexOfChar_4cfef_13 rfl (lv_at hl 2 rfl) ?_
              refine lv_iload hx hb dJ1_indexOfChar_4cfef_14 (lv_at hl 0 rfl) ?_
              refine va_tb (v := .int 118) hx hb (hk_.1 0 (by decide)).2.2.2 hS0 (i := 2) (show vp_in (nI 2) 5 from vp_in_nI (by decide) (by decide)) rfl dJ1_indexOfChar_4cfef_16 ?_
              refine lv_iload hx hb dJ1_indexOfChar_4cfef_17 (lv_at hl 1 rfl) ?_
              refine lv_icmp_ne (tgt := 25) hx hb dJ1_indexOfChar_4cfef_19 (by decide) (fun c12_ => ?_) (fun c12_ => ?_)
              · exact absurd c12_ (by decide)
              · refine lv_iload hx hb dJ1_indexOfChar_4cfef_22 (lv_at hl 0 rfl) ?_
                exact g_iret hC hr dJ1_indexOfChar_4cfef_24 (Nat.le_of_ble_eq_true rfl) (Nat.le_of_ble_eq_true rfl) (by decide)
          · exact absurd c10_ (by decide)
      · exact absurd c8_ (by decide)
  · refine lv_iload_n hx hb dJ1_indexOfChar_4cfef_0 rfl (lv_at hl 1 rfl) ?_
    refine lv_i2b (v := 108) hx hb dJ1_indexOfChar_4cfef_1 (by decide) ?_
    refine lv_istore (lv' := [(4, .int 108), (0, .ref av), (1, .int 108), (2, .int 0), (3, .int 5)]) hx hb dJ1_indexOfChar_4cfef_2 hl (by decide) rfl (fun ls hl => ?_)
    refine lv_iload_n hx hb dJ1_indexOfChar_4cfef_4 rfl (lv_at hl 3 rfl) ?_
    refine lv_istore (lv' := [(5, .int 0), (4, .int 108), (0, .ref av), (1, .int 108), (2, .int 0), (3, .int 5)]) hx hb dJ1_indexOfChar_4cfef_5 hl (by decide) rfl (fun ls hl => ?_)
    refine lv_iload hx hb dJ1_indexOfChar_4cfef_7 (lv_at hl 0 rfl) ?_
    refine lv_iload_n hx hb dJ1_indexOfChar_4cfef_9 rfl (lv_at hl 5 rfl) ?_
    refine lv_icmp_ge (tgt := 31) hx hb dJ1_indexOfChar_4cfef_10 (by decide) (fun c13_ => ?_) (fun c13_ => ?_)
    · exact absurd c13_ (by decide)
    · refine lv_aload_n hx hb dJ1_indexOfChar_4cfef_13 rfl (lv_at hl 2 rfl) ?_
      refine lv_iload hx hb dJ1_indexOfChar_4cfef_14 (lv_at hl 0 rfl) ?_
      refine va_tb (v := .int 107) hx hb (hk_.1 0 (by decide)).2.2.2 hS0 (i := 0) (show vp_in (nI 0) 5 from vp_in_nI (by decide) (by decide)) rfl dJ1_indexOfChar_4cfef_16 ?_
      refine lv_iload hx hb dJ1_indexOfChar_4cfef_17 (lv_at hl 1 rfl) ?_
      refine lv_icmp_ne (tgt := 25) hx hb dJ1_indexOfChar_4cfef_19 (by decide) (fun c14_ => ?_) (fun c14_ => ?_)
      · refine lv_iinc (v := 1) (lv' := [(5, .int 1), (4, .int 108), (0, .ref av), (1, .int 108), (2, .int 0), (3, .int 5)]) hx hb dJ1_indexOfChar_4cfef_25 hl (k := 0) rfl (by decide) (by decide) rfl (fun ls hl => ?_)
        refine lv_goto (tgt := 7) hx hb dJ1_indexOfChar_4cfef_28 (by decide) ?_
        refine lv_iload hx hb dJ1_indexOfChar_4cfef_7 (lv_at hl 0 rfl) ?_
        refine lv_iload_n hx hb dJ1_indexOfChar_4cfef_9 rfl (lv_at hl 5 rfl) ?_
        refine lv_icmp_ge (tgt := 31) hx hb dJ1_indexOfChar_4cfef_10 (by decide) (fun c15_ => ?_) (fun c15_ => ?_)
        · exact absurd c15_ (by decide)
        · refine lv_aload_n hx hb dJ1_indexOfChar_4cfef_13 rfl (lv_at hl 2 rfl) ?_
          refine lv_iload hx hb dJ1_indexOfChar_4cfef_14 (lv_at hl 0 rfl) ?_
          refine va_tb (v := .int 100) hx hb (hk_.1 0 (by decide)).2.2.2 hS0 (i := 1) (show vp_in (nI 1) 5 from vp_in_nI (by decide) (by decide)) rfl dJ1_indexOfChar_4cfef_16 ?_
          refine lv_iload hx hb dJ1_indexOfChar_4cfef_17 (lv_at hl 1 rfl) ?_
          refine lv_icmp_ne (tgt := 25) hx hb dJ1_indexOfChar_4cfef_19 (by decide) (fun c16_ => ?_) (fun c16_ => ?_)
          · refine lv_iinc (v := 2) (lv' := [(5, .int 2), (4, .int 108), (0, .ref av), (1, .int 108), (2, .int 0), (3, .int 5)]) hx hb dJ1_indexOfChar_4cfef_25 hl (k := 0) rfl (by decide) (by decide) rfl (fun ls hl => ?_)
            refine lv_goto (tgt := 7) hx hb dJ1_indexOfChar_4cfef_28 (by decide) ?_
            refine lv_iload hx hb dJ1_indexOfChar_4cfef_7 (lv_at hl 0 rfl) ?_
            refine lv_iload_n hx hb dJ1_indexOfChar_4cfef_9 rfl (lv_at hl 5 rfl) ?_
            refine lv_icmp_ge (tgt := 31) hx hb dJ1_indexOfChar_4cfef_10 (by decide) (fun c17_ => ?_) (fun c17_ => ?_)
            · exact absurd c17_ (by decide)
            · refine lv_aload_n hx hb dJ1_indexOfChar_4cfef_13 rfl (lv_at hl 2 rfl) ?_
              refine lv_iload hx hb dJ1_indexOfChar_4cfef_14 (lv_at hl 0 rfl) ?_
              refine va_tb (v := .int 118) hx hb (hk_.1 0 (by decide)).2.2.2 hS0 (i := 2) (show vp_in (nI 2) 5 from vp_in_nI (by decide) (by decide)) rfl dJ1_indexOfChar_4cfef_16 ?_
              refine lv_iload hx hb dJ1_indexOfChar_4cfef_17 (lv_at hl 1 rfl) ?_
              refine lv_icmp_ne (tgt := 25) hx hb dJ1_indexOfChar_4cfef_19 (by decide) (fun c18_ => ?_) (fun c18_ => ?_)
              · refine lv_iinc (v := 3) (lv' := [(5, .int 3), (4, .int 108), (0, .ref av), (1, .int 108), (2, .int 0), (3, .int 5)]) hx hb dJ1_indexOfChar_4cfef_25 hl (k := 0) rfl (by decide) (by decide) rfl (fun ls hl => ?_)
                refine lv_goto (tgt := 7) hx hb dJ1_indexOfChar_4cfef_28 (by decide) ?_
                refine lv_iload hx hb dJ1_indexOfChar_4cfef_7 (lv_at hl 0 rfl) ?_
                refine lv_iload_n hx hb dJ1_indexOfChar_4cfef_9 rfl (lv_at hl 5 rfl) ?_
                refine lv_icmp_ge (tgt := 31) hx hb dJ1_indexOfChar_4cfef_10 (by decide) (fun c19_ => ?_) (fun c19_ => ?_)
                · exact absurd c19_ (by decide)
                · refine lv_aload_n hx hb dJ1_indexOfChar_4cfef_13 rfl (lv_at hl 2 rfl) ?_
                  refine lv_iload hx hb dJ1_indexOfChar_4cfef_14 (lv_at hl 0 rfl) ?_
                  refine va_tb (v := .int 108) hx hb (hk_.1 0 (by decide)).2.2.2 hS0 (i := 3) (show vp_in (nI 3) 5 from vp_in_nI (by decide) (by decide)) rfl dJ1_indexOfChar_4cfef_16 ?_
                  refine lv_iload hx hb dJ1_indexOfChar_4cfef_17 (lv_at hl 1 rfl) ?_
                  refine lv_icmp_ne (tgt := 25) hx hb dJ1_indexOfChar_4cfef_19 (by decide) (fun c20_ => ?_) (fun c20_ => ?_)
                  · exact absurd c20_ (by decide)
                  · refine lv_iload hx hb dJ1_indexOfChar_4cfef_22 (lv_at hl 0 rfl) ?_
                    exact g_iret hC hr dJ1_indexOfChar_4cfef_24 (Nat.le_of_ble_eq_true rfl) (Nat.le_of_ble_eq_true rfl) (by decide)
              · exact absurd c18_ (by decide)
          · exact absurd c16_ (by decide)
      · exact absurd c14_ (by decide)
  · refine lv_iload_n hx hb dJ1_indexOfChar_4cfef_0 rfl (lv_at hl 1 rfl) ?_
    refine lv_i2b (v := 104) hx hb dJ1_indexOfChar_4cfef_1 (by decide) ?_
    refine lv_istore (lv' := [(4, .int 104), (0, .ref av), (1, .int 104), (2, .int 0), (3, .int 5)]) hx hb dJ1_indexOfChar_4cfef_2 hl (by decide) rfl (fun ls hl => ?_)
    refine lv_iload_n hx hb dJ1_indexOfChar_4cfef_4 rfl (lv_at hl 3 rfl) ?_
    refine lv_istore (lv' := [(5, .int 0), (4, .int 104), (0, .ref av), (1, .int 104), (2, .int 0), (3, .int 5)]) hx hb dJ1_indexOfChar_4cfef_5 hl (by decide) rfl (fun ls hl => ?_)
    refine lv_iload hx hb dJ1_indexOfChar_4cfef_7 (lv_at hl 0 rfl) ?_
    refine lv_iload_n hx hb dJ1_indexOfChar_4cfef_9 rfl (lv_at hl 5 rfl) ?_
    refine lv_icmp_ge (tgt := 31) hx hb dJ1_indexOfChar_4cfef_10 (by decide) (fun c21_ => ?_) (fun c21_ => ?_)
    · exact absurd c21_ (by decide)
    · refine lv_aload_n hx hb dJ1_indexOfChar_4cfef_13 rfl (lv_at hl 2 rfl) ?_
      refine lv_iload hx hb dJ1_indexOfChar_4cfef_14 (lv_at hl 0 rfl) ?_
      refine va_tb (v := .int 107) hx hb (hk_.1 0 (by decide)).2.2.2 hS0 (i := 0) (show vp_in (nI 0) 5 from vp_in_nI (by decide) (by decide)) rfl dJ1_indexOfChar_4cfef_16 ?_
      refine lv_iload hx hb dJ1_indexOfChar_4cfef_17 (lv_at hl 1 rfl) ?_
      refine lv_icmp_ne (tgt := 25) hx hb dJ1_indexOfChar_4cfef_19 (by decide) (fun c22_ => ?_) (fun c22_ => ?_)
      · refine lv_iinc (v := 1) (lv' := [(5, .int 1), (4, .int 104), (0, .ref av), (1, .int 104), (2, .int 0), (3, .int 5)]) hx hb dJ1_indexOfChar_4cfef_25 hl (k := 0) rfl (by decide) (by decide) rfl (fun ls hl => ?_)
        refine lv_goto (tgt := 7) hx hb dJ1_indexOfChar_4cfef_28 (by decide) ?_
        refine lv_iload hx hb dJ1_indexOfChar_4cfef_7 (lv_at hl 0 rfl) ?_
        refine lv_iload_n hx hb dJ1_indexOfChar_4cfef_9 rfl (lv_at hl 5 rfl) ?_
        refine lv_icmp_ge (tgt := 31) hx hb dJ1_indexOfChar_4cfef_10 (by decide) (fun c23_ => ?_) (fun c23_ => ?_)
        · exact absurd c23_ (by decide)
        · refine lv_aload_n hx hb dJ1_indexOfChar_4cfef_13 rfl (lv_at hl 2 rfl) ?_
          refine lv_iload hx hb dJ1_indexOfChar_4cfef_14 (lv_at hl 0 rfl) ?_
          refine va_tb (v := .int 100) hx hb (hk_.1 0 (by decide)).2.2.2 hS0 (i := 1) (show vp_in (nI 1) 5 from vp_in_nI (by decide) (by decide)) rfl dJ1_indexOfChar_4cfef_16 ?_
          refine lv_iload hx hb dJ1_indexOfChar_4cfef_17 (lv_at hl 1 rfl) ?_
          refine lv_icmp_ne (tgt := 25) hx hb dJ1_indexOfChar_4cfef_19 (by decide) (fun c24_ => ?_) (fun c24_ => ?_)
          · refine lv_iinc (v := 2) (lv' := [(5, .int 2), (4, .int 104), (0, .ref av), (1, .int 104), (2, .int 0), (3, .int 5)]) hx hb dJ1_indexOfChar_4cfef_25 hl (k := 0) rfl (by decide) (by decide) rfl (fun ls hl => ?_)
            refine lv_goto (tgt := 7) hx hb dJ1_indexOfChar_4cfef_28 (by decide) ?_
            refine lv_iload hx hb dJ1_indexOfChar_4cfef_7 (lv_at hl 0 rfl) ?_
            refine lv_iload_n hx hb dJ1_indexOfChar_4cfef_9 rfl (lv_at hl 5 rfl) ?_
            refine lv_icmp_ge (tgt := 31) hx hb dJ1_indexOfChar_4cfef_10 (by decide) (fun c25_ => ?_) (fun c25_ => ?_)
            · exact absurd c25_ (by decide)
            · refine lv_aload_n hx hb dJ1_indexOfChar_4cfef_13 rfl (lv_at hl 2 rfl) ?_
              refine lv_iload hx hb dJ1_indexOfChar_4cfef_14 (lv_at hl 0 rfl) ?_
              refine va_tb (v := .int 118) hx hb (hk_.1 0 (by decide)).2.2.2 hS0 (i := 2) (show vp_in (nI 2) 5 from vp_in_nI (by decide) (by decide)) rfl dJ1_indexOfChar_4cfef_16 ?_
              refine lv_iload hx hb dJ1_indexOfChar_4cfef_17 (lv_at hl 1 rfl) ?_
              refine lv_icmp_ne (tgt := 25) hx hb dJ1_indexOfChar_4cfef_19 (by decide) (fun c26_ => ?_) (fun c26_ => ?_)
              · refine lv_iinc (v := 3) (lv' := [(5, .int 3), (4, .int 104), (0, .ref av), (1, .int 104), (2, .int 0), (3, .int 5)]) hx hb dJ1_indexOfChar_4cfef_25 hl (k := 0) rfl (by decide) (by decide) rfl (fun ls hl => ?_)
                refine lv_goto (tgt := 7) hx hb dJ1_indexOfChar_4cfef_28 (by decide) ?_
                refine lv_iload hx hb dJ1_indexOfChar_4cfef_7 (lv_at hl 0 rfl) ?_
                refine lv_iload_n hx hb dJ1_indexOfChar_4cfef_9 rfl (lv_at hl 5 rfl) ?_
                refine lv_icmp_ge (tgt := 31) hx hb dJ1_indexOfChar_4cfef_10 (by decide) (fun c27_ => ?_) (fun c27_ => ?_)
                · exact absurd c27_ (by decide)
                · refine lv_aload_n hx hb dJ1_indexOfChar_4cfef_13 rfl (lv_at hl 2 rfl) ?_
                  refine lv_iload hx hb dJ1_indexOfChar_4cfef_14 (lv_at hl 0 rfl) ?_
                  refine va_tb (v := .int 108) hx hb (hk_.1 0 (by decide)).2.2.2 hS0 (i := 3) (show vp_in (nI 3) 5 from vp_in_nI (by decide) (by decide)) rfl dJ1_indexOfChar_4cfef_16 ?_
                  refine lv_iload hx hb dJ1_indexOfChar_4cfef_17 (lv_at hl 1 rfl) ?_
                  refine lv_icmp_ne (tgt := 25) hx hb dJ1_indexOfChar_4cfef_19 (by decide) (fun c28_ => ?_) (fun c28_ => ?_)
                  · refine lv_iinc (v := 4) (lv' := [(5, .int 4), (4, .int 104), (0, .ref av), (1, .int 104), (2, .int 0), (3, .int 5)]) hx hb dJ1_indexOfChar_4cfef_25 hl (k := 0) rfl (by decide) (by decide) rfl (fun ls hl => ?_)
                    refine lv_goto (tgt := 7) hx hb dJ1_indexOfChar_4cfef_28 (by decide) ?_
                    refine lv_iload hx hb dJ1_indexOfChar_4cfef_7 (lv_at hl 0 rfl) ?_
                    refine lv_iload_n hx hb dJ1_indexOfChar_4cfef_9 rfl (lv_at hl 5 rfl) ?_
                    refine lv_icmp_ge (tgt := 31) hx hb dJ1_indexOfChar_4cfef_10 (by decide) (fun c29_ => ?_) (fun c29_ => ?_)
                    · exact absurd c29_ (by decide)
                    · refine lv_aload_n hx hb dJ1_indexOfChar_4cfef_13 rfl (lv_at hl 2 rfl) ?_
                      refine lv_iload hx hb dJ1_indexOfChar_4cfef_14 (lv_at hl 0 rfl) ?_
                      refine va_tb (v := .int 104) hx hb (hk_.1 0 (by decide)).2.2.2 hS0 (i := 4) (show vp_in (nI 4) 5 from vp_in_nI (by decide) (by decide)) rfl dJ1_indexOfChar_4cfef_16 ?_
                      refine lv_iload hx hb dJ1_indexOfChar_4cfef_17 (lv_at hl 1 rfl) ?_
                      refine lv_icmp_ne (tgt := 25) hx hb dJ1_indexOfChar_4cfef_19 (by decide) (fun c30_ => ?_) (fun c30_ => ?_)
                      · exact absurd c30_ (by decide)
                      · refine lv_iload hx hb dJ1_indexOfChar_4cfef_22 (lv_at hl 0 rfl) ?_
                        exact g_iret hC hr dJ1_indexOfChar_4cfef_24 (Nat.le_of_ble_eq_true rfl) (Nat.le_of_ble_eq_true rfl) (by decide)
                  · exact absurd c28_ (by decide)
              · exact absurd c26_ (by decide)
          · exact absurd c24_ (by decide)
      · exact absurd c22_ (by decide)
set_option maxHeartbeats 4000000 in
set_option maxRecDepth 100000 in
theorem c_J1_indexOf_4cfef {l : Launch} {E : gV} (hE : gOK l E)  (ad av : Nat) (hk : gKd E ad av) (x : Int32) (hx_ : x = 107 ∨ x = 100 ∨ x = 118 ∨ x = 108 ∨ x = 104) : gM l E yJ1_indexOf_4cfef cJ1_indexOf_4cfef 4 (some .int) ({ frames := 1, cells := 0, slots := 0, locals := 25 } : Room) [.ref av, .int x, .int 0, .int 5] (fun H => gFz E H) (gQR (gPi (fun r => r = fOrd x))) (fun _ => False) gN := by
  refine gM_body hE (by decide +kernel) (Nat.le_of_ble_eq_true rfl) ?_
  intro p_ e_ s m args below meth c hC ht hr hname hP ls hl
  have hx := hC.2.2.1
  have hb := hC.2.2.2.1
  have hl : lv_has ls 4 [(0, .ref av), (1, .int x), (2, .int 0), (3, .int 5)] := hl
  have hF : gFz E s.heap := hP
  have hk_ := hk.at hC.2.1 hF
  have hS0 : va_S (gA0 E) s.heap s.heap [] := va_S.rf
  rcases hx_ with rfl | rfl | rfl | rfl | rfl
  · refine lv_iload_n hx hb dJ1_indexOf_4cfef_0 rfl (lv_at hl 1 rfl) ?_
    refine g_cRi (k2 := 0) (n2 := 0) (g_runS (rest := []) hC (c_J1_canEncode_9a6ad hE 107 (by decide)) Y_J1_canEncode_9a6ad k_464 S_J1_canEncode_9a6ad trivial rfl hl.1 dJ1_indexOf_4cfef_1 ⟨Nat.le_of_ble_eq_true rfl, Nat.le_of_ble_eq_true rfl⟩ ⟨Nat.le_of_ble_eq_true rfl, Nat.le_of_ble_eq_true rfl⟩ rfl (Nat.le_of_ble_eq_true rfl)) rfl rfl g_no (fun r1_ h2_ => ?_)
    obtain rfl : r1_ = 1 := h2_.trans (by decide)
    refine lv_if_ne (tgt := 9) hx hb dJ1_indexOf_4cfef_4 (by decide) (fun c3_ => ?_) (fun c3_ => ?_)
    · refine lv_iload_n hx hb dJ1_indexOf_4cfef_9 rfl (lv_at hl 2 rfl) ?_
      refine lv_iconst (v := 0) hx hb dJ1_indexOf_4cfef_10 (by decide) ?_
      refine va_mmax (own := "java/lang/StringLatin1") (index := 92) (rest := []) hx hb (hC.2.2.2.2.1.trans hl.1.symm) hC.2.2.2.2.2.1 (gw hC.1 hC.2.1 k_467 rfl) (gw hC.1 hC.2.1 k_202 rfl) (gw hC.1 hC.2.1 k_10 rfl) (gw hC.1 hC.2.1 k_203 rfl) (Nat.le_of_ble_eq_true rfl) (Nat.le_of_ble_eq_true rfl) (Nat.le_of_ble_eq_true rfl) (Nat.le_of_ble_eq_true rfl) dJ1_indexOf_4cfef_11 ?_
      rw [show (if (0 : Int32) < 0 then (0 : Int32) else 0) = 0 from by decide]
      refine lv_istore_n (lv' := [(2, .int 0), (0, .ref av), (1, .int 107), (3, .int 5)]) hx hb dJ1_indexOf_4cfef_14 rfl hl (by decide) rfl (fun ls hl => ?_)
      refine lv_iload_n hx hb dJ1_indexOf_4cfef_15 rfl (lv_at hl 3 rfl) ?_
      refine lv_aload_n hx hb dJ1_indexOf_4cfef_16 rfl (lv_at hl 1 rfl) ?_
      refine va_tlen (v := 5) hx hb (hk_.1 0 (by decide)).2.2.2 hS0 rfl dJ1_indexOf_4cfef_17 ?_
      refine va_mmin (own := "java/lang/StringLatin1") (index := 38) (rest := []) hx hb (hC.2.2.2.2.1.trans hl.1.symm) hC.2.2.2.2.2.1 (gw hC.1 hC.2.1 k_468 rfl) (gw hC.1 hC.2.1 k_233 rfl) (gw hC.1 hC.2.1 k_10 rfl) (gw hC.1 hC.2.1 k_234 rfl) (Nat.le_of_ble_eq_true rfl) (Nat.le_of_ble_eq_true rfl) (Nat.le_of_ble_eq_true rfl) (Nat.le_of_ble_eq_true rfl) dJ1_indexOf_4cfef_18 ?_
      rw [show (if (5 : Int32) < 5 then (5 : Int32) else 5) = 5 from by decide]
      refine lv_istore_n (lv' := [(3, .int 5), (2, .int 0), (0, .ref av), (1, .int 107)]) hx hb dJ1_indexOf_4cfef_21 rfl hl (by decide) rfl (fun ls hl => ?_)
      refine lv_iload_n hx hb dJ1_indexOf_4cfef_22 rfl (lv_at hl 1 rfl) ?_
      refine lv_iload_n hx hb dJ1_indexOf_4cfef_23 rfl (lv_at hl 0 rfl) ?_
      refine lv_icmp_lt (tgt := 29) hx hb dJ1_indexOf_4cfef_24 (by decide) (fun c4_ => ?_) (fun c4_ => ?_)
      · refine lv_aload_n hx hb dJ1_indexOf_4cfef_29 rfl (lv_at hl 2 rfl) ?_
        refine lv_iload_n hx hb dJ1_indexOf_4cfef_30 rfl (lv_at hl 3 rfl) ?_
        refine lv_iload_n hx hb dJ1_indexOf_4cfef_31 rfl (lv_at hl 1 rfl) ?_
        refine lv_iload_n hx hb dJ1_indexOf_4cfef_32 rfl (lv_at hl 0 rfl) ?_
        refine g_cRi (k2 := 0) (n2 := 0) (g_runS (rest := []) hC (c_J1_indexOfChar_4cfef hE ad av hk 107 (by decide)) Y_J1_indexOfChar_4cfef k_469 S_J1_indexOfChar_4cfef hF rfl hl.1 dJ1_indexOf_4cfef_33 ⟨Nat.le_of_ble_eq_true rfl, Nat.le_of_ble_eq_true rfl⟩ ⟨Nat.le_of_ble_eq_true rfl, Nat.le_of_ble_eq_true rfl⟩ rfl (Nat.le_of_ble_eq_true rfl)) rfl rfl g_no (fun r5_ h6_ => ?_)
        exact g_iret hC hr dJ1_indexOf_4cfef_36 (Nat.le_of_ble_eq_true rfl) (Nat.le_of_ble_eq_true rfl) (by assumption)
      · exact absurd (by decide) c4_
    · exact absurd c3_ (by decide)
  · refine lv_iload_n hx hb dJ1_indexOf_4cfef_0 rfl (lv_at hl 1 rfl) ?_
    refine g_cRi (k2 := 0) (n2 := 0) (g_runS (rest := []) hC (c_J1_canEncode_9a6ad hE 100 (by decide)) Y_J1_canEncode_9a6ad k_464 S_J1_canEncode_9a6ad trivial rfl hl.1 dJ1_indexOf_4cfef_1 ⟨Nat.le_of_ble_eq_true rfl, Nat.le_of_ble_eq_true rfl⟩ ⟨Nat.le_of_ble_eq_true rfl, Nat.le_of_ble_eq_true rfl⟩ rfl (Nat.le_of_ble_eq_true rfl)) rfl rfl g_no (fun r7_ h8_ => ?_)
    obtain rfl : r7_ = 1 := h8_.trans (by decide)
    refine lv_if_ne (tgt := 9) hx hb dJ1_indexOf_4cfef_4 (by decide) (fun c9_ => ?_) (fun c9_ => ?_)
    · refine lv_iload_n hx hb dJ1_indexOf_4cfef_9 rfl (lv_at hl 2 rfl) ?_
      refine lv_iconst (v := 0) hx hb dJ1_indexOf_4cfef_10 (by decide) ?_
      refine va_mmax (own := "java/lang/StringLatin1") (index := 92) (rest := []) hx hb (hC.2.2.2.2.1.trans hl.1.symm) hC.2.2.2.2.2.1 (gw hC.1 hC.2.1 k_467 rfl) (gw hC.1 hC.2.1 k_202 rfl) (gw hC.1 hC.2.1 k_10 rfl) (gw hC.1 hC.2.1 k_203 rfl) (Nat.le_of_ble_eq_true rfl) (Nat.le_of_ble_eq_true rfl) (Nat.le_of_ble_eq_true rfl) (Nat.le_of_ble_eq_true rfl) dJ1_indexOf_4cfef_11 ?_
      rw [show (if (0 : Int32) < 0 then (0 : Int32) else 0) = 0 from by decide]
      refine lv_istore_n (lv' := [(2, .int 0), (0, .ref av), (1, .int 100), (3, .int 5)]) hx hb dJ1_indexOf_4cfef_14 rfl hl (by decide) rfl (fun ls hl => ?_)
      refine lv_iload_n hx hb dJ1_indexOf_4cfef_15 rfl (lv_at hl 3 rfl) ?_
      refine lv_aload_n hx hb dJ1_indexOf_4cfef_16 rfl (lv_at hl 1 rfl) ?_
      refine va_tlen (v := 5) hx hb (hk_.1 0 (by decide)).2.2.2 hS0 rfl dJ1_indexOf_4cfef_17 ?_
      refine va_mmin (own := "java/lang/StringLatin1") (index := 38) (rest := []) hx hb (hC.2.2.2.2.1.trans hl.1.symm) hC.2.2.2.2.2.1 (gw hC.1 hC.2.1 k_468 rfl) (gw hC.1 hC.2.1 k_233 rfl) (gw hC.1 hC.2.1 k_10 rfl) (gw hC.1 hC.2.1 k_234 rfl) (Nat.le_of_ble_eq_true rfl) (Nat.le_of_ble_eq_true rfl) (Nat.le_of_ble_eq_true rfl) (Nat.le_of_ble_eq_true rfl) dJ1_indexOf_4cfef_18 ?_
      rw [show (if (5 : Int32) < 5 then (5 : Int32) else 5) = 5 from by decide]
      refine lv_istore_n (lv' := [(3, .int 5), (2, .int 0), (0, .ref av), (1, .int 100)]) hx hb dJ1_indexOf_4cfef_21 rfl hl (by decide) rfl (fun ls hl => ?_)
      refine lv_iload_n hx hb dJ1_indexOf_4cfef_22 rfl (lv_at hl 1 rfl) ?_
      refine lv_iload_n hx hb dJ1_indexOf_4cfef_23 rfl (lv_at hl 0 rfl) ?_
      refine lv_icmp_lt (tgt := 29) hx hb dJ1_indexOf_4cfef_24 (by decide) (fun c10_ => ?_) (fun c10_ => ?_)
      · refine lv_aload_n hx hb dJ1_indexOf_4cfef_29 rfl (lv_at hl 2 rfl) ?_
        refine lv_iload_n hx hb dJ1_indexOf_4cfef_30 rfl (lv_at hl 3 rfl) ?_
        refine lv_iload_n hx hb dJ1_indexOf_4cfef_31 rfl (lv_at hl 1 rfl) ?_
        refine lv_iload_n hx hb dJ1_indexOf_4cfef_32 rfl (lv_at hl 0 rfl) ?_
        refine g_cRi (k2 := 0) (n2 := 0) (g_runS (rest := []) hC (c_J1_indexOfChar_4cfef hE ad av hk 100 (by decide)) Y_J1_indexOfChar_4cfef k_469 S_J1_indexOfChar_4cfef hF rfl hl.1 dJ1_indexOf_4cfef_33 ⟨Nat.le_of_ble_eq_true rfl, Nat.le_of_ble_eq_true rfl⟩ ⟨Nat.le_of_ble_eq_true rfl, Nat.le_of_ble_eq_true rfl⟩ rfl (Nat.le_of_ble_eq_true rfl)) rfl rfl g_no (fun r11_ h12_ => ?_)
        exact g_iret hC hr dJ1_indexOf_4cfef_36 (Nat.le_of_ble_eq_true rfl) (Nat.le_of_ble_eq_true rfl) (by assumption)
      · exact absurd (by decide) c10_
    · exact absurd c9_ (by decide)
  · refine lv_iload_n hx hb dJ1_indexOf_4cfef_0 rfl (lv_at hl 1 rfl) ?_
    refine g_cRi (k2 := 0) (n2 := 0) (g_runS (rest := []) hC (c_J1_canEncode_9a6ad hE 118 (by decide)) Y_J1_canEncode_9a6ad k_464 S_J1_canEncode_9a6ad trivial rfl hl.1 dJ1_indexOf_4cfef_1 ⟨Nat.le_of_ble_eq_true rfl, Nat.le_of_ble_eq_true rfl⟩ ⟨Nat.le_of_ble_eq_true rfl, Nat.le_of_ble_eq_true rfl⟩ rfl (Nat.le_of_ble_eq_true rfl)) rfl rfl g_no (fun r13_ h14_ => ?_)
    obtain rfl : r13_ = 1 := h14_.trans (by decide)
    refine lv_if_ne (tgt := 9) hx hb dJ1_indexOf_4cfef_4 (by decide) (fun c15_ => ?_) (fun c15_ => ?_)
    · refine lv_iload_n hx hb dJ1_indexOf_4cfef_9 rfl (lv_at hl 2 rfl) ?_
      refine lv_iconst (v := 0) hx hb dJ1_indexOf_4cfef_10 (by decide) ?_
      refine va_mmax (own := "java/lang/StringLatin1") (index := 92) (rest := []) hx hb (hC.2.2.2.2.1.trans hl.1.symm) hC.2.2.2.2.2.1 (gw hC.1 hC.2.1 k_467 rfl) (gw hC.1 hC.2.1 k_202 rfl) (gw hC.1 hC.2.1 k_10 rfl) (gw hC.1 hC.2.1 k_203 rfl) (Nat.le_of_ble_eq_true rfl) (Nat.le_of_ble_eq_true rfl) (Nat.le_of_ble_eq_true rfl) (Nat.le_of_ble_eq_true rfl) dJ1_indexOf_4cfef_11 ?_
      rw [show (if (0 : Int32) < 0 then (0 : Int32) else 0) = 0 from by decide]
      refine lv_istore_n (lv' := [(2, .int 0), (0, .ref av), (1, .int 118), (3, .int 5)]) hx hb dJ1_indexOf_4cfef_14 rfl hl (by decide) rfl (fun ls hl => ?_)
      refine lv_iload_n hx hb dJ1_indexOf_4cfef_15 rfl (lv_at hl 3 rfl) ?_
      refine lv_aload_n hx hb dJ1_indexOf_4cfef_16 rfl (lv_at hl 1 rfl) ?_
      refine va_tlen (v := 5) hx hb (hk_.1 0 (by decide)).2.2.2 hS0 rfl dJ1_indexOf_4cfef_17 ?_
      refine va_mmin (own := "java/lang/StringLatin1") (index := 38) (rest := []) hx hb (hC.2.2.2.2.1.trans hl.1.symm) hC.2.2.2.2.2.1 (gw hC.1 hC.2.1 k_468 rfl) (gw hC.1 hC.2.1 k_233 rfl) (gw hC.1 hC.2.1 k_10 rfl) (gw hC.1 hC.2.1 k_234 rfl) (Nat.le_of_ble_eq_true rfl) (Nat.le_of_ble_eq_true rfl) (Nat.le_of_ble_eq_true rfl) (Nat.le_of_ble_eq_true rfl) dJ1_indexOf_4cfef_18 ?_
      rw [show (if (5 : Int32) < 5 then (5 : Int32) else 5) = 5 from by decide]
      refine lv_istore_n (lv' := [(3, .int 5), (2, .int 0), (0, .ref av), (1, .int 118)]) hx hb dJ1_indexOf_4cfef_21 rfl hl (by decide) rfl (fun ls hl => ?_)
      refine lv_iload_n hx hb dJ1_indexOf_4cfef_22 rfl (lv_at hl 1 rfl) ?_
      refine lv_iload_n hx hb dJ1_indexOf_4cfef_23 rfl (lv_at hl 0 rfl) ?_
      refine lv_icmp_lt (tgt := 29) hx hb dJ1_indexOf_4cfef_24 (by decide) (fun c16_ => ?_) (fun c16_ => ?_)
      · refine lv_aload_n hx hb dJ1_indexOf_4cfef_29 rfl (lv_at hl 2 rfl) ?_
        refine lv_iload_n hx hb dJ1_indexOf_4cfef_30 rfl (lv_at hl 3 rfl) ?_
        refine lv_iload_n hx hb dJ1_indexOf_4cfef_31 rfl (lv_at hl 1 rfl) ?_
        refine lv_iload_n hx hb dJ1_indexOf_4cfef_32 rfl (lv_at hl 0 rfl) ?_
        refine g_cRi (k2 := 0) (n2 := 0) (g_runS (rest := []) hC (c_J1_indexOfChar_4cfef hE ad av hk 118 (by decide)) Y_J1_indexOfChar_4cfef k_469 S_J1_indexOfChar_4cfef hF rfl hl.1 dJ1_indexOf_4cfef_33 ⟨Nat.le_of_ble_eq_true rfl, Nat.le_of_ble_eq_true rfl⟩ ⟨Nat.le_of_ble_eq_true rfl, Nat.le_of_ble_eq_true rfl⟩ rfl (Nat.le_of_ble_eq_true rfl)) rfl rfl g_no (fun r17_ h18_ => ?_)
        exact g_iret hC hr dJ1_indexOf_4cfef_36 (Nat.le_of_ble_eq_true rfl) (Nat.le_of_ble_eq_true rfl) (by assumption)
      · exact absurd (by decide) c16_
    · exact absurd c15_ (by decide)
  · refine lv_iload_n hx hb dJ1_indexOf_4cfef_0 rfl (lv_at hl 1 rfl) ?_
    refine g_cRi (k2 := 0) (n2 := 0) (g_runS (rest := []) hC (c_J1_canEncode_9a6ad hE 108 (by decide)) Y_J1_canEncode_9a6ad k_464 S_J1_canEncode_9a6ad trivial rfl hl.1 dJ1_indexOf_4cfef_1 ⟨Nat.le_of_ble_eq_true rfl, Nat.le_of_ble_eq_true rfl⟩ ⟨Nat.le_of_ble_eq_true rfl, Nat.le_of_ble_eq_true rfl⟩ rfl (Nat.le_of_ble_eq_true rfl)) rfl rfl g_no (fun r19_ h20_ => ?_)
    obtain rfl : r19_ = 1 := h20_.trans (by decide)
    refine lv_if_ne (tgt := 9) hx hb dJ1_indexOf_4cfef_4 (by decide) (fun c21_ => ?_) (fun c21_ => ?_)
    · refine lv_iload_n hx hb dJ1_indexOf_4cfef_9 rfl (lv_at hl 2 rfl) ?_
      refine lv_iconst (v := 0) hx hb dJ1_indexOf_4cfef_10 (by decide) ?_
      refine va_mmax (own := "java/lang/StringLatin1") (index := 92) (rest := []) hx hb (hC.2.2.2.2.1.trans hl.1.symm) hC.2.2.2.2.2.1 (gw hC.1 hC.2.1 k_467 rfl) (gw hC.1 hC.2.1 k_202 rfl) (gw hC.1 hC.2.1 k_10 rfl) (gw hC.1 hC.2.1 k_203 rfl) (Nat.le_of_ble_eq_true rfl) (Nat.le_of_ble_eq_true rfl) (Nat.le_of_ble_eq_true rfl) (Nat.le_of_ble_eq_true rfl) dJ1_indexOf_4cfef_11 ?_
      rw [show (if (0 : Int32) < 0 then (0 : Int32) else 0) = 0 from by decide]
      refine lv_istore_n (lv' := [(2, .int 0), (0, .ref av), (1, .int 108), (3, .int 5)]) hx hb dJ1_indexOf_4cfef_14 rfl hl (by decide) rfl (fun ls hl => ?_)
      refine lv_iload_n hx hb dJ1_indexOf_4cfef_15 rfl (lv_at hl 3 rfl) ?_
      refine lv_aload_n hx hb dJ1_indexOf_4cfef_16 rfl (lv_at hl 1 rfl) ?_
      refine va_tlen (v := 5) hx hb (hk_.1 0 (by decide)).2.2.2 hS0 rfl dJ1_indexOf_4cfef_17 ?_
      refine va_mmin (own := "java/lang/StringLatin1") (index := 38) (rest := []) hx hb (hC.2.2.2.2.1.trans hl.1.symm) hC.2.2.2.2.2.1 (gw hC.1 hC.2.1 k_468 rfl) (gw hC.1 hC.2.1 k_233 rfl) (gw hC.1 hC.2.1 k_10 rfl) (gw hC.1 hC.2.1 k_234 rfl) (Nat.le_of_ble_eq_true rfl) (Nat.le_of_ble_eq_true rfl) (Nat.le_of_ble_eq_true rfl) (Nat.le_of_ble_eq_true rfl) dJ1_indexOf_4cfef_18 ?_
      rw [show (if (5 : Int32) < 5 then (5 : Int32) else 5) = 5 from by decide]
      refine lv_istore_n (lv' := [(3, .int 5), (2, .int 0), (0, .ref av), (1, .int 108)]) hx hb dJ1_indexOf_4cfef_21 rfl hl (by decide) rfl (fun ls hl => ?_)
      refine lv_iload_n hx hb dJ1_indexOf_4cfef_22 rfl (lv_at hl 1 rfl) ?_
      refine lv_iload_n hx hb dJ1_indexOf_4cfef_23 rfl (lv_at hl 0 rfl) ?_
      refine lv_icmp_lt (tgt := 29) hx hb dJ1_indexOf_4cfef_24 (by decide) (fun c22_ => ?_) (fun c22_ => ?_)
      · refine lv_aload_n hx hb dJ1_indexOf_4cfef_29 rfl (lv_at hl 2 rfl) ?_
        refine lv_iload_n hx hb dJ1_indexOf_4cfef_30 rfl (lv_at hl 3 rfl) ?_
        refine lv_iload_n hx hb dJ1_indexOf_4cfef_31 rfl (lv_at hl 1 rfl) ?_
        refine lv_iload_n hx hb dJ1_indexOf_4cfef_32 rfl (lv_at hl 0 rfl) ?_
        refine g_cRi (k2 := 0) (n2 := 0) (g_runS (rest := []) hC (c_J1_indexOfChar_4cfef hE ad av hk 108 (by decide)) Y_J1_indexOfChar_4cfef k_469 S_J1_indexOfChar_4cfef hF rfl hl.1 dJ1_indexOf_4cfef_33 ⟨Nat.le_of_ble_eq_true rfl, Nat.le_of_ble_eq_true rfl⟩ ⟨Nat.le_of_ble_eq_true rfl, Nat.le_of_ble_eq_true rfl⟩ rfl (Nat.le_of_ble_eq_true rfl)) rfl rfl g_no (fun r23_ h24_ => ?_)
        exact g_iret hC hr dJ1_indexOf_4cfef_36 (Nat.le_of_ble_eq_true rfl) (Nat.le_of_ble_eq_true rfl) (by assumption)
      · exact absurd (by decide) c22_
    · exact absurd c21_ (by decide)
  · refine lv_iload_n hx hb dJ1_indexOf_4cfef_0 rfl (lv_at hl 1 rfl) ?_
    refine g_cRi (k2 := 0) (n2 := 0) (g_runS (rest := []) hC (c_J1_canEncode_9a6ad hE 104 (by decide)) Y_J1_canEncode_9a6ad k_464 S_J1_canEncode_9a6ad trivial rfl hl.1 dJ1_indexOf_4cfef_1 ⟨Nat.le_of_ble_eq_true rfl, Nat.le_of_ble_eq_true rfl⟩ ⟨Nat.le_of_ble_eq_true rfl, Nat.le_of_ble_eq_true rfl⟩ rfl (Nat.le_of_ble_eq_true rfl)) rfl rfl g_no (fun r25_ h26_ => ?_)
    obtain rfl : r25_ = 1 := h26_.trans (by decide)
    refine lv_if_ne (tgt := 9) hx hb dJ1_indexOf_4cfef_4 (by decide) (fun c27_ => ?_) (fun c27_ => ?_)
    · refine lv_iload_n hx hb dJ1_indexOf_4cfef_9 rfl (lv_at hl 2 rfl) ?_
      refine lv_iconst (v := 0) hx hb dJ1_indexOf_4cfef_10 (by decide) ?_
      refine va_mmax (own := "java/lang/StringLatin1") (index := 92) (rest := []) hx hb (hC.2.2.2.2.1.trans hl.1.symm) hC.2.2.2.2.2.1 (gw hC.1 hC.2.1 k_467 rfl) (gw hC.1 hC.2.1 k_202 rfl) (gw hC.1 hC.2.1 k_10 rfl) (gw hC.1 hC.2.1 k_203 rfl) (Nat.le_of_ble_eq_true rfl) (Nat.le_of_ble_eq_true rfl) (Nat.le_of_ble_eq_true rfl) (Nat.le_of_ble_eq_true rfl) dJ1_indexOf_4cfef_11 ?_
      rw [show (if (0 : Int32) < 0 then (0 : Int32) else 0) = 0 from by decide]
      refine lv_istore_n (lv' := [(2, .int 0), (0, .ref av), (1, .int 104), (3, .int 5)]) hx hb dJ1_indexOf_4cfef_14 rfl hl (by decide) rfl (fun ls hl => ?_)
      refine lv_iload_n hx hb dJ1_indexOf_4cfef_15 rfl (lv_at hl 3 rfl) ?_
      refine lv_aload_n hx hb dJ1_indexOf_4cfef_16 rfl (lv_at hl 1 rfl) ?_
      refine va_tlen (v := 5) hx hb (hk_.1 0 (by decide)).2.2.2 hS0 rfl dJ1_indexOf_4cfef_17 ?_
      refine va_mmin (own := "java/lang/StringLatin1") (index := 38) (rest := []) hx hb (hC.2.2.2.2.1.trans hl.1.symm) hC.2.2.2.2.2.1 (gw hC.1 hC.2.1 k_468 rfl) (gw hC.1 hC.2.1 k_233 rfl) (gw hC.1 hC.2.1 k_10 rfl) (gw hC.1 hC.2.1 k_234 rfl) (Nat.le_of_ble_eq_true rfl) (Nat.le_of_ble_eq_true rfl) (Nat.le_of_ble_eq_true rfl) (Nat.le_of_ble_eq_true rfl) dJ1_indexOf_4cfef_18 ?_
      rw [show (if (5 : Int32) < 5 then (5 : Int32) else 5) = 5 from by decide]
      refine lv_istore_n (lv' := [(3, .int 5), (2, .int 0), (0, .ref av), (1, .int 104)]) hx hb dJ1_indexOf_4cfef_21 rfl hl (by decide) rfl (fun ls hl => ?_)
      refine lv_iload_n hx hb dJ1_indexOf_4cfef_22 rfl (lv_at hl 1 rfl) ?_
      refine lv_iload_n hx hb dJ1_indexOf_4cfef_23 rfl (lv_at hl 0 rfl) ?_
      refine lv_icmp_lt (tgt := 29) hx hb dJ1_indexOf_4cfef_24 (by decide) (fun c28_ => ?_) (fun c28_ => ?_)
      · refine lv_aload_n hx hb dJ1_indexOf_4cfef_29 rfl (lv_at hl 2 rfl) ?_
        refine lv_iload_n hx hb dJ1_indexOf_4cfef_30 rfl (lv_at hl 3 rfl) ?_
        refine lv_iload_n hx hb dJ1_indexOf_4cfef_31 rfl (lv_at hl 1 rfl) ?_
        refine lv_iload_n hx hb dJ1_indexOf_4cfef_32 rfl (lv_at hl 0 rfl) ?_
        refine g_cRi (k2 := 0) (n2 := 0) (g_runS (rest := []) hC (c_J1_indexOfChar_4cfef hE ad av hk 104 (by decide)) Y_J1_indexOfChar_4cfef k_469 S_J1_indexOfChar_4cfef hF rfl hl.1 dJ1_indexOf_4cfef_33 ⟨Nat.le_of_ble_eq_true rfl, Nat.le_of_ble_eq_true rfl⟩ ⟨Nat.le_of_ble_eq_true rfl, Nat.le_of_ble_eq_true rfl⟩ rfl (Nat.le_of_ble_eq_true rfl)) rfl rfl g_no (fun r29_ h30_ => ?_)
        exact g_iret hC hr dJ1_indexOf_4cfef_36 (Nat.le_of_ble_eq_true rfl) (Nat.le_of_ble_eq_true rfl) (by assumption)
      · exact absurd (by decide) c28_
    · exact absurd c27_ (by decide)
set_option maxHeartbeats 4000000 in
set_option maxRecDepth 100000 in
theorem c_J0_indexOf_7cf53 {l : Launch} {E : gV} (hE : gOK l E)  (ad av : Nat) (hk : gKd E ad av) (x : Int32) (hx_ : x = 107 ∨ x = 100 ∨ x = 118 ∨ x = 108 ∨ x = 104) : gM l E yJ0_indexOf_7cf53 cJ0_indexOf_7cf53 3 (some .int) ({ frames := 2, cells := 0, slots := 0, locals := 48 } : Room) [.ref ad, .int x, .int 0] (fun H => gFz E H) (gQR (gPi (fun r => r = fOrd x))) (fun _ => False) gN := by
  refine gM_body hE (by decide +kernel) (Nat.le_of_ble_eq_true rfl) ?_
  intro p_ e_ s m args below meth c hC ht hr hname hP ls hl
  have hx := hC.2.2.1
  have hb := hC.2.2.2.1
  have hl : lv_has ls 3 [(0, .ref ad), (1, .int x), (2, .int 0)] := hl
  have hF : gFz E s.heap := hP
  have hk_ := hk.at hC.2.1 hF
  have hS0 : va_S (gA0 E) s.heap s.heap [] := va_S.rf
  refine lv_aload_n hx hb dJ0_indexOf_7cf53_0 rfl (lv_at hl 0 rfl) ?_
  refine g_cRi (k2 := 0) (n2 := 0) (g_runVr (rest := []) hC (c_J0_isLatin1_aae02 hE ad av hk) Y_J0_isLatin1_aae02 k_447 I_J0_isLatin1_aae02 V_J0_isLatin1_aae02 (vk_recv (i := 0) hk_ (by decide) hS0) rfl hF rfl hl.1 dJ0_indexOf_7cf53_1 ⟨Nat.le_of_ble_eq_true rfl, Nat.le_of_ble_eq_true rfl⟩ ⟨Nat.le_of_ble_eq_true rfl, Nat.le_of_ble_eq_true rfl⟩ rfl (Nat.le_of_ble_eq_true rfl)) rfl rfl g_no (fun r1_ h2_ => ?_)
  obtain rfl : r1_ = 1 := h2_.trans (by decide)
  refine lv_if_eq (tgt := 23) hx hb dJ0_indexOf_7cf53_4 (by decide) (fun c3_ => ?_) (fun c3_ => ?_)
  · exact absurd c3_ (by decide)
  · refine lv_aload_n hx hb dJ0_indexOf_7cf53_7 rfl (lv_at hl 0 rfl) ?_
    refine vk_getf (own := "java/lang/String") hx hb (hk_.1 0 (by decide)).2.2.1 hS0 hC.2.2.2.2.2.1 (gw hC.1 hC.2.1 k_974 rfl) (fun _ h => h) dJ0_indexOf_7cf53_8 ?_
    refine lv_iload_n hx hb dJ0_indexOf_7cf53_11 rfl (lv_at hl 1 rfl) ?_
    refine lv_iload_n hx hb dJ0_indexOf_7cf53_12 rfl (lv_at hl 2 rfl) ?_
    refine lv_aload_n hx hb dJ0_indexOf_7cf53_13 rfl (lv_at hl 0 rfl) ?_
    refine g_cRi (k2 := 0) (n2 := 0) (g_runVr (rest := [.int 0, .int x, .ref av]) hC (c_J0_length_8abf5 hE ad av hk) Y_J0_length_8abf5 k_453 I_J0_length_8abf5 V_J0_length_8abf5 (vk_recv (i := 0) hk_ (by decide) hS0) rfl hF rfl hl.1 dJ0_indexOf_7cf53_14 ⟨Nat.le_of_ble_eq_true rfl, Nat.le_of_ble_eq_true rfl⟩ ⟨Nat.le_of_ble_eq_true rfl, Nat.le_of_ble_eq_true rfl⟩ rfl (Nat.le_of_ble_eq_true rfl)) rfl rfl g_no (fun r4_ h5_ => ?_)
    obtain rfl : r4_ = 5 := h5_.trans (by decide)
    refine g_cRi (k2 := 0) (n2 := 0) (g_runS (rest := []) hC (c_J1_indexOf_4cfef hE ad av hk x hx_) Y_J1_indexOf_4cfef k_461 S_J1_indexOf_4cfef hF rfl hl.1 dJ0_indexOf_7cf53_17 ⟨Nat.le_of_ble_eq_true rfl, Nat.le_of_ble_eq_true rfl⟩ ⟨Nat.le_of_ble_eq_true rfl, Nat.le_of_ble_eq_true rfl⟩ rfl (Nat.le_of_ble_eq_true rfl)) rfl rfl g_no (fun r6_ h7_ => ?_)
    refine lv_goto (tgt := 36) hx hb dJ0_indexOf_7cf53_20 (by decide) ?_
    exact g_iret hC hr dJ0_indexOf_7cf53_36 (Nat.le_of_ble_eq_true rfl) (Nat.le_of_ble_eq_true rfl) (by assumption)
set_option maxHeartbeats 4000000 in
set_option maxRecDepth 100000 in
theorem c_J0_indexOf_0f7a4 {l : Launch} {E : gV} (hE : gOK l E)  (ad av : Nat) (hk : gKd E ad av) (x : Int32) (hx_ : x = 107 ∨ x = 100 ∨ x = 118 ∨ x = 108 ∨ x = 104) : gM l E yJ0_indexOf_0f7a4 cJ0_indexOf_0f7a4 2 (some .int) ({ frames := 3, cells := 0, slots := 0, locals := 70 } : Room) [.ref ad, .int x] (fun H => gFz E H) (gQR (gPi (fun r => r = fOrd x))) (fun _ => False) gN := by
  refine gM_body hE (by decide +kernel) (Nat.le_of_ble_eq_true rfl) ?_
  intro p_ e_ s m args below meth c hC ht hr hname hP ls hl
  have hx := hC.2.2.1
  have hb := hC.2.2.2.1
  have hl : lv_has ls 2 [(0, .ref ad), (1, .int x)] := hl
  have hF : gFz E s.heap := hP
  have hk_ := hk.at hC.2.1 hF
  have hS0 : va_S (gA0 E) s.heap s.heap [] := va_S.rf
  refine lv_aload_n hx hb dJ0_indexOf_0f7a4_0 rfl (lv_at hl 0 rfl) ?_
  refine lv_iload_n hx hb dJ0_indexOf_0f7a4_1 rfl (lv_at hl 1 rfl) ?_
  refine lv_iconst (v := 0) hx hb dJ0_indexOf_0f7a4_2 (by decide) ?_
  refine g_cRi (k2 := 0) (n2 := 0) (g_runVr (rest := []) hC (c_J0_indexOf_7cf53 hE ad av hk x hx_) Y_J0_indexOf_7cf53 k_443 I_J0_indexOf_7cf53 V_J0_indexOf_7cf53 (vk_recv (i := 0) hk_ (by decide) hS0) rfl hF rfl hl.1 dJ0_indexOf_0f7a4_3 ⟨Nat.le_of_ble_eq_true rfl, Nat.le_of_ble_eq_true rfl⟩ ⟨Nat.le_of_ble_eq_true rfl, Nat.le_of_ble_eq_true rfl⟩ rfl (Nat.le_of_ble_eq_true rfl)) rfl rfl g_no (fun r1_ h2_ => ?_)
  exact g_iret hC hr dJ0_indexOf_0f7a4_6 (Nat.le_of_ble_eq_true rfl) (Nat.le_of_ble_eq_true rfl) (by assumption)
