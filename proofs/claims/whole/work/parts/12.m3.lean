set_option maxHeartbeats 4000000 in
set_option maxRecDepth 100000 in
theorem c_X5_adds {l : Launch} {E : gV} (hE : gOK l E) {β : Nat → Nat} {μ : F2} {K : Nat → Nat} {dp th : Int32} (hI : MI μ K) (h0 k0 ha li fi la src : Int32) (hch : narrow .char (.int ha) = .int ha) (hp : K 1 < 20) : gM l E yX5_adds cX5_adds 8 (some .int) ({ frames := 0, cells := 0, slots := 0, locals := 0 } : Room) [.ref (β 19), .int h0, .int k0, .int ha, .int li, .int fi, .int la, .int src] (fun H => RM E β μ K dp th H) (gQW (mA β) (gWi (fun r H => r = nI (K 1) ∧ RM E β (mAdds μ (K 1) h0 k0 ha li fi la src) (updN K 1 (K 1 + 1)) dp th H))) (fun _ => False) (mA β) := by
  refine gM_body hE (by decide +kernel) (Nat.le_of_ble_eq_true rfl) ?_
  intro p_ e_ s m args below meth c hC ht hr hname hP ls hl
  have hx := hC.2.2.1
  have hb := hC.2.2.2.1
  have hl : lv_has ls 8 [(0, .ref (β 19)), (1, .int h0), (2, .int k0), (3, .int ha), (4, .int li), (5, .int fi), (6, .int la), (7, .int src)] := hl
  have hS : va_S ((mA β)) s.heap s.heap [] := va_S.rf
  have hR : RM E β μ K dp th s.heap := hP
  obtain ⟨hK0, hK1, hK2, hSr, hHo, hTd⟩ := hI
  refine lv_aload_n hx hb dX5_adds_0 rfl (lv_at hl 0 rfl) ?_
  refine g_get (v := .ref (β 3)) hC hR.obj (C := RX5) (T := TX5) (N := 26) rfl u5_in 3 (by decide) k_999 rfl dX5_adds_1 ?_
  refine lv_aload_n hx hb dX5_adds_4 rfl (lv_at hl 0 rfl) ?_
  refine g_get (v := .int (nI (K 1))) hC hR.obj (C := RX5) (T := TX5) (N := 26) rfl u5_in 20 (by decide) k_1016 rfl dX5_adds_5 ?_
  refine lv_iload_n hx hb dX5_adds_8 rfl (lv_at hl 1 rfl) ?_
  refine m_iast (n := 20) (j := K 1) 3 (by decide) rfl rfl hC hR hS (by omega) dX5_adds_9 (fun H lo hR hS => ?_)
  refine lv_aload_n hx hb dX5_adds_10 rfl (lv_at hl 0 rfl) ?_
  refine g_get (v := .ref (β 4)) hC hR.obj (C := RX5) (T := TX5) (N := 26) rfl u5_in 4 (by decide) k_1000 rfl dX5_adds_11 ?_
  refine lv_aload_n hx hb dX5_adds_14 rfl (lv_at hl 0 rfl) ?_
  refine g_get (v := .int (nI (K 1))) hC hR.obj (C := RX5) (T := TX5) (N := 26) rfl u5_in 20 (by decide) k_1016 rfl dX5_adds_15 ?_
  refine lv_iload_n hx hb dX5_adds_18 rfl (lv_at hl 2 rfl) ?_
  refine m_iast (n := 20) (j := K 1) 4 (by decide) rfl rfl hC hR hS (by omega) dX5_adds_19 (fun H lo hR hS => ?_)
  refine lv_aload_n hx hb dX5_adds_20 rfl (lv_at hl 0 rfl) ?_
  refine g_get (v := .ref (β 9)) hC hR.obj (C := RX5) (T := TX5) (N := 26) rfl u5_in 9 (by decide) k_1005 rfl dX5_adds_21 ?_
  refine lv_aload_n hx hb dX5_adds_24 rfl (lv_at hl 0 rfl) ?_
  refine g_get (v := .int (nI (K 1))) hC hR.obj (C := RX5) (T := TX5) (N := 26) rfl u5_in 20 (by decide) k_1016 rfl dX5_adds_25 ?_
  refine lv_iload_n hx hb dX5_adds_28 rfl (lv_at hl 3 rfl) ?_
  refine m_cast (n := 20) (j := K 1) 9 (by decide) rfl rfl hC hR hS (by omega) (by assumption) dX5_adds_29 (fun H lo hR hS => ?_)
  refine lv_aload_n hx hb dX5_adds_30 rfl (lv_at hl 0 rfl) ?_
  refine g_get (v := .ref (β 5)) hC hR.obj (C := RX5) (T := TX5) (N := 26) rfl u5_in 5 (by decide) k_1001 rfl dX5_adds_31 ?_
  refine lv_aload_n hx hb dX5_adds_34 rfl (lv_at hl 0 rfl) ?_
  refine g_get (v := .int (nI (K 1))) hC hR.obj (C := RX5) (T := TX5) (N := 26) rfl u5_in 20 (by decide) k_1016 rfl dX5_adds_35 ?_
  refine lv_iload hx hb dX5_adds_38 (lv_at hl 4 rfl) ?_
  refine m_iast (n := 20) (j := K 1) 5 (by decide) rfl rfl hC hR hS (by omega) dX5_adds_40 (fun H lo hR hS => ?_)
  refine lv_aload_n hx hb dX5_adds_41 rfl (lv_at hl 0 rfl) ?_
  refine g_get (v := .ref (β 6)) hC hR.obj (C := RX5) (T := TX5) (N := 26) rfl u5_in 6 (by decide) k_1002 rfl dX5_adds_42 ?_
  refine lv_aload_n hx hb dX5_adds_45 rfl (lv_at hl 0 rfl) ?_
  refine g_get (v := .int (nI (K 1))) hC hR.obj (C := RX5) (T := TX5) (N := 26) rfl u5_in 20 (by decide) k_1016 rfl dX5_adds_46 ?_
  refine lv_iload hx hb dX5_adds_49 (lv_at hl 5 rfl) ?_
  refine m_iast (n := 20) (j := K 1) 6 (by decide) rfl rfl hC hR hS (by omega) dX5_adds_51 (fun H lo hR hS => ?_)
  refine lv_aload_n hx hb dX5_adds_52 rfl (lv_at hl 0 rfl) ?_
  refine g_get (v := .ref (β 7)) hC hR.obj (C := RX5) (T := TX5) (N := 26) rfl u5_in 7 (by decide) k_1003 rfl dX5_adds_53 ?_
  refine lv_aload_n hx hb dX5_adds_56 rfl (lv_at hl 0 rfl) ?_
  refine g_get (v := .int (nI (K 1))) hC hR.obj (C := RX5) (T := TX5) (N := 26) rfl u5_in 20 (by decide) k_1016 rfl dX5_adds_57 ?_
  refine lv_iload hx hb dX5_adds_60 (lv_at hl 6 rfl) ?_
  refine m_iast (n := 20) (j := K 1) 7 (by decide) rfl rfl hC hR hS (by omega) dX5_adds_62 (fun H lo hR hS => ?_)
  refine lv_aload_n hx hb dX5_adds_63 rfl (lv_at hl 0 rfl) ?_
  refine g_get (v := .ref (β 8)) hC hR.obj (C := RX5) (T := TX5) (N := 26) rfl u5_in 8 (by decide) k_1004 rfl dX5_adds_64 ?_
  refine lv_aload_n hx hb dX5_adds_67 rfl (lv_at hl 0 rfl) ?_
  refine g_get (v := .int (nI (K 1))) hC hR.obj (C := RX5) (T := TX5) (N := 26) rfl u5_in 20 (by decide) k_1016 rfl dX5_adds_68 ?_
  refine lv_iload hx hb dX5_adds_71 (lv_at hl 7 rfl) ?_
  refine m_iast (n := 20) (j := K 1) 8 (by decide) rfl rfl hC hR hS (by omega) dX5_adds_73 (fun H lo hR hS => ?_)
  refine lv_aload_n hx hb dX5_adds_74 rfl (lv_at hl 0 rfl) ?_
  refine lv_dup hx hb dX5_adds_75 rfl ?_
  refine g_get (v := .int (nI (K 1))) hC hR.obj (C := RX5) (T := TX5) (N := 26) rfl u5_in 20 (by decide) k_1016 rfl dX5_adds_76 ?_
  refine lv_iconst (v := 1) hx hb dX5_adds_79 (by decide) ?_
  refine g_iadd1 hx hb dX5_adds_80 ?_
  refine m_putN (μ' := (up2 (up2 (up2 (up2 (up2 (up2 (up2 μ 3 (K 1) h0) 4 (K 1) k0) 9 (K 1) ha) 5 (K 1) li) 6 (K 1) fi) 7 (K 1) la) 8 (K 1) src)) (K' := (updN K 1 ((K 1) + 1))) (dp' := dp) (th' := th) 20 (by decide) hC hR hS k_1016 rfl rfl (fun _ _ => rfl) rfl dX5_adds_81 (fun H lo hR hS => ?_)
  refine lv_aload_n hx hb dX5_adds_84 rfl (lv_at hl 0 rfl) ?_
  refine g_get (v := .int (nI ((K 1) + 1))) hC hR.obj (C := RX5) (T := TX5) (N := 26) rfl u5_in 20 (by decide) k_1016 rfl dX5_adds_85 ?_
  refine lv_iconst (v := 1) hx hb dX5_adds_88 (by decide) ?_
  refine g_isub1 hx hb dX5_adds_89 ?_
  exact g_iretW hC hr dX5_adds_90 hS (Nat.le_of_ble_eq_true rfl) (Nat.le_of_ble_eq_true rfl) ⟨rfl, hR⟩
set_option maxHeartbeats 4000000 in
set_option maxRecDepth 100000 in
theorem c_X5_grant {l : Launch} {E : gV} (hE : gOK l E) {β : Nat → Nat} {μ : F2} {K : Nat → Nat} {dp th : Int32} (hI : MI μ K) (h0 : Int32) (k0 : Int32) (ha : Int32) (li : Int32) (fi : Int32) (la : Int32) (hch : narrow .char (.int ha) = .int ha) : gM l E yX5_grant cX5_grant 8 (some .int) ({ frames := 2, cells := 0, slots := 0, locals := 44 } : Room) [.ref (β 19), .int h0, .int k0, .int ha, .int li, .int fi, .int la] (fun H => RM E β μ K dp th H) (gQW (mA β) (gWi (fun r H => mPost E β μ K (kGrant (K 0) (K 1) h0 k0 ha li fi la) (mAdds μ (K 1) h0 k0 ha li fi la (-1)) (updN K 1 (K 1 + 1)) (r = nI (K 1)) H))) (fun _ => False) (mA β) := by
  refine gM_body hE (by decide +kernel) (Nat.le_of_ble_eq_true rfl) ?_
  intro p_ e_ s m args below meth c hC ht hr hname hP ls hl
  have hx := hC.2.2.1
  have hb := hC.2.2.2.1
  have hl : lv_has ls 8 [(0, .ref (β 19)), (1, .int h0), (2, .int k0), (3, .int ha), (4, .int li), (5, .int fi), (6, .int la)] := hl
  have hS : va_S ((mA β)) s.heap s.heap [] := va_S.rf
  have hR : RM E β μ K dp th s.heap := hP
  obtain ⟨hK0, hK1, hK2, hSr, hHo, hTd⟩ := hI
  refine lv_iload_n hx hb dX5_grant_0 rfl (lv_at hl 3 rfl) ?_
  refine lv_bipush (v := 115) hx hb dX5_grant_1 (by decide) ?_
  refine lv_icmp_eq (tgt := 18) hx hb dX5_grant_3 (by decide) (fun c1_ => ?_) (fun c1_ => ?_)
  · refine lv_iconst (v := 1) hx hb dX5_grant_18 (by decide) ?_
    refine lv_goto (tgt := 23) hx hb dX5_grant_19 (by decide) ?_
    refine lv_istore (lv' := [(7, .int 1), (0, .ref (β 19)), (1, .int h0), (2, .int k0), (3, .int ha), (4, .int li), (5, .int fi), (6, .int la)]) hx hb dX5_grant_23 hl (by decide) rfl (fun ls hl => ?_)
    refine lv_aload_n hx hb dX5_grant_25 rfl (lv_at hl 1 rfl) ?_
    refine lv_aload_n hx hb dX5_grant_26 rfl (lv_at hl 1 rfl) ?_
    refine lv_iload_n hx hb dX5_grant_27 rfl (lv_at hl 2 rfl) ?_
    refine g_cRi (k2 := 0) (n2 := 0) (g_runV (rest := [.ref (β 19)]) hC (c_X5_isNobody hE (β := β) (μ := μ) (K := K) (dp := dp) (th := th) (by omega) h0) Y_X5_isNobody k_1092 I_X5_isNobody V_X5_isNobody hR.obj rfl hR rfl hl.1 dX5_grant_28 ⟨Nat.le_of_ble_eq_true rfl, Nat.le_of_ble_eq_true rfl⟩ ⟨Nat.le_of_ble_eq_true rfl, Nat.le_of_ble_eq_true rfl⟩ rfl (Nat.le_of_ble_eq_true rfl)) rfl rfl g_no (fun r2_ h3_ => ?_)
    refine lv_iconst (v := 1) hx hb dX5_grant_31 (by decide) ?_
    refine g_cWi (k2 := 0) (n2 := 0) (g_runV (rest := []) hC (c_X5_isThrown hE (β := β) (μ := μ) (K := K) (dp := dp) (th := th) r2_ 1 (bz.nar h3_)) Y_X5_isThrown k_1084 I_X5_isThrown V_X5_isThrown hR.obj rfl hR rfl hl.1 dX5_grant_32 ⟨Nat.le_of_ble_eq_true rfl, Nat.le_of_ble_eq_true rfl⟩ ⟨Nat.le_of_ble_eq_true rfl, Nat.le_of_ble_eq_true rfl⟩ rfl (Nat.le_of_ble_eq_true rfl)) hS (fun _ h => h) rfl rfl (fun r4_ H lo h5_ _ _ hS => ?_)
    obtain ⟨rfl, hR⟩ := h5_
    refine lv_if_ne (tgt := 99) hx hb dX5_grant_35 (by decide) (fun c6_ => ?_) (fun c6_ => ?_)
    · have q7_ := bz.t h3_ c6_
      rw [thr_1 c6_] at hR
      refine lv_iconst (v := 0) hx hb dX5_grant_99 (by decide) ?_
      exact g_iretW hC hr dX5_grant_100 hS (Nat.le_of_ble_eq_true rfl) (Nat.le_of_ble_eq_true rfl) (mPost_k 1 (by unfold kGrant; rw [cif_pos (by grind)]) (by decide) rfl hR)
    · have q7_ := bz.f h3_ c6_
      rw [thr_0 c6_] at hR
      refine lv_aload_n hx hb dX5_grant_38 rfl (lv_at hl 1 rfl) ?_
      refine lv_iload_n hx hb dX5_grant_39 rfl (lv_at hl 3 rfl) ?_
      refine lv_iconst (v := 0) hx hb dX5_grant_40 (by decide) ?_
      refine lv_iconst (v := 3) hx hb dX5_grant_41 (by decide) ?_
      refine g_cRi (k2 := 0) (n2 := 0) (g_runS (rest := [.ref (β 19)]) hC (c_X5_isIn hE k0 0 3) Y_X5_isIn k_1096 S_X5_isIn trivial rfl hl.1 dX5_grant_42 ⟨Nat.le_of_ble_eq_true rfl, Nat.le_of_ble_eq_true rfl⟩ ⟨Nat.le_of_ble_eq_true rfl, Nat.le_of_ble_eq_true rfl⟩ rfl (Nat.le_of_ble_eq_true rfl)) rfl rfl g_no (fun r8_ h9_ => ?_)
      refine lv_if_eq (tgt := 65) hx hb dX5_grant_45 (by decide) (fun c10_ => ?_) (fun c10_ => ?_)
      · have q11_ := bz.f h9_ c10_
        refine lv_iconst (v := 1) hx hb dX5_grant_65 (by decide) ?_
        refine lv_goto (tgt := 70) hx hb dX5_grant_66 (by decide) ?_
        refine lv_iconst (v := 2) hx hb dX5_grant_70 (by decide) ?_
        refine g_cWi (k2 := 0) (n2 := 0) (g_runV (rest := []) hC (c_X5_isThrown hE (β := β) (μ := μ) (K := K) (dp := dp) (th := 0) 1 2 rfl) Y_X5_isThrown k_1084 I_X5_isThrown V_X5_isThrown hR.obj rfl hR rfl hl.1 dX5_grant_71 ⟨Nat.le_of_ble_eq_true rfl, Nat.le_of_ble_eq_true rfl⟩ ⟨Nat.le_of_ble_eq_true rfl, Nat.le_of_ble_eq_true rfl⟩ rfl (Nat.le_of_ble_eq_true rfl)) hS (fun _ h => h) rfl rfl (fun r12_ H lo h13_ _ _ hS => ?_)
        obtain ⟨rfl, hR⟩ := h13_
        have hR : RM E β μ K dp 2 H := hR
        refine lv_if_ne (tgt := 99) hx hb dX5_grant_74 (by decide) (fun c14_ => ?_) (fun c14_ => ?_)
        · refine lv_iconst (v := 0) hx hb dX5_grant_99 (by decide) ?_
          exact g_iretW hC hr dX5_grant_100 hS (Nat.le_of_ble_eq_true rfl) (Nat.le_of_ble_eq_true rfl) (mPost_k 2 (by unfold kGrant; rw [cif_neg (by grind), cif_pos (by grind)]) (by decide) rfl hR)
        · exact absurd c14_ (by decide)
      · have q11_ := bz.t h9_ c10_
        refine lv_iload hx hb dX5_grant_48 (lv_at hl 0 rfl) ?_
        refine lv_if_eq (tgt := 65) hx hb dX5_grant_50 (by decide) (fun c15_ => ?_) (fun c15_ => ?_)
        · exact absurd c15_ (by decide)
        · refine lv_iload hx hb dX5_grant_53 (lv_at hl 5 rfl) ?_
          refine lv_iload hx hb dX5_grant_55 (lv_at hl 6 rfl) ?_
          refine lv_iload hx hb dX5_grant_57 (lv_at hl 7 rfl) ?_
          refine g_cRi (k2 := 0) (n2 := 0) (g_runS (rest := [.ref (β 19)]) hC (c_X5_isPower hE li fi la) Y_X5_isPower k_1115 S_X5_isPower trivial rfl hl.1 dX5_grant_59 ⟨Nat.le_of_ble_eq_true rfl, Nat.le_of_ble_eq_true rfl⟩ ⟨Nat.le_of_ble_eq_true rfl, Nat.le_of_ble_eq_true rfl⟩ rfl (Nat.le_of_ble_eq_true rfl)) rfl rfl g_no (fun r16_ h17_ => ?_)
          refine lv_if_ne (tgt := 69) hx hb dX5_grant_62 (by decide) (fun c18_ => ?_) (fun c18_ => ?_)
          · have q19_ := bz.t h17_ c18_
            refine lv_iconst (v := 0) hx hb dX5_grant_69 (by decide) ?_
            refine lv_iconst (v := 2) hx hb dX5_grant_70 (by decide) ?_
            refine g_cWi (k2 := 0) (n2 := 0) (g_runV (rest := []) hC (c_X5_isThrown hE (β := β) (μ := μ) (K := K) (dp := dp) (th := 0) 0 2 rfl) Y_X5_isThrown k_1084 I_X5_isThrown V_X5_isThrown hR.obj rfl hR rfl hl.1 dX5_grant_71 ⟨Nat.le_of_ble_eq_true rfl, Nat.le_of_ble_eq_true rfl⟩ ⟨Nat.le_of_ble_eq_true rfl, Nat.le_of_ble_eq_true rfl⟩ rfl (Nat.le_of_ble_eq_true rfl)) hS (fun _ h => h) rfl rfl (fun r20_ H lo h21_ _ _ hS => ?_)
            obtain ⟨rfl, hR⟩ := h21_
            have hR : RM E β μ K dp 0 H := hR
            refine lv_if_ne (tgt := 99) hx hb dX5_grant_74 (by decide) (fun c22_ => ?_) (fun c22_ => ?_)
            · exact absurd c22_ (by decide)
            · refine lv_aload_n hx hb dX5_grant_77 rfl (lv_at hl 1 rfl) ?_
              refine lv_aload_n hx hb dX5_grant_78 rfl (lv_at hl 1 rfl) ?_
              refine g_get (v := .int (nI (K 1))) hC hR.obj (C := RX5) (T := TX5) (N := 26) rfl u5_in 20 (by decide) k_1016 rfl dX5_grant_79 ?_
              refine lv_bipush (v := 20) hx hb dX5_grant_82 (by decide) ?_
              refine lv_icmp_ne (tgt := 91) hx hb dX5_grant_84 (by decide) (fun c23_ => ?_) (fun c23_ => ?_)
              · have n24_ : ¬ (K 1) = 20 := fun z => c23_ (congrArg nI z)
                refine lv_iconst (v := 0) hx hb dX5_grant_91 (by decide) ?_
                refine lv_iconst (v := 3) hx hb dX5_grant_92 (by decide) ?_
                refine g_cWi (k2 := 0) (n2 := 0) (g_runV (rest := []) hC (c_X5_isThrown hE (β := β) (μ := μ) (K := K) (dp := dp) (th := 0) 0 3 rfl) Y_X5_isThrown k_1084 I_X5_isThrown V_X5_isThrown hR.obj rfl hR rfl hl.1 dX5_grant_93 ⟨Nat.le_of_ble_eq_true rfl, Nat.le_of_ble_eq_true rfl⟩ ⟨Nat.le_of_ble_eq_true rfl, Nat.le_of_ble_eq_true rfl⟩ rfl (Nat.le_of_ble_eq_true rfl)) hS (fun _ h => h) rfl rfl (fun r25_ H lo h26_ _ _ hS => ?_)
                obtain ⟨rfl, hR⟩ := h26_
                have hR : RM E β μ K dp 0 H := hR
                refine lv_if_eq (tgt := 101) hx hb dX5_grant_96 (by decide) (fun c27_ => ?_) (fun c27_ => ?_)
                · refine lv_aload_n hx hb dX5_grant_101 rfl (lv_at hl 1 rfl) ?_
                  refine lv_iload_n hx hb dX5_grant_102 rfl (lv_at hl 2 rfl) ?_
                  refine lv_iload_n hx hb dX5_grant_103 rfl (lv_at hl 3 rfl) ?_
                  refine lv_iload_n hx hb dX5_grant_104 rfl (lv_at hl 4 rfl) ?_
                  refine lv_iload hx hb dX5_grant_105 (lv_at hl 5 rfl) ?_
                  refine lv_iload hx hb dX5_grant_107 (lv_at hl 6 rfl) ?_
                  refine lv_iload hx hb dX5_grant_109 (lv_at hl 7 rfl) ?_
                  refine lv_iconst (v := (-1)) hx hb dX5_grant_111 (by decide) ?_
                  refine g_cWi (k2 := 0) (n2 := 0) (g_runV (rest := []) hC (c_X5_adds hE (β := β) (μ := μ) (K := K) (dp := dp) (th := 0) ⟨hK0, hK1, hK2, hSr, hHo, hTd⟩ h0 k0 ha li fi la (-1) (by first | assumption | exact hcs _ (by omega)) (by omega)) Y_X5_adds k_1119 I_X5_adds V_X5_adds hR.obj rfl hR rfl hl.1 dX5_grant_112 ⟨Nat.le_of_ble_eq_true rfl, Nat.le_of_ble_eq_true rfl⟩ ⟨Nat.le_of_ble_eq_true rfl, Nat.le_of_ble_eq_true rfl⟩ rfl (Nat.le_of_ble_eq_true rfl)) hS (fun _ h => h) rfl rfl (fun r28_ H lo h29_ _ _ hS => ?_)
                  obtain ⟨rfl, hR⟩ := h29_
                  exact g_iretW hC hr dX5_grant_115 hS (Nat.le_of_ble_eq_true rfl) (Nat.le_of_ble_eq_true rfl) (mPost_0 (by unfold kGrant; rw [cif_neg (by grind), cif_neg (by grind), cif_neg (by grind)]) hR rfl rfl rfl)
                · exact absurd (by decide) c27_
              · have n24_ : (K 1) = 20 := (nI_eq (by omega) (by omega)).mp c23_
                refine lv_iconst (v := 1) hx hb dX5_grant_87 (by decide) ?_
                refine lv_goto (tgt := 92) hx hb dX5_grant_88 (by decide) ?_
                refine lv_iconst (v := 3) hx hb dX5_grant_92 (by decide) ?_
                refine g_cWi (k2 := 0) (n2 := 0) (g_runV (rest := []) hC (c_X5_isThrown hE (β := β) (μ := μ) (K := K) (dp := dp) (th := 0) 1 3 rfl) Y_X5_isThrown k_1084 I_X5_isThrown V_X5_isThrown hR.obj rfl hR rfl hl.1 dX5_grant_93 ⟨Nat.le_of_ble_eq_true rfl, Nat.le_of_ble_eq_true rfl⟩ ⟨Nat.le_of_ble_eq_true rfl, Nat.le_of_ble_eq_true rfl⟩ rfl (Nat.le_of_ble_eq_true rfl)) hS (fun _ h => h) rfl rfl (fun r30_ H lo h31_ _ _ hS => ?_)
                obtain ⟨rfl, hR⟩ := h31_
                have hR : RM E β μ K dp 3 H := hR
                refine lv_if_eq (tgt := 101) hx hb dX5_grant_96 (by decide) (fun c32_ => ?_) (fun c32_ => ?_)
                · exact absurd c32_ (by decide)
                · refine lv_iconst (v := 0) hx hb dX5_grant_99 (by decide) ?_
                  exact g_iretW hC hr dX5_grant_100 hS (Nat.le_of_ble_eq_true rfl) (Nat.le_of_ble_eq_true rfl) (mPost_k 3 (by unfold kGrant; rw [cif_neg (by grind), cif_neg (by grind), cif_pos (by grind)]) (by decide) rfl hR)
          · have q19_ := bz.f h17_ c18_
            refine lv_iconst (v := 1) hx hb dX5_grant_65 (by decide) ?_
            refine lv_goto (tgt := 70) hx hb dX5_grant_66 (by decide) ?_
            refine lv_iconst (v := 2) hx hb dX5_grant_70 (by decide) ?_
            refine g_cWi (k2 := 0) (n2 := 0) (g_runV (rest := []) hC (c_X5_isThrown hE (β := β) (μ := μ) (K := K) (dp := dp) (th := 0) 1 2 rfl) Y_X5_isThrown k_1084 I_X5_isThrown V_X5_isThrown hR.obj rfl hR rfl hl.1 dX5_grant_71 ⟨Nat.le_of_ble_eq_true rfl, Nat.le_of_ble_eq_true rfl⟩ ⟨Nat.le_of_ble_eq_true rfl, Nat.le_of_ble_eq_true rfl⟩ rfl (Nat.le_of_ble_eq_true rfl)) hS (fun _ h => h) rfl rfl (fun r33_ H lo h34_ _ _ hS => ?_)
            obtain ⟨rfl, hR⟩ := h34_
            have hR : RM E β μ K dp 2 H := hR
            refine lv_if_ne (tgt := 99) hx hb dX5_grant_74 (by decide) (fun c35_ => ?_) (fun c35_ => ?_)
            · refine lv_iconst (v := 0) hx hb dX5_grant_99 (by decide) ?_
              exact g_iretW hC hr dX5_grant_100 hS (Nat.le_of_ble_eq_true rfl) (Nat.le_of_ble_eq_true rfl) (mPost_k 2 (by unfold kGrant; rw [cif_neg (by grind), cif_pos (by grind)]) (by decide) rfl hR)
            · exact absurd c35_ (by decide)
  · refine lv_iload_n hx hb dX5_grant_6 rfl (lv_at hl 3 rfl) ?_
    refine lv_bipush (v := 97) hx hb dX5_grant_7 (by decide) ?_
    refine lv_icmp_eq (tgt := 18) hx hb dX5_grant_9 (by decide) (fun c36_ => ?_) (fun c36_ => ?_)
    · refine lv_iconst (v := 1) hx hb dX5_grant_18 (by decide) ?_
      refine lv_goto (tgt := 23) hx hb dX5_grant_19 (by decide) ?_
      refine lv_istore (lv' := [(7, .int 1), (0, .ref (β 19)), (1, .int h0), (2, .int k0), (3, .int ha), (4, .int li), (5, .int fi), (6, .int la)]) hx hb dX5_grant_23 hl (by decide) rfl (fun ls hl => ?_)
      refine lv_aload_n hx hb dX5_grant_25 rfl (lv_at hl 1 rfl) ?_
      refine lv_aload_n hx hb dX5_grant_26 rfl (lv_at hl 1 rfl) ?_
      refine lv_iload_n hx hb dX5_grant_27 rfl (lv_at hl 2 rfl) ?_
      refine g_cRi (k2 := 0) (n2 := 0) (g_runV (rest := [.ref (β 19)]) hC (c_X5_isNobody hE (β := β) (μ := μ) (K := K) (dp := dp) (th := th) (by omega) h0) Y_X5_isNobody k_1092 I_X5_isNobody V_X5_isNobody hR.obj rfl hR rfl hl.1 dX5_grant_28 ⟨Nat.le_of_ble_eq_true rfl, Nat.le_of_ble_eq_true rfl⟩ ⟨Nat.le_of_ble_eq_true rfl, Nat.le_of_ble_eq_true rfl⟩ rfl (Nat.le_of_ble_eq_true rfl)) rfl rfl g_no (fun r37_ h38_ => ?_)
      refine lv_iconst (v := 1) hx hb dX5_grant_31 (by decide) ?_
      refine g_cWi (k2 := 0) (n2 := 0) (g_runV (rest := []) hC (c_X5_isThrown hE (β := β) (μ := μ) (K := K) (dp := dp) (th := th) r37_ 1 (bz.nar h38_)) Y_X5_isThrown k_1084 I_X5_isThrown V_X5_isThrown hR.obj rfl hR rfl hl.1 dX5_grant_32 ⟨Nat.le_of_ble_eq_true rfl, Nat.le_of_ble_eq_true rfl⟩ ⟨Nat.le_of_ble_eq_true rfl, Nat.le_of_ble_eq_true rfl⟩ rfl (Nat.le_of_ble_eq_true rfl)) hS (fun _ h => h) rfl rfl (fun r39_ H lo h40_ _ _ hS => ?_)
      obtain ⟨rfl, hR⟩ := h40_
      refine lv_if_ne (tgt := 99) hx hb dX5_grant_35 (by decide) (fun c41_ => ?_) (fun c41_ => ?_)
      · have q42_ := bz.t h38_ c41_
        rw [thr_1 c41_] at hR
        refine lv_iconst (v := 0) hx hb dX5_grant_99 (by decide) ?_
        exact g_iretW hC hr dX5_grant_100 hS (Nat.le_of_ble_eq_true rfl) (Nat.le_of_ble_eq_true rfl) (mPost_k 1 (by unfold kGrant; rw [cif_pos (by grind)]) (by decide) rfl hR)
      · have q42_ := bz.f h38_ c41_
        rw [thr_0 c41_] at hR
        refine lv_aload_n hx hb dX5_grant_38 rfl (lv_at hl 1 rfl) ?_
        refine lv_iload_n hx hb dX5_grant_39 rfl (lv_at hl 3 rfl) ?_
        refine lv_iconst (v := 0) hx hb dX5_grant_40 (by decide) ?_
        refine lv_iconst (v := 3) hx hb dX5_grant_41 (by decide) ?_
        refine g_cRi (k2 := 0) (n2 := 0) (g_runS (rest := [.ref (β 19)]) hC (c_X5_isIn hE k0 0 3) Y_X5_isIn k_1096 S_X5_isIn trivial rfl hl.1 dX5_grant_42 ⟨Nat.le_of_ble_eq_true rfl, Nat.le_of_ble_eq_true rfl⟩ ⟨Nat.le_of_ble_eq_true rfl, Nat.le_of_ble_eq_true rfl⟩ rfl (Nat.le_of_ble_eq_true rfl)) rfl rfl g_no (fun r43_ h44_ => ?_)
        refine lv_if_eq (tgt := 65) hx hb dX5_grant_45 (by decide) (fun c45_ => ?_) (fun c45_ => ?_)
        · have q46_ := bz.f h44_ c45_
          refine lv_iconst (v := 1) hx hb dX5_grant_65 (by decide) ?_
          refine lv_goto (tgt := 70) hx hb dX5_grant_66 (by decide) ?_
          refine lv_iconst (v := 2) hx hb dX5_grant_70 (by decide) ?_
          refine g_cWi (k2 := 0) (n2 := 0) (g_runV (rest := []) hC (c_X5_isThrown hE (β := β) (μ := μ) (K := K) (dp := dp) (th := 0) 1 2 rfl) Y_X5_isThrown k_1084 I_X5_isThrown V_X5_isThrown hR.obj rfl hR rfl hl.1 dX5_grant_71 ⟨Nat.le_of_ble_eq_true rfl, Nat.le_of_ble_eq_true rfl⟩ ⟨Nat.le_of_ble_eq_true rfl, Nat.le_of_ble_eq_true rfl⟩ rfl (Nat.le_of_ble_eq_true rfl)) hS (fun _ h => h) rfl rfl (fun r47_ H lo h48_ _ _ hS => ?_)
          obtain ⟨rfl, hR⟩ := h48_
          have hR : RM E β μ K dp 2 H := hR
          refine lv_if_ne (tgt := 99) hx hb dX5_grant_74 (by decide) (fun c49_ => ?_) (fun c49_ => ?_)
          · refine lv_iconst (v := 0) hx hb dX5_grant_99 (by decide) ?_
            exact g_iretW hC hr dX5_grant_100 hS (Nat.le_of_ble_eq_true rfl) (Nat.le_of_ble_eq_true rfl) (mPost_k 2 (by unfold kGrant; rw [cif_neg (by grind), cif_pos (by grind)]) (by decide) rfl hR)
          · exact absurd c49_ (by decide)
        · have q46_ := bz.t h44_ c45_
          refine lv_iload hx hb dX5_grant_48 (lv_at hl 0 rfl) ?_
          refine lv_if_eq (tgt := 65) hx hb dX5_grant_50 (by decide) (fun c50_ => ?_) (fun c50_ => ?_)
          · exact absurd c50_ (by decide)
          · refine lv_iload hx hb dX5_grant_53 (lv_at hl 5 rfl) ?_
            refine lv_iload hx hb dX5_grant_55 (lv_at hl 6 rfl) ?_
            refine lv_iload hx hb dX5_grant_57 (lv_at hl 7 rfl) ?_
            refine g_cRi (k2 := 0) (n2 := 0) (g_runS (rest := [.ref (β 19)]) hC (c_X5_isPower hE li fi la) Y_X5_isPower k_1115 S_X5_isPower trivial rfl hl.1 dX5_grant_59 ⟨Nat.le_of_ble_eq_true rfl, Nat.le_of_ble_eq_true rfl⟩ ⟨Nat.le_of_ble_eq_true rfl, Nat.le_of_ble_eq_true rfl⟩ rfl (Nat.le_of_ble_eq_true rfl)) rfl rfl g_no (fun r51_ h52_ => ?_)
            refine lv_if_ne (tgt := 69) hx hb dX5_grant_62 (by decide) (fun c53_ => ?_) (fun c53_ => ?_)
            · have q54_ := bz.t h52_ c53_
              refine lv_iconst (v := 0) hx hb dX5_grant_69 (by decide) ?_
              refine lv_iconst (v := 2) hx hb dX5_grant_70 (by decide) ?_
              refine g_cWi (k2 := 0) (n2 := 0) (g_runV (rest := []) hC (c_X5_isThrown hE (β := β) (μ := μ) (K := K) (dp := dp) (th := 0) 0 2 rfl) Y_X5_isThrown k_1084 I_X5_isThrown V_X5_isThrown hR.obj rfl hR rfl hl.1 dX5_grant_71 ⟨Nat.le_of_ble_eq_true rfl, Nat.le_of_ble_eq_true rfl⟩ ⟨Nat.le_of_ble_eq_true rfl, Nat.le_of_ble_eq_true rfl⟩ rfl (Nat.le_of_ble_eq_true rfl)) hS (fun _ h => h) rfl rfl (fun r55_ H lo h56_ _ _ hS => ?_)
              obtain ⟨rfl, hR⟩ := h56_
              have hR : RM E β μ K dp 0 H := hR
              refine lv_if_ne (tgt := 99) hx hb dX5_grant_74 (by decide) (fun c57_ => ?_) (fun c57_ => ?_)
              · exact absurd c57_ (by decide)
              · refine lv_aload_n hx hb dX5_grant_77 rfl (lv_at hl 1 rfl) ?_
                refine lv_aload_n hx hb dX5_grant_78 rfl (lv_at hl 1 rfl) ?_
                refine g_get (v := .int (nI (K 1))) hC hR.obj (C := RX5) (T := TX5) (N := 26) rfl u5_in 20 (by decide) k_1016 rfl dX5_grant_79 ?_
                refine lv_bipush (v := 20) hx hb dX5_grant_82 (by decide) ?_
                refine lv_icmp_ne (tgt := 91) hx hb dX5_grant_84 (by decide) (fun c58_ => ?_) (fun c58_ => ?_)
                · have n59_ : ¬ (K 1) = 20 := fun z => c58_ (congrArg nI z)
                  refine lv_iconst (v := 0) hx hb dX5_grant_91 (by decide) ?_
                  refine lv_iconst (v := 3) hx hb dX5_grant_92 (by decide) ?_
                  refine g_cWi (k2 := 0) (n2 := 0) (g_runV (rest := []) hC (c_X5_isThrown hE (β := β) (μ := μ) (K := K) (dp := dp) (th := 0) 0 3 rfl) Y_X5_isThrown k_1084 I_X5_isThrown V_X5_isThrown hR.obj rfl hR rfl hl.1 dX5_grant_93 ⟨Nat.le_of_ble_eq_true rfl, Nat.le_of_ble_eq_true rfl⟩ ⟨Nat.le_of_ble_eq_true rfl, Nat.le_of_ble_eq_true rfl⟩ rfl (Nat.le_of_ble_eq_true rfl)) hS (fun _ h => h) rfl rfl (fun r60_ H lo h61_ _ _ hS => ?_)
                  obtain ⟨rfl, hR⟩ := h61_
                  have hR : RM E β μ K dp 0 H := hR
                  refine lv_if_eq (tgt := 101) hx hb dX5_grant_96 (by decide) (fun c62_ => ?_) (fun c62_ => ?_)
                  · refine lv_aload_n hx hb dX5_grant_101 rfl (lv_at hl 1 rfl) ?_
                    refine lv_iload_n hx hb dX5_grant_102 rfl (lv_at hl 2 rfl) ?_
                    refine lv_iload_n hx hb dX5_grant_103 rfl (lv_at hl 3 rfl) ?_
                    refine lv_iload_n hx hb dX5_grant_104 rfl (lv_at hl 4 rfl) ?_
                    refine lv_iload hx hb dX5_grant_105 (lv_at hl 5 rfl) ?_
                    refine lv_iload hx hb dX5_grant_107 (lv_at hl 6 rfl) ?_
                    refine lv_iload hx hb dX5_grant_109 (lv_at hl 7 rfl) ?_
                    refine lv_iconst (v := (-1)) hx hb dX5_grant_111 (by decide) ?_
                    refine g_cWi (k2 := 0) (n2 := 0) (g_runV (rest := []) hC (c_X5_adds hE (β := β) (μ := μ) (K := K) (dp := dp) (th := 0) ⟨hK0, hK1, hK2, hSr, hHo, hTd⟩ h0 k0 ha li fi la (-1) (by first | assumption | exact hcs _ (by omega)) (by omega)) Y_X5_adds k_1119 I_X5_adds V_X5_adds hR.obj rfl hR rfl hl.1 dX5_grant_112 ⟨Nat.le_of_ble_eq_true rfl, Nat.le_of_ble_eq_true rfl⟩ ⟨Nat.le_of_ble_eq_true rfl, Nat.le_of_ble_eq_true rfl⟩ rfl (Nat.le_of_ble_eq_true rfl)) hS (fun _ h => h) rfl rfl (fun r63_ H lo h64_ _ _ hS => ?_)
                    obtain ⟨rfl, hR⟩ := h64_
                    exact g_iretW hC hr dX5_grant_115 hS (Nat.le_of_ble_eq_true rfl) (Nat.le_of_ble_eq_true rfl) (mPost_0 (by unfold kGrant; rw [cif_neg (by grind), cif_neg (by grind), cif_neg (by grind)]) hR rfl rfl rfl)
                  · exact absurd (by decide) c62_
                · have n59_ : (K 1) = 20 := (nI_eq (by omega) (by omega)).mp c58_
                  refine lv_iconst (v := 1) hx hb dX5_grant_87 (by decide) ?_
                  refine lv_goto (tgt := 92) hx hb dX5_grant_88 (by decide) ?_
                  refine lv_iconst (v := 3) hx hb dX5_grant_92 (by decide) ?_
                  refine g_cWi (k2 := 0) (n2 := 0) (g_runV (rest := []) hC (c_X5_isThrown hE (β := β) (μ := μ) (K := K) (dp := dp) (th := 0) 1 3 rfl) Y_X5_isThrown k_1084 I_X5_isThrown V_X5_isThrown hR.obj rfl hR rfl hl.1 dX5_grant_93 ⟨Nat.le_of_ble_eq_true rfl, Nat.le_of_ble_eq_true rfl⟩ ⟨Nat.le_of_ble_eq_true rfl, Nat.le_of_ble_eq_true rfl⟩ rfl (Nat.le_of_ble_eq_true rfl)) hS (fun _ h => h) rfl rfl (fun r65_ H lo h66_ _ _ hS => ?_)
                  obtain ⟨rfl, hR⟩ := h66_
                  have hR : RM E β μ K dp 3 H := hR
                  refine lv_if_eq (tgt := 101) hx hb dX5_grant_96 (by decide) (fun c67_ => ?_) (fun c67_ => ?_)
                  · exact absurd c67_ (by decide)
                  · refine lv_iconst (v := 0) hx hb dX5_grant_99 (by decide) ?_
                    exact g_iretW hC hr dX5_grant_100 hS (Nat.le_of_ble_eq_true rfl) (Nat.le_of_ble_eq_true rfl) (mPost_k 3 (by unfold kGrant; rw [cif_neg (by grind), cif_neg (by grind), cif_pos (by grind)]) (by decide) rfl hR)
            · have q54_ := bz.f h52_ c53_
              refine lv_iconst (v := 1) hx hb dX5_grant_65 (by decide) ?_
              refine lv_goto (tgt := 70) hx hb dX5_grant_66 (by decide) ?_
              refine lv_iconst (v := 2) hx hb dX5_grant_70 (by decide) ?_
              refine g_cWi (k2 := 0) (n2 := 0) (g_runV (rest := []) hC (c_X5_isThrown hE (β := β) (μ := μ) (K := K) (dp := dp) (th := 0) 1 2 rfl) Y_X5_isThrown k_1084 I_X5_isThrown V_X5_isThrown hR.obj rfl hR rfl hl.1 dX5_grant_71 ⟨Nat.le_of_ble_eq_true rfl, Nat.le_of_ble_eq_true rfl⟩ ⟨Nat.le_of_ble_eq_true rfl, Nat.le_of_ble_eq_true rfl⟩ rfl (Nat.le_of_ble_eq_true rfl)) hS (fun _ h => h) rfl rfl (fun r68_ H lo h69_ _ _ hS => ?_)
              obtain ⟨rfl, hR⟩ := h69_
              have hR : RM E β μ K dp 2 H := hR
              refine lv_if_ne (tgt := 99) hx hb dX5_grant_74 (by decide) (fun c70_ => ?_) (fun c70_ => ?_)
              · refine lv_iconst (v := 0) hx hb dX5_grant_99 (by decide) ?_
                exact g_iretW hC hr dX5_grant_100 hS (Nat.le_of_ble_eq_true rfl) (Nat.le_of_ble_eq_true rfl) (mPost_k 2 (by unfold kGrant; rw [cif_neg (by grind), cif_pos (by grind)]) (by decide) rfl hR)
              · exact absurd c70_ (by decide)
    · refine lv_iload_n hx hb dX5_grant_12 rfl (lv_at hl 3 rfl) ?_
      refine lv_bipush (v := 98) hx hb dX5_grant_13 (by decide) ?_
      refine lv_icmp_ne (tgt := 22) hx hb dX5_grant_15 (by decide) (fun c71_ => ?_) (fun c71_ => ?_)
      · refine lv_iconst (v := 0) hx hb dX5_grant_22 (by decide) ?_
        refine lv_istore (lv' := [(7, .int 0), (0, .ref (β 19)), (1, .int h0), (2, .int k0), (3, .int ha), (4, .int li), (5, .int fi), (6, .int la)]) hx hb dX5_grant_23 hl (by decide) rfl (fun ls hl => ?_)
        refine lv_aload_n hx hb dX5_grant_25 rfl (lv_at hl 1 rfl) ?_
        refine lv_aload_n hx hb dX5_grant_26 rfl (lv_at hl 1 rfl) ?_
        refine lv_iload_n hx hb dX5_grant_27 rfl (lv_at hl 2 rfl) ?_
        refine g_cRi (k2 := 0) (n2 := 0) (g_runV (rest := [.ref (β 19)]) hC (c_X5_isNobody hE (β := β) (μ := μ) (K := K) (dp := dp) (th := th) (by omega) h0) Y_X5_isNobody k_1092 I_X5_isNobody V_X5_isNobody hR.obj rfl hR rfl hl.1 dX5_grant_28 ⟨Nat.le_of_ble_eq_true rfl, Nat.le_of_ble_eq_true rfl⟩ ⟨Nat.le_of_ble_eq_true rfl, Nat.le_of_ble_eq_true rfl⟩ rfl (Nat.le_of_ble_eq_true rfl)) rfl rfl g_no (fun r72_ h73_ => ?_)
        refine lv_iconst (v := 1) hx hb dX5_grant_31 (by decide) ?_
        refine g_cWi (k2 := 0) (n2 := 0) (g_runV (rest := []) hC (c_X5_isThrown hE (β := β) (μ := μ) (K := K) (dp := dp) (th := th) r72_ 1 (bz.nar h73_)) Y_X5_isThrown k_1084 I_X5_isThrown V_X5_isThrown hR.obj rfl hR rfl hl.1 dX5_grant_32 ⟨Nat.le_of_ble_eq_true rfl, Nat.le_of_ble_eq_true rfl⟩ ⟨Nat.le_of_ble_eq_true rfl, Nat.le_of_ble_eq_true rfl⟩ rfl (Nat.le_of_ble_eq_true rfl)) hS (fun _ h => h) rfl rfl (fun r74_ H lo h75_ _ _ hS => ?_)
        obtain ⟨rfl, hR⟩ := h75_
        refine lv_if_ne (tgt := 99) hx hb dX5_grant_35 (by decide) (fun c76_ => ?_) (fun c76_ => ?_)
        · have q77_ := bz.t h73_ c76_
          rw [thr_1 c76_] at hR
          refine lv_iconst (v := 0) hx hb dX5_grant_99 (by decide) ?_
          exact g_iretW hC hr dX5_grant_100 hS (Nat.le_of_ble_eq_true rfl) (Nat.le_of_ble_eq_true rfl) (mPost_k 1 (by unfold kGrant; rw [cif_pos (by grind)]) (by decide) rfl hR)
        · have q77_ := bz.f h73_ c76_
          rw [thr_0 c76_] at hR
          refine lv_aload_n hx hb dX5_grant_38 rfl (lv_at hl 1 rfl) ?_
          refine lv_iload_n hx hb dX5_grant_39 rfl (lv_at hl 3 rfl) ?_
          refine lv_iconst (v := 0) hx hb dX5_grant_40 (by decide) ?_
          refine lv_iconst (v := 3) hx hb dX5_grant_41 (by decide) ?_
          refine g_cRi (k2 := 0) (n2 := 0) (g_runS (rest := [.ref (β 19)]) hC (c_X5_isIn hE k0 0 3) Y_X5_isIn k_1096 S_X5_isIn trivial rfl hl.1 dX5_grant_42 ⟨Nat.le_of_ble_eq_true rfl, Nat.le_of_ble_eq_true rfl⟩ ⟨Nat.le_of_ble_eq_true rfl, Nat.le_of_ble_eq_true rfl⟩ rfl (Nat.le_of_ble_eq_true rfl)) rfl rfl g_no (fun r78_ h79_ => ?_)
          refine lv_if_eq (tgt := 65) hx hb dX5_grant_45 (by decide) (fun c80_ => ?_) (fun c80_ => ?_)
          · have q81_ := bz.f h79_ c80_
            refine lv_iconst (v := 1) hx hb dX5_grant_65 (by decide) ?_
            refine lv_goto (tgt := 70) hx hb dX5_grant_66 (by decide) ?_
            refine lv_iconst (v := 2) hx hb dX5_grant_70 (by decide) ?_
            refine g_cWi (k2 := 0) (n2 := 0) (g_runV (rest := []) hC (c_X5_isThrown hE (β := β) (μ := μ) (K := K) (dp := dp) (th := 0) 1 2 rfl) Y_X5_isThrown k_1084 I_X5_isThrown V_X5_isThrown hR.obj rfl hR rfl hl.1 dX5_grant_71 ⟨Nat.le_of_ble_eq_true rfl, Nat.le_of_ble_eq_true rfl⟩ ⟨Nat.le_of_ble_eq_true rfl, Nat.le_of_ble_eq_true rfl⟩ rfl (Nat.le_of_ble_eq_true rfl)) hS (fun _ h => h) rfl rfl (fun r82_ H lo h83_ _ _ hS => ?_)
            obtain ⟨rfl, hR⟩ := h83_
            have hR : RM E β μ K dp 2 H := hR
            refine lv_if_ne (tgt := 99) hx hb dX5_grant_74 (by decide) (fun c84_ => ?_) (fun c84_ => ?_)
            · refine lv_iconst (v := 0) hx hb dX5_grant_99 (by decide) ?_
              exact g_iretW hC hr dX5_grant_100 hS (Nat.le_of_ble_eq_true rfl) (Nat.le_of_ble_eq_true rfl) (mPost_k 2 (by unfold kGrant; rw [cif_neg (by grind), cif_pos (by grind)]) (by decide) rfl hR)
            · exact absurd c84_ (by decide)
          · have q81_ := bz.t h79_ c80_
            refine lv_iload hx hb dX5_grant_48 (lv_at hl 0 rfl) ?_
            refine lv_if_eq (tgt := 65) hx hb dX5_grant_50 (by decide) (fun c85_ => ?_) (fun c85_ => ?_)
            · refine lv_iconst (v := 1) hx hb dX5_grant_65 (by decide) ?_
              refine lv_goto (tgt := 70) hx hb dX5_grant_66 (by decide) ?_
              refine lv_iconst (v := 2) hx hb dX5_grant_70 (by decide) ?_
              refine g_cWi (k2 := 0) (n2 := 0) (g_runV (rest := []) hC (c_X5_isThrown hE (β := β) (μ := μ) (K := K) (dp := dp) (th := 0) 1 2 rfl) Y_X5_isThrown k_1084 I_X5_isThrown V_X5_isThrown hR.obj rfl hR rfl hl.1 dX5_grant_71 ⟨Nat.le_of_ble_eq_true rfl, Nat.le_of_ble_eq_true rfl⟩ ⟨Nat.le_of_ble_eq_true rfl, Nat.le_of_ble_eq_true rfl⟩ rfl (Nat.le_of_ble_eq_true rfl)) hS (fun _ h => h) rfl rfl (fun r86_ H lo h87_ _ _ hS => ?_)
              obtain ⟨rfl, hR⟩ := h87_
              have hR : RM E β μ K dp 2 H := hR
              refine lv_if_ne (tgt := 99) hx hb dX5_grant_74 (by decide) (fun c88_ => ?_) (fun c88_ => ?_)
              · refine lv_iconst (v := 0) hx hb dX5_grant_99 (by decide) ?_
                exact g_iretW hC hr dX5_grant_100 hS (Nat.le_of_ble_eq_true rfl) (Nat.le_of_ble_eq_true rfl) (mPost_k 2 (by unfold kGrant; rw [cif_neg (by grind), cif_pos (by grind)]) (by decide) rfl hR)
              · exact absurd c88_ (by decide)
            · exact absurd (by decide) c85_
      · refine lv_iconst (v := 1) hx hb dX5_grant_18 (by decide) ?_
        refine lv_goto (tgt := 23) hx hb dX5_grant_19 (by decide) ?_
        refine lv_istore (lv' := [(7, .int 1), (0, .ref (β 19)), (1, .int h0), (2, .int k0), (3, .int ha), (4, .int li), (5, .int fi), (6, .int la)]) hx hb dX5_grant_23 hl (by decide) rfl (fun ls hl => ?_)
        refine lv_aload_n hx hb dX5_grant_25 rfl (lv_at hl 1 rfl) ?_
        refine lv_aload_n hx hb dX5_grant_26 rfl (lv_at hl 1 rfl) ?_
        refine lv_iload_n hx hb dX5_grant_27 rfl (lv_at hl 2 rfl) ?_
        refine g_cRi (k2 := 0) (n2 := 0) (g_runV (rest := [.ref (β 19)]) hC (c_X5_isNobody hE (β := β) (μ := μ) (K := K) (dp := dp) (th := th) (by omega) h0) Y_X5_isNobody k_1092 I_X5_isNobody V_X5_isNobody hR.obj rfl hR rfl hl.1 dX5_grant_28 ⟨Nat.le_of_ble_eq_true rfl, Nat.le_of_ble_eq_true rfl⟩ ⟨Nat.le_of_ble_eq_true rfl, Nat.le_of_ble_eq_true rfl⟩ rfl (Nat.le_of_ble_eq_true rfl)) rfl rfl g_no (fun r89_ h90_ => ?_)
        refine lv_iconst (v := 1) hx hb dX5_grant_31 (by decide) ?_
        refine g_cWi (k2 := 0) (n2 := 0) (g_runV (rest := []) hC (c_X5_isThrown hE (β := β) (μ := μ) (K := K) (dp := dp) (th := th) r89_ 1 (bz.nar h90_)) Y_X5_isThrown k_1084 I_X5_isThrown V_X5_isThrown hR.obj rfl hR rfl hl.1 dX5_grant_32 ⟨Nat.le_of_ble_eq_true rfl, Nat.le_of_ble_eq_true rfl⟩ ⟨Nat.le_of_ble_eq_true rfl, Nat.le_of_ble_eq_true rfl⟩ rfl (Nat.le_of_ble_eq_true rfl)) hS (fun _ h => h) rfl rfl (fun r91_ H lo h92_ _ _ hS => ?_)
        obtain ⟨rfl, hR⟩ := h92_
        refine lv_if_ne (tgt := 99) hx hb dX5_grant_35 (by decide) (fun c93_ => ?_) (fun c93_ => ?_)
        · have q94_ := bz.t h90_ c93_
          rw [thr_1 c93_] at hR
          refine lv_iconst (v := 0) hx hb dX5_grant_99 (by decide) ?_
          exact g_iretW hC hr dX5_grant_100 hS (Nat.le_of_ble_eq_true rfl) (Nat.le_of_ble_eq_true rfl) (mPost_k 1 (by unfold kGrant; rw [cif_pos (by grind)]) (by decide) rfl hR)
        · have q94_ := bz.f h90_ c93_
          rw [thr_0 c93_] at hR
          refine lv_aload_n hx hb dX5_grant_38 rfl (lv_at hl 1 rfl) ?_
          refine lv_iload_n hx hb dX5_grant_39 rfl (lv_at hl 3 rfl) ?_
          refine lv_iconst (v := 0) hx hb dX5_grant_40 (by decide) ?_
          refine lv_iconst (v := 3) hx hb dX5_grant_41 (by decide) ?_
          refine g_cRi (k2 := 0) (n2 := 0) (g_runS (rest := [.ref (β 19)]) hC (c_X5_isIn hE k0 0 3) Y_X5_isIn k_1096 S_X5_isIn trivial rfl hl.1 dX5_grant_42 ⟨Nat.le_of_ble_eq_true rfl, Nat.le_of_ble_eq_true rfl⟩ ⟨Nat.le_of_ble_eq_true rfl, Nat.le_of_ble_eq_true rfl⟩ rfl (Nat.le_of_ble_eq_true rfl)) rfl rfl g_no (fun r95_ h96_ => ?_)
          refine lv_if_eq (tgt := 65) hx hb dX5_grant_45 (by decide) (fun c97_ => ?_) (fun c97_ => ?_)
          · have q98_ := bz.f h96_ c97_
            refine lv_iconst (v := 1) hx hb dX5_grant_65 (by decide) ?_
            refine lv_goto (tgt := 70) hx hb dX5_grant_66 (by decide) ?_
            refine lv_iconst (v := 2) hx hb dX5_grant_70 (by decide) ?_
            refine g_cWi (k2 := 0) (n2 := 0) (g_runV (rest := []) hC (c_X5_isThrown hE (β := β) (μ := μ) (K := K) (dp := dp) (th := 0) 1 2 rfl) Y_X5_isThrown k_1084 I_X5_isThrown V_X5_isThrown hR.obj rfl hR rfl hl.1 dX5_grant_71 ⟨Nat.le_of_ble_eq_true rfl, Nat.le_of_ble_eq_true rfl⟩ ⟨Nat.le_of_ble_eq_true rfl, Nat.le_of_ble_eq_true rfl⟩ rfl (Nat.le_of_ble_eq_true rfl)) hS (fun _ h => h) rfl rfl (fun r99_ H lo h100_ _ _ hS => ?_)
            obtain ⟨rfl, hR⟩ := h100_
            have hR : RM E β μ K dp 2 H := hR
            refine lv_if_ne (tgt := 99) hx hb dX5_grant_74 (by decide) (fun c101_ => ?_) (fun c101_ => ?_)
            · refine lv_iconst (v := 0) hx hb dX5_grant_99 (by decide) ?_
              exact g_iretW hC hr dX5_grant_100 hS (Nat.le_of_ble_eq_true rfl) (Nat.le_of_ble_eq_true rfl) (mPost_k 2 (by unfold kGrant; rw [cif_neg (by grind), cif_pos (by grind)]) (by decide) rfl hR)
            · exact absurd c101_ (by decide)
          · have q98_ := bz.t h96_ c97_
            refine lv_iload hx hb dX5_grant_48 (lv_at hl 0 rfl) ?_
            refine lv_if_eq (tgt := 65) hx hb dX5_grant_50 (by decide) (fun c102_ => ?_) (fun c102_ => ?_)
            · exact absurd c102_ (by decide)
            · refine lv_iload hx hb dX5_grant_53 (lv_at hl 5 rfl) ?_
              refine lv_iload hx hb dX5_grant_55 (lv_at hl 6 rfl) ?_
              refine lv_iload hx hb dX5_grant_57 (lv_at hl 7 rfl) ?_
              refine g_cRi (k2 := 0) (n2 := 0) (g_runS (rest := [.ref (β 19)]) hC (c_X5_isPower hE li fi la) Y_X5_isPower k_1115 S_X5_isPower trivial rfl hl.1 dX5_grant_59 ⟨Nat.le_of_ble_eq_true rfl, Nat.le_of_ble_eq_true rfl⟩ ⟨Nat.le_of_ble_eq_true rfl, Nat.le_of_ble_eq_true rfl⟩ rfl (Nat.le_of_ble_eq_true rfl)) rfl rfl g_no (fun r103_ h104_ => ?_)
              refine lv_if_ne (tgt := 69) hx hb dX5_grant_62 (by decide) (fun c105_ => ?_) (fun c105_ => ?_)
              · have q106_ := bz.t h104_ c105_
                refine lv_iconst (v := 0) hx hb dX5_grant_69 (by decide) ?_
                refine lv_iconst (v := 2) hx hb dX5_grant_70 (by decide) ?_
                refine g_cWi (k2 := 0) (n2 := 0) (g_runV (rest := []) hC (c_X5_isThrown hE (β := β) (μ := μ) (K := K) (dp := dp) (th := 0) 0 2 rfl) Y_X5_isThrown k_1084 I_X5_isThrown V_X5_isThrown hR.obj rfl hR rfl hl.1 dX5_grant_71 ⟨Nat.le_of_ble_eq_true rfl, Nat.le_of_ble_eq_true rfl⟩ ⟨Nat.le_of_ble_eq_true rfl, Nat.le_of_ble_eq_true rfl⟩ rfl (Nat.le_of_ble_eq_true rfl)) hS (fun _ h => h) rfl rfl (fun r107_ H lo h108_ _ _ hS => ?_)
                obtain ⟨rfl, hR⟩ := h108_
                have hR : RM E β μ K dp 0 H := hR
                refine lv_if_ne (tgt := 99) hx hb dX5_grant_74 (by decide) (fun c109_ => ?_) (fun c109_ => ?_)
                · exact absurd c109_ (by decide)
                · refine lv_aload_n hx hb dX5_grant_77 rfl (lv_at hl 1 rfl) ?_
                  refine lv_aload_n hx hb dX5_grant_78 rfl (lv_at hl 1 rfl) ?_
                  refine g_get (v := .int (nI (K 1))) hC hR.obj (C := RX5) (T := TX5) (N := 26) rfl u5_in 20 (by decide) k_1016 rfl dX5_grant_79 ?_
                  refine lv_bipush (v := 20) hx hb dX5_grant_82 (by decide) ?_
                  refine lv_icmp_ne (tgt := 91) hx hb dX5_grant_84 (by decide) (fun c110_ => ?_) (fun c110_ => ?_)
                  · have n111_ : ¬ (K 1) = 20 := fun z => c110_ (congrArg nI z)
                    refine lv_iconst (v := 0) hx hb dX5_grant_91 (by decide) ?_
                    refine lv_iconst (v := 3) hx hb dX5_grant_92 (by decide) ?_
                    refine g_cWi (k2 := 0) (n2 := 0) (g_runV (rest := []) hC (c_X5_isThrown hE (β := β) (μ := μ) (K := K) (dp := dp) (th := 0) 0 3 rfl) Y_X5_isThrown k_1084 I_X5_isThrown V_X5_isThrown hR.obj rfl hR rfl hl.1 dX5_grant_93 ⟨Nat.le_of_ble_eq_true rfl, Nat.le_of_ble_eq_true rfl⟩ ⟨Nat.le_of_ble_eq_true rfl, Nat.le_of_ble_eq_true rfl⟩ rfl (Nat.le_of_ble_eq_true rfl)) hS (fun _ h => h) rfl rfl (fun r112_ H lo h113_ _ _ hS => ?_)
                    obtain ⟨rfl, hR⟩ := h113_
                    have hR : RM E β μ K dp 0 H := hR
                    refine lv_if_eq (tgt := 101) hx hb dX5_grant_96 (by decide) (fun c114_ => ?_) (fun c114_ => ?_)
                    · refine lv_aload_n hx hb dX5_grant_101 rfl (lv_at hl 1 rfl) ?_
                      refine lv_iload_n hx hb dX5_grant_102 rfl (lv_at hl 2 rfl) ?_
                      refine lv_iload_n hx hb dX5_grant_103 rfl (lv_at hl 3 rfl) ?_
                      refine lv_iload_n hx hb dX5_grant_104 rfl (lv_at hl 4 rfl) ?_
                      refine lv_iload hx hb dX5_grant_105 (lv_at hl 5 rfl) ?_
                      refine lv_iload hx hb dX5_grant_107 (lv_at hl 6 rfl) ?_
                      refine lv_iload hx hb dX5_grant_109 (lv_at hl 7 rfl) ?_
                      refine lv_iconst (v := (-1)) hx hb dX5_grant_111 (by decide) ?_
                      refine g_cWi (k2 := 0) (n2 := 0) (g_runV (rest := []) hC (c_X5_adds hE (β := β) (μ := μ) (K := K) (dp := dp) (th := 0) ⟨hK0, hK1, hK2, hSr, hHo, hTd⟩ h0 k0 ha li fi la (-1) (by first | assumption | exact hcs _ (by omega)) (by omega)) Y_X5_adds k_1119 I_X5_adds V_X5_adds hR.obj rfl hR rfl hl.1 dX5_grant_112 ⟨Nat.le_of_ble_eq_true rfl, Nat.le_of_ble_eq_true rfl⟩ ⟨Nat.le_of_ble_eq_true rfl, Nat.le_of_ble_eq_true rfl⟩ rfl (Nat.le_of_ble_eq_true rfl)) hS (fun _ h => h) rfl rfl (fun r115_ H lo h116_ _ _ hS => ?_)
                      obtain ⟨rfl, hR⟩ := h116_
                      exact g_iretW hC hr dX5_grant_115 hS (Nat.le_of_ble_eq_true rfl) (Nat.le_of_ble_eq_true rfl) (mPost_0 (by unfold kGrant; rw [cif_neg (by grind), cif_neg (by grind), cif_neg (by grind)]) hR rfl rfl rfl)
                    · exact absurd (by decide) c114_
                  · have n111_ : (K 1) = 20 := (nI_eq (by omega) (by omega)).mp c110_
                    refine lv_iconst (v := 1) hx hb dX5_grant_87 (by decide) ?_
                    refine lv_goto (tgt := 92) hx hb dX5_grant_88 (by decide) ?_
                    refine lv_iconst (v := 3) hx hb dX5_grant_92 (by decide) ?_
                    refine g_cWi (k2 := 0) (n2 := 0) (g_runV (rest := []) hC (c_X5_isThrown hE (β := β) (μ := μ) (K := K) (dp := dp) (th := 0) 1 3 rfl) Y_X5_isThrown k_1084 I_X5_isThrown V_X5_isThrown hR.obj rfl hR rfl hl.1 dX5_grant_93 ⟨Nat.le_of_ble_eq_true rfl, Nat.le_of_ble_eq_true rfl⟩ ⟨Nat.le_of_ble_eq_true rfl, Nat.le_of_ble_eq_true rfl⟩ rfl (Nat.le_of_ble_eq_true rfl)) hS (fun _ h => h) rfl rfl (fun r117_ H lo h118_ _ _ hS => ?_)
                    obtain ⟨rfl, hR⟩ := h118_
                    have hR : RM E β μ K dp 3 H := hR
                    refine lv_if_eq (tgt := 101) hx hb dX5_grant_96 (by decide) (fun c119_ => ?_) (fun c119_ => ?_)
                    · exact absurd c119_ (by decide)
                    · refine lv_iconst (v := 0) hx hb dX5_grant_99 (by decide) ?_
                      exact g_iretW hC hr dX5_grant_100 hS (Nat.le_of_ble_eq_true rfl) (Nat.le_of_ble_eq_true rfl) (mPost_k 3 (by unfold kGrant; rw [cif_neg (by grind), cif_neg (by grind), cif_pos (by grind)]) (by decide) rfl hR)
              · have q106_ := bz.f h104_ c105_
                refine lv_iconst (v := 1) hx hb dX5_grant_65 (by decide) ?_
                refine lv_goto (tgt := 70) hx hb dX5_grant_66 (by decide) ?_
                refine lv_iconst (v := 2) hx hb dX5_grant_70 (by decide) ?_
                refine g_cWi (k2 := 0) (n2 := 0) (g_runV (rest := []) hC (c_X5_isThrown hE (β := β) (μ := μ) (K := K) (dp := dp) (th := 0) 1 2 rfl) Y_X5_isThrown k_1084 I_X5_isThrown V_X5_isThrown hR.obj rfl hR rfl hl.1 dX5_grant_71 ⟨Nat.le_of_ble_eq_true rfl, Nat.le_of_ble_eq_true rfl⟩ ⟨Nat.le_of_ble_eq_true rfl, Nat.le_of_ble_eq_true rfl⟩ rfl (Nat.le_of_ble_eq_true rfl)) hS (fun _ h => h) rfl rfl (fun r120_ H lo h121_ _ _ hS => ?_)
                obtain ⟨rfl, hR⟩ := h121_
                have hR : RM E β μ K dp 2 H := hR
                refine lv_if_ne (tgt := 99) hx hb dX5_grant_74 (by decide) (fun c122_ => ?_) (fun c122_ => ?_)
                · refine lv_iconst (v := 0) hx hb dX5_grant_99 (by decide) ?_
                  exact g_iretW hC hr dX5_grant_100 hS (Nat.le_of_ble_eq_true rfl) (Nat.le_of_ble_eq_true rfl) (mPost_k 2 (by unfold kGrant; rw [cif_neg (by grind), cif_pos (by grind)]) (by decide) rfl hR)
                · exact absurd c122_ (by decide)
set_option maxHeartbeats 4000000 in
set_option maxRecDepth 100000 in
theorem c_X5_delegate {l : Launch} {E : gV} (hE : gOK l E) {β : Nat → Nat} {μ : F2} {K : Nat → Nat} {dp th : Int32} (hI : MI μ K) (p0 : Int32) (h0 : Int32) (li : Int32) (fi : Int32) (la : Int32) (hcs : ∀ i, i < K 1 → narrow .char (.int (μ 9 i)) = .int (μ 9 i)) : gM l E yX5_delegate cX5_delegate 7 (some .int) ({ frames := 2, cells := 0, slots := 0, locals := 44 } : Room) [.ref (β 19), .int p0, .int h0, .int li, .int fi, .int la] (fun H => RM E β μ K dp th H) (gQW (mA β) (gWi (fun r H => mPost E β μ K (kDel (mv μ) (K 0) (K 1) p0 h0 li fi la) (mAdds μ (K 1) h0 (μ 4 (ix p0)) (μ 9 (ix p0)) li fi la p0) (updN K 1 (K 1 + 1)) (r = nI (K 1)) H))) (fun _ => False) (mA β) := by
  refine gM_body hE (by decide +kernel) (Nat.le_of_ble_eq_true rfl) ?_
  intro p_ e_ s m args below meth c hC ht hr hname hP ls hl
  have hx := hC.2.2.1
  have hb := hC.2.2.2.1
  have hl : lv_has ls 7 [(0, .ref (β 19)), (1, .int p0), (2, .int h0), (3, .int li), (4, .int fi), (5, .int la)] := hl
  have hS : va_S ((mA β)) s.heap s.heap [] := va_S.rf
  have hR : RM E β μ K dp th s.heap := hP
  obtain ⟨hK0, hK1, hK2, hSr, hHo, hTd⟩ := hI
  refine lv_aload_n hx hb dX5_delegate_0 rfl (lv_at hl 0 rfl) ?_
  refine lv_iload_n hx hb dX5_delegate_1 rfl (lv_at hl 1 rfl) ?_
  refine lv_iconst (v := 0) hx hb dX5_delegate_2 (by decide) ?_
  refine lv_aload_n hx hb dX5_delegate_3 rfl (lv_at hl 0 rfl) ?_
  refine g_get (v := .int (nI (K 1))) hC hR.obj (C := RX5) (T := TX5) (N := 26) rfl u5_in 20 (by decide) k_1016 rfl dX5_delegate_4 ?_
  refine lv_iconst (v := 1) hx hb dX5_delegate_7 (by decide) ?_
  refine lv_isub hx hb dX5_delegate_8 ?_
  refine g_cRi (k2 := 0) (n2 := 0) (g_runS (rest := [.ref (β 19)]) hC (c_X5_isIn hE p0 0 ((nI (K 1)) - 1)) Y_X5_isIn k_1096 S_X5_isIn trivial rfl hl.1 dX5_delegate_9 ⟨Nat.le_of_ble_eq_true rfl, Nat.le_of_ble_eq_true rfl⟩ ⟨Nat.le_of_ble_eq_true rfl, Nat.le_of_ble_eq_true rfl⟩ rfl (Nat.le_of_ble_eq_true rfl)) rfl rfl g_no (fun r1_ h2_ => ?_)
  have f3_ := h2_.iff (isIn_1 (by omega))
  refine lv_if_eq (tgt := 23) hx hb dX5_delegate_12 (by decide) (fun c4_ => ?_) (fun c4_ => ?_)
  · have q5_ := bz.f f3_ c4_
    refine lv_iconst (v := 1) hx hb dX5_delegate_23 (by decide) ?_
    refine lv_goto (tgt := 28) hx hb dX5_delegate_24 (by decide) ?_
    refine lv_iconst (v := 1) hx hb dX5_delegate_28 (by decide) ?_
    refine g_cWi (k2 := 0) (n2 := 0) (g_runV (rest := []) hC (c_X5_isThrown hE (β := β) (μ := μ) (K := K) (dp := dp) (th := th) 1 1 rfl) Y_X5_isThrown k_1084 I_X5_isThrown V_X5_isThrown hR.obj rfl hR rfl hl.1 dX5_delegate_29 ⟨Nat.le_of_ble_eq_true rfl, Nat.le_of_ble_eq_true rfl⟩ ⟨Nat.le_of_ble_eq_true rfl, Nat.le_of_ble_eq_true rfl⟩ rfl (Nat.le_of_ble_eq_true rfl)) hS (fun _ h => h) rfl rfl (fun r6_ H lo h7_ _ _ hS => ?_)
    obtain ⟨rfl, hR⟩ := h7_
    have hR : RM E β μ K dp 1 H := hR
    refine lv_if_ne (tgt := 59) hx hb dX5_delegate_32 (by decide) (fun c8_ => ?_) (fun c8_ => ?_)
    · refine lv_iconst (v := 0) hx hb dX5_delegate_59 (by decide) ?_
      exact g_iretW hC hr dX5_delegate_60 hS (Nat.le_of_ble_eq_true rfl) (Nat.le_of_ble_eq_true rfl) (mPost_k 1 (by unfold kDel; rw [cif_pos (by grind)]) (by decide) rfl hR)
    · exact absurd c8_ (by decide)
  · have q5_ := bz.t f3_ c4_
    refine lv_aload_n hx hb dX5_delegate_15 rfl (lv_at hl 0 rfl) ?_
    refine lv_iload_n hx hb dX5_delegate_16 rfl (lv_at hl 2 rfl) ?_
    refine g_cRi (k2 := 0) (n2 := 0) (g_runV (rest := [.ref (β 19)]) hC (c_X5_isNobody hE (β := β) (μ := μ) (K := K) (dp := dp) (th := th) (by omega) h0) Y_X5_isNobody k_1092 I_X5_isNobody V_X5_isNobody hR.obj rfl hR rfl hl.1 dX5_delegate_17 ⟨Nat.le_of_ble_eq_true rfl, Nat.le_of_ble_eq_true rfl⟩ ⟨Nat.le_of_ble_eq_true rfl, Nat.le_of_ble_eq_true rfl⟩ rfl (Nat.le_of_ble_eq_true rfl)) rfl rfl g_no (fun r9_ h10_ => ?_)
    refine lv_if_eq (tgt := 27) hx hb dX5_delegate_20 (by decide) (fun c11_ => ?_) (fun c11_ => ?_)
    · have q12_ := bz.f h10_ c11_
      refine lv_iconst (v := 0) hx hb dX5_delegate_27 (by decide) ?_
      refine lv_iconst (v := 1) hx hb dX5_delegate_28 (by decide) ?_
      refine g_cWi (k2 := 0) (n2 := 0) (g_runV (rest := []) hC (c_X5_isThrown hE (β := β) (μ := μ) (K := K) (dp := dp) (th := th) 0 1 rfl) Y_X5_isThrown k_1084 I_X5_isThrown V_X5_isThrown hR.obj rfl hR rfl hl.1 dX5_delegate_29 ⟨Nat.le_of_ble_eq_true rfl, Nat.le_of_ble_eq_true rfl⟩ ⟨Nat.le_of_ble_eq_true rfl, Nat.le_of_ble_eq_true rfl⟩ rfl (Nat.le_of_ble_eq_true rfl)) hS (fun _ h => h) rfl rfl (fun r13_ H lo h14_ _ _ hS => ?_)
      obtain ⟨rfl, hR⟩ := h14_
      have hR : RM E β μ K dp 0 H := hR
      refine lv_if_ne (tgt := 59) hx hb dX5_delegate_32 (by decide) (fun c15_ => ?_) (fun c15_ => ?_)
      · exact absurd c15_ (by decide)
      · refine lv_aload_n hx hb dX5_delegate_35 rfl (lv_at hl 0 rfl) ?_
        refine lv_iload_n hx hb dX5_delegate_36 rfl (lv_at hl 3 rfl) ?_
        refine lv_iload hx hb dX5_delegate_37 (lv_at hl 4 rfl) ?_
        refine lv_iload hx hb dX5_delegate_39 (lv_at hl 5 rfl) ?_
        refine g_cRi (k2 := 0) (n2 := 0) (g_runS (rest := [.ref (β 19)]) hC (c_X5_isPower hE li fi la) Y_X5_isPower k_1115 S_X5_isPower trivial rfl hl.1 dX5_delegate_41 ⟨Nat.le_of_ble_eq_true rfl, Nat.le_of_ble_eq_true rfl⟩ ⟨Nat.le_of_ble_eq_true rfl, Nat.le_of_ble_eq_true rfl⟩ rfl (Nat.le_of_ble_eq_true rfl)) rfl rfl g_no (fun r16_ h17_ => ?_)
        refine lv_if_ne (tgt := 51) hx hb dX5_delegate_44 (by decide) (fun c18_ => ?_) (fun c18_ => ?_)
        · have q19_ := bz.t h17_ c18_
          refine lv_iconst (v := 0) hx hb dX5_delegate_51 (by decide) ?_
          refine lv_iconst (v := 2) hx hb dX5_delegate_52 (by decide) ?_
          refine g_cWi (k2 := 0) (n2 := 0) (g_runV (rest := []) hC (c_X5_isThrown hE (β := β) (μ := μ) (K := K) (dp := dp) (th := 0) 0 2 rfl) Y_X5_isThrown k_1084 I_X5_isThrown V_X5_isThrown hR.obj rfl hR rfl hl.1 dX5_delegate_53 ⟨Nat.le_of_ble_eq_true rfl, Nat.le_of_ble_eq_true rfl⟩ ⟨Nat.le_of_ble_eq_true rfl, Nat.le_of_ble_eq_true rfl⟩ rfl (Nat.le_of_ble_eq_true rfl)) hS (fun _ h => h) rfl rfl (fun r20_ H lo h21_ _ _ hS => ?_)
          obtain ⟨rfl, hR⟩ := h21_
          have hR : RM E β μ K dp 0 H := hR
          refine lv_if_eq (tgt := 61) hx hb dX5_delegate_56 (by decide) (fun c22_ => ?_) (fun c22_ => ?_)
          · refine lv_iload_n hx hb dX5_delegate_61 rfl (lv_at hl 2 rfl) ?_
            refine lv_aload_n hx hb dX5_delegate_62 rfl (lv_at hl 0 rfl) ?_
            refine g_get (v := .ref (β 3)) hC hR.obj (C := RX5) (T := TX5) (N := 26) rfl u5_in 3 (by decide) k_999 rfl dX5_delegate_63 ?_
            refine lv_iload_n hx hb dX5_delegate_66 rfl (lv_at hl 1 rfl) ?_
            obtain ⟨j_p0, hj_p0, rfl⟩ := isP_of (n := K 1) (p := p0) (by first | exact Classical.not_not.mp (by assumption) | assumption) (by omega)
            have ej_p0 : (nI j_p0).toNatClampNeg = j_p0 := nI_clamp (by omega)
            have ipj_p0 : isP (K 1) (nI j_p0) := isP_nI hj_p0 (by omega)
            refine g_iald (n := 20) (f := μ 3) (j := j_p0) hC (hR.arr 3 (by decide) rfl rfl) (by omega) (by decide) dX5_delegate_67 ?_
            refine lv_icmp_eq (tgt := 107) hx hb dX5_delegate_68 (by decide) (fun c23_ => ?_) (fun c23_ => ?_)
            · refine lv_iconst (v := 0) hx hb dX5_delegate_107 (by decide) ?_
              refine lv_istore (lv' := [(6, .int 0), (0, .ref (β 19)), (1, .int (nI j_p0)), (2, .int h0), (3, .int li), (4, .int fi), (5, .int la)]) hx hb dX5_delegate_108 hl (by decide) rfl (fun ls hl => ?_)
              refine lv_aload_n hx hb dX5_delegate_110 rfl (lv_at hl 1 rfl) ?_
              refine lv_iload hx hb dX5_delegate_111 (lv_at hl 0 rfl) ?_
              refine lv_if_ne (tgt := 120) hx hb dX5_delegate_113 (by decide) (fun c24_ => ?_) (fun c24_ => ?_)
              · exact absurd c24_ (by decide)
              · refine lv_iconst (v := 1) hx hb dX5_delegate_116 (by decide) ?_
                refine lv_goto (tgt := 121) hx hb dX5_delegate_117 (by decide) ?_
                refine lv_iconst (v := 3) hx hb dX5_delegate_121 (by decide) ?_
                refine g_cWi (k2 := 0) (n2 := 0) (g_runV (rest := []) hC (c_X5_isThrown hE (β := β) (μ := μ) (K := K) (dp := dp) (th := 0) 1 3 rfl) Y_X5_isThrown k_1084 I_X5_isThrown V_X5_isThrown hR.obj rfl hR rfl hl.1 dX5_delegate_122 ⟨Nat.le_of_ble_eq_true rfl, Nat.le_of_ble_eq_true rfl⟩ ⟨Nat.le_of_ble_eq_true rfl, Nat.le_of_ble_eq_true rfl⟩ rfl (Nat.le_of_ble_eq_true rfl)) hS (fun _ h => h) rfl rfl (fun r25_ H lo h26_ _ _ hS => ?_)
                obtain ⟨rfl, hR⟩ := h26_
                have hR : RM E β μ K dp 3 H := hR
                refine lv_if_ne (tgt := 159) hx hb dX5_delegate_125 (by decide) (fun c27_ => ?_) (fun c27_ => ?_)
                · refine lv_iconst (v := 0) hx hb dX5_delegate_159 (by decide) ?_
                  exact g_iretW hC hr dX5_delegate_160 hS (Nat.le_of_ble_eq_true rfl) (Nat.le_of_ble_eq_true rfl) (mPost_k 3 (by unfold kDel; rw [cif_neg (by first | grind | (simp only [ix, ej_p0, mv, mw]; grind)), cif_neg (by first | grind | (simp only [ix, ej_p0, mv, mw]; grind)), cif_pos (by first | grind | (simp only [ix, ej_p0, mv, mw]; grind))]) (by decide) rfl hR)
                · exact absurd c27_ (by decide)
            · refine lv_iload_n hx hb dX5_delegate_71 rfl (lv_at hl 3 rfl) ?_
              refine lv_aload_n hx hb dX5_delegate_72 rfl (lv_at hl 0 rfl) ?_
              refine g_get (v := .ref (β 5)) hC hR.obj (C := RX5) (T := TX5) (N := 26) rfl u5_in 5 (by decide) k_1001 rfl dX5_delegate_73 ?_
              refine lv_iload_n hx hb dX5_delegate_76 rfl (lv_at hl 1 rfl) ?_
              refine g_iald (n := 20) (f := μ 5) (j := j_p0) hC (hR.arr 5 (by decide) rfl rfl) (by omega) (by decide) dX5_delegate_77 ?_
              refine lv_icmp_gt (tgt := 107) hx hb dX5_delegate_78 (by decide) (fun c28_ => ?_) (fun c28_ => ?_)
              · refine lv_iconst (v := 0) hx hb dX5_delegate_107 (by decide) ?_
                refine lv_istore (lv' := [(6, .int 0), (0, .ref (β 19)), (1, .int (nI j_p0)), (2, .int h0), (3, .int li), (4, .int fi), (5, .int la)]) hx hb dX5_delegate_108 hl (by decide) rfl (fun ls hl => ?_)
                refine lv_aload_n hx hb dX5_delegate_110 rfl (lv_at hl 1 rfl) ?_
                refine lv_iload hx hb dX5_delegate_111 (lv_at hl 0 rfl) ?_
                refine lv_if_ne (tgt := 120) hx hb dX5_delegate_113 (by decide) (fun c29_ => ?_) (fun c29_ => ?_)
                · exact absurd c29_ (by decide)
                · refine lv_iconst (v := 1) hx hb dX5_delegate_116 (by decide) ?_
                  refine lv_goto (tgt := 121) hx hb dX5_delegate_117 (by decide) ?_
                  refine lv_iconst (v := 3) hx hb dX5_delegate_121 (by decide) ?_
                  refine g_cWi (k2 := 0) (n2 := 0) (g_runV (rest := []) hC (c_X5_isThrown hE (β := β) (μ := μ) (K := K) (dp := dp) (th := 0) 1 3 rfl) Y_X5_isThrown k_1084 I_X5_isThrown V_X5_isThrown hR.obj rfl hR rfl hl.1 dX5_delegate_122 ⟨Nat.le_of_ble_eq_true rfl, Nat.le_of_ble_eq_true rfl⟩ ⟨Nat.le_of_ble_eq_true rfl, Nat.le_of_ble_eq_true rfl⟩ rfl (Nat.le_of_ble_eq_true rfl)) hS (fun _ h => h) rfl rfl (fun r30_ H lo h31_ _ _ hS => ?_)
                  obtain ⟨rfl, hR⟩ := h31_
                  have hR : RM E β μ K dp 3 H := hR
                  refine lv_if_ne (tgt := 159) hx hb dX5_delegate_125 (by decide) (fun c32_ => ?_) (fun c32_ => ?_)
                  · refine lv_iconst (v := 0) hx hb dX5_delegate_159 (by decide) ?_
                    exact g_iretW hC hr dX5_delegate_160 hS (Nat.le_of_ble_eq_true rfl) (Nat.le_of_ble_eq_true rfl) (mPost_k 3 (by unfold kDel; rw [cif_neg (by first | grind | (simp only [ix, ej_p0, mv, mw]; grind)), cif_neg (by first | grind | (simp only [ix, ej_p0, mv, mw]; grind)), cif_pos (by first | grind | (simp only [ix, ej_p0, mv, mw]; grind))]) (by decide) rfl hR)
                  · exact absurd c32_ (by decide)
              · refine lv_iload hx hb dX5_delegate_81 (lv_at hl 4 rfl) ?_
                refine lv_aload_n hx hb dX5_delegate_83 rfl (lv_at hl 0 rfl) ?_
                refine g_get (v := .ref (β 6)) hC hR.obj (C := RX5) (T := TX5) (N := 26) rfl u5_in 6 (by decide) k_1002 rfl dX5_delegate_84 ?_
                refine lv_iload_n hx hb dX5_delegate_87 rfl (lv_at hl 1 rfl) ?_
                refine g_iald (n := 20) (f := μ 6) (j := j_p0) hC (hR.arr 6 (by decide) rfl rfl) (by omega) (by decide) dX5_delegate_88 ?_
                refine lv_icmp_lt (tgt := 107) hx hb dX5_delegate_89 (by decide) (fun c33_ => ?_) (fun c33_ => ?_)
                · refine lv_iconst (v := 0) hx hb dX5_delegate_107 (by decide) ?_
                  refine lv_istore (lv' := [(6, .int 0), (0, .ref (β 19)), (1, .int (nI j_p0)), (2, .int h0), (3, .int li), (4, .int fi), (5, .int la)]) hx hb dX5_delegate_108 hl (by decide) rfl (fun ls hl => ?_)
                  refine lv_aload_n hx hb dX5_delegate_110 rfl (lv_at hl 1 rfl) ?_
                  refine lv_iload hx hb dX5_delegate_111 (lv_at hl 0 rfl) ?_
                  refine lv_if_ne (tgt := 120) hx hb dX5_delegate_113 (by decide) (fun c34_ => ?_) (fun c34_ => ?_)
                  · exact absurd c34_ (by decide)
                  · refine lv_iconst (v := 1) hx hb dX5_delegate_116 (by decide) ?_
                    refine lv_goto (tgt := 121) hx hb dX5_delegate_117 (by decide) ?_
                    refine lv_iconst (v := 3) hx hb dX5_delegate_121 (by decide) ?_
                    refine g_cWi (k2 := 0) (n2 := 0) (g_runV (rest := []) hC (c_X5_isThrown hE (β := β) (μ := μ) (K := K) (dp := dp) (th := 0) 1 3 rfl) Y_X5_isThrown k_1084 I_X5_isThrown V_X5_isThrown hR.obj rfl hR rfl hl.1 dX5_delegate_122 ⟨Nat.le_of_ble_eq_true rfl, Nat.le_of_ble_eq_true rfl⟩ ⟨Nat.le_of_ble_eq_true rfl, Nat.le_of_ble_eq_true rfl⟩ rfl (Nat.le_of_ble_eq_true rfl)) hS (fun _ h => h) rfl rfl (fun r35_ H lo h36_ _ _ hS => ?_)
                    obtain ⟨rfl, hR⟩ := h36_
                    have hR : RM E β μ K dp 3 H := hR
                    refine lv_if_ne (tgt := 159) hx hb dX5_delegate_125 (by decide) (fun c37_ => ?_) (fun c37_ => ?_)
                    · refine lv_iconst (v := 0) hx hb dX5_delegate_159 (by decide) ?_
                      exact g_iretW hC hr dX5_delegate_160 hS (Nat.le_of_ble_eq_true rfl) (Nat.le_of_ble_eq_true rfl) (mPost_k 3 (by unfold kDel; rw [cif_neg (by first | grind | (simp only [ix, ej_p0, mv, mw]; grind)), cif_neg (by first | grind | (simp only [ix, ej_p0, mv, mw]; grind)), cif_pos (by first | grind | (simp only [ix, ej_p0, mv, mw]; grind))]) (by decide) rfl hR)
                    · exact absurd c37_ (by decide)
                · refine lv_iload hx hb dX5_delegate_92 (lv_at hl 5 rfl) ?_
                  refine lv_aload_n hx hb dX5_delegate_94 rfl (lv_at hl 0 rfl) ?_
                  refine g_get (v := .ref (β 7)) hC hR.obj (C := RX5) (T := TX5) (N := 26) rfl u5_in 7 (by decide) k_1003 rfl dX5_delegate_95 ?_
                  refine lv_iload_n hx hb dX5_delegate_98 rfl (lv_at hl 1 rfl) ?_
                  refine g_iald (n := 20) (f := μ 7) (j := j_p0) hC (hR.arr 7 (by decide) rfl rfl) (by omega) (by decide) dX5_delegate_99 ?_
                  refine lv_icmp_gt (tgt := 107) hx hb dX5_delegate_100 (by decide) (fun c38_ => ?_) (fun c38_ => ?_)
                  · refine lv_iconst (v := 0) hx hb dX5_delegate_107 (by decide) ?_
                    refine lv_istore (lv' := [(6, .int 0), (0, .ref (β 19)), (1, .int (nI j_p0)), (2, .int h0), (3, .int li), (4, .int fi), (5, .int la)]) hx hb dX5_delegate_108 hl (by decide) rfl (fun ls hl => ?_)
                    refine lv_aload_n hx hb dX5_delegate_110 rfl (lv_at hl 1 rfl) ?_
                    refine lv_iload hx hb dX5_delegate_111 (lv_at hl 0 rfl) ?_
                    refine lv_if_ne (tgt := 120) hx hb dX5_delegate_113 (by decide) (fun c39_ => ?_) (fun c39_ => ?_)
                    · exact absurd c39_ (by decide)
                    · refine lv_iconst (v := 1) hx hb dX5_delegate_116 (by decide) ?_
                      refine lv_goto (tgt := 121) hx hb dX5_delegate_117 (by decide) ?_
                      refine lv_iconst (v := 3) hx hb dX5_delegate_121 (by decide) ?_
                      refine g_cWi (k2 := 0) (n2 := 0) (g_runV (rest := []) hC (c_X5_isThrown hE (β := β) (μ := μ) (K := K) (dp := dp) (th := 0) 1 3 rfl) Y_X5_isThrown k_1084 I_X5_isThrown V_X5_isThrown hR.obj rfl hR rfl hl.1 dX5_delegate_122 ⟨Nat.le_of_ble_eq_true rfl, Nat.le_of_ble_eq_true rfl⟩ ⟨Nat.le_of_ble_eq_true rfl, Nat.le_of_ble_eq_true rfl⟩ rfl (Nat.le_of_ble_eq_true rfl)) hS (fun _ h => h) rfl rfl (fun r40_ H lo h41_ _ _ hS => ?_)
                      obtain ⟨rfl, hR⟩ := h41_
                      have hR : RM E β μ K dp 3 H := hR
                      refine lv_if_ne (tgt := 159) hx hb dX5_delegate_125 (by decide) (fun c42_ => ?_) (fun c42_ => ?_)
                      · refine lv_iconst (v := 0) hx hb dX5_delegate_159 (by decide) ?_
                        exact g_iretW hC hr dX5_delegate_160 hS (Nat.le_of_ble_eq_true rfl) (Nat.le_of_ble_eq_true rfl) (mPost_k 3 (by unfold kDel; rw [cif_neg (by first | grind | (simp only [ix, ej_p0, mv, mw]; grind)), cif_neg (by first | grind | (simp only [ix, ej_p0, mv, mw]; grind)), cif_pos (by first | grind | (simp only [ix, ej_p0, mv, mw]; grind))]) (by decide) rfl hR)
                      · exact absurd c42_ (by decide)
                  · refine lv_iconst (v := 1) hx hb dX5_delegate_103 (by decide) ?_
                    refine lv_goto (tgt := 108) hx hb dX5_delegate_104 (by decide) ?_
                    refine lv_istore (lv' := [(6, .int 1), (0, .ref (β 19)), (1, .int (nI j_p0)), (2, .int h0), (3, .int li), (4, .int fi), (5, .int la)]) hx hb dX5_delegate_108 hl (by decide) rfl (fun ls hl => ?_)
                    refine lv_aload_n hx hb dX5_delegate_110 rfl (lv_at hl 1 rfl) ?_
                    refine lv_iload hx hb dX5_delegate_111 (lv_at hl 0 rfl) ?_
                    refine lv_if_ne (tgt := 120) hx hb dX5_delegate_113 (by decide) (fun c43_ => ?_) (fun c43_ => ?_)
                    · refine lv_iconst (v := 0) hx hb dX5_delegate_120 (by decide) ?_
                      refine lv_iconst (v := 3) hx hb dX5_delegate_121 (by decide) ?_
                      refine g_cWi (k2 := 0) (n2 := 0) (g_runV (rest := []) hC (c_X5_isThrown hE (β := β) (μ := μ) (K := K) (dp := dp) (th := 0) 0 3 rfl) Y_X5_isThrown k_1084 I_X5_isThrown V_X5_isThrown hR.obj rfl hR rfl hl.1 dX5_delegate_122 ⟨Nat.le_of_ble_eq_true rfl, Nat.le_of_ble_eq_true rfl⟩ ⟨Nat.le_of_ble_eq_true rfl, Nat.le_of_ble_eq_true rfl⟩ rfl (Nat.le_of_ble_eq_true rfl)) hS (fun _ h => h) rfl rfl (fun r44_ H lo h45_ _ _ hS => ?_)
                      obtain ⟨rfl, hR⟩ := h45_
                      have hR : RM E β μ K dp 0 H := hR
                      refine lv_if_ne (tgt := 159) hx hb dX5_delegate_125 (by decide) (fun c46_ => ?_) (fun c46_ => ?_)
                      · exact absurd c46_ (by decide)
                      · refine lv_aload_n hx hb dX5_delegate_128 rfl (lv_at hl 1 rfl) ?_
                        refine lv_aload_n hx hb dX5_delegate_129 rfl (lv_at hl 1 rfl) ?_
                        refine g_get (v := .ref (β 1)) hC hR.obj (C := RX5) (T := TX5) (N := 26) rfl u5_in 1 (by decide) k_997 rfl dX5_delegate_130 ?_
                        refine lv_iload_n hx hb dX5_delegate_133 rfl (lv_at hl 2 rfl) ?_
                        refine g_zald (n := 20) (f := μ 1) (j := j_p0) hC (hR.arr 1 (by decide) rfl rfl) (by omega) (by decide) dX5_delegate_134 ?_
                        refine lv_if_ne (tgt := 147) hx hb dX5_delegate_135 (by decide) (fun c47_ => ?_) (fun c47_ => ?_)
                        · refine lv_iconst (v := 1) hx hb dX5_delegate_147 (by decide) ?_
                          refine lv_goto (tgt := 152) hx hb dX5_delegate_148 (by decide) ?_
                          refine lv_iconst (v := 4) hx hb dX5_delegate_152 (by decide) ?_
                          refine g_cWi (k2 := 0) (n2 := 0) (g_runV (rest := []) hC (c_X5_isThrown hE (β := β) (μ := μ) (K := K) (dp := dp) (th := 0) 1 4 rfl) Y_X5_isThrown k_1084 I_X5_isThrown V_X5_isThrown hR.obj rfl hR rfl hl.1 dX5_delegate_153 ⟨Nat.le_of_ble_eq_true rfl, Nat.le_of_ble_eq_true rfl⟩ ⟨Nat.le_of_ble_eq_true rfl, Nat.le_of_ble_eq_true rfl⟩ rfl (Nat.le_of_ble_eq_true rfl)) hS (fun _ h => h) rfl rfl (fun r49_ H lo h50_ _ _ hS => ?_)
                          obtain ⟨rfl, hR⟩ := h50_
                          have hR : RM E β μ K dp 4 H := hR
                          refine lv_if_eq (tgt := 161) hx hb dX5_delegate_156 (by decide) (fun c51_ => ?_) (fun c51_ => ?_)
                          · exact absurd c51_ (by decide)
                          · refine lv_iconst (v := 0) hx hb dX5_delegate_159 (by decide) ?_
                            exact g_iretW hC hr dX5_delegate_160 hS (Nat.le_of_ble_eq_true rfl) (Nat.le_of_ble_eq_true rfl) (mPost_k 4 (by unfold kDel; rw [cif_neg (by first | grind | (simp only [ix, ej_p0, mv, mw]; grind)), cif_neg (by first | grind | (simp only [ix, ej_p0, mv, mw]; grind)), cif_neg (by first | grind | (simp only [ix, ej_p0, mv, mw]; grind)), cif_pos (by first | grind | (simp only [ix, ej_p0, mv, mw]; grind))]) (by decide) rfl hR)
                        · refine lv_aload_n hx hb dX5_delegate_138 rfl (lv_at hl 1 rfl) ?_
                          refine g_get (v := .int (nI (K 1))) hC hR.obj (C := RX5) (T := TX5) (N := 26) rfl u5_in 20 (by decide) k_1016 rfl dX5_delegate_139 ?_
                          refine lv_bipush (v := 20) hx hb dX5_delegate_142 (by decide) ?_
                          refine lv_icmp_ne (tgt := 151) hx hb dX5_delegate_144 (by decide) (fun c52_ => ?_) (fun c52_ => ?_)
                          · have n53_ : ¬ (K 1) = 20 := fun z => c52_ (congrArg nI z)
                            refine lv_iconst (v := 0) hx hb dX5_delegate_151 (by decide) ?_
                            refine lv_iconst (v := 4) hx hb dX5_delegate_152 (by decide) ?_
                            refine g_cWi (k2 := 0) (n2 := 0) (g_runV (rest := []) hC (c_X5_isThrown hE (β := β) (μ := μ) (K := K) (dp := dp) (th := 0) 0 4 rfl) Y_X5_isThrown k_1084 I_X5_isThrown V_X5_isThrown hR.obj rfl hR rfl hl.1 dX5_delegate_153 ⟨Nat.le_of_ble_eq_true rfl, Nat.le_of_ble_eq_true rfl⟩ ⟨Nat.le_of_ble_eq_true rfl, Nat.le_of_ble_eq_true rfl⟩ rfl (Nat.le_of_ble_eq_true rfl)) hS (fun _ h => h) rfl rfl (fun r54_ H lo h55_ _ _ hS => ?_)
                            obtain ⟨rfl, hR⟩ := h55_
                            have hR : RM E β μ K dp 0 H := hR
                            refine lv_if_eq (tgt := 161) hx hb dX5_delegate_156 (by decide) (fun c56_ => ?_) (fun c56_ => ?_)
                            · refine lv_aload_n hx hb dX5_delegate_161 rfl (lv_at hl 1 rfl) ?_
                              refine lv_iload_n hx hb dX5_delegate_162 rfl (lv_at hl 3 rfl) ?_
                              refine lv_aload_n hx hb dX5_delegate_163 rfl (lv_at hl 1 rfl) ?_
                              refine g_get (v := .ref (β 4)) hC hR.obj (C := RX5) (T := TX5) (N := 26) rfl u5_in 4 (by decide) k_1000 rfl dX5_delegate_164 ?_
                              refine lv_iload_n hx hb dX5_delegate_167 rfl (lv_at hl 2 rfl) ?_
                              refine g_iald (n := 20) (f := μ 4) (j := j_p0) hC (hR.arr 4 (by decide) rfl rfl) (by omega) (by decide) dX5_delegate_168 ?_
                              refine lv_aload_n hx hb dX5_delegate_169 rfl (lv_at hl 1 rfl) ?_
                              refine g_get (v := .ref (β 9)) hC hR.obj (C := RX5) (T := TX5) (N := 26) rfl u5_in 9 (by decide) k_1005 rfl dX5_delegate_170 ?_
                              refine lv_iload_n hx hb dX5_delegate_173 rfl (lv_at hl 2 rfl) ?_
                              refine g_cald (n := 20) (f := μ 9) (j := j_p0) hC (hR.arr 9 (by decide) rfl rfl) (by omega) (by decide) dX5_delegate_174 ?_
                              refine lv_iload_n hx hb dX5_delegate_175 rfl (lv_at hl 4 rfl) ?_
                              refine lv_iload hx hb dX5_delegate_176 (lv_at hl 5 rfl) ?_
                              refine lv_iload hx hb dX5_delegate_178 (lv_at hl 6 rfl) ?_
                              refine lv_iload_n hx hb dX5_delegate_180 rfl (lv_at hl 2 rfl) ?_
                              refine g_cWi (k2 := 0) (n2 := 0) (g_runV (rest := []) hC (c_X5_adds hE (β := β) (μ := μ) (K := K) (dp := dp) (th := 0) ⟨hK0, hK1, hK2, hSr, hHo, hTd⟩ h0 (μ 4 j_p0) (μ 9 j_p0) li fi la (nI j_p0) (by first | assumption | exact hcs _ (by omega)) (by omega)) Y_X5_adds k_1119 I_X5_adds V_X5_adds hR.obj rfl hR rfl hl.1 dX5_delegate_181 ⟨Nat.le_of_ble_eq_true rfl, Nat.le_of_ble_eq_true rfl⟩ ⟨Nat.le_of_ble_eq_true rfl, Nat.le_of_ble_eq_true rfl⟩ rfl (Nat.le_of_ble_eq_true rfl)) hS (fun _ h => h) rfl rfl (fun r57_ H lo h58_ _ _ hS => ?_)
                              obtain ⟨rfl, hR⟩ := h58_
                              exact g_iretW hC hr dX5_delegate_184 hS (Nat.le_of_ble_eq_true rfl) (Nat.le_of_ble_eq_true rfl) (mPost_0 (by unfold kDel; rw [cif_neg (by first | grind | (simp only [ix, ej_p0, mv, mw]; grind)), cif_neg (by first | grind | (simp only [ix, ej_p0, mv, mw]; grind)), cif_neg (by first | grind | (simp only [ix, ej_p0, mv, mw]; grind)), cif_neg (by first | grind | (simp only [ix, ej_p0, mv, mw]; grind))]) hR (by simp only [ix, ej_p0]) rfl rfl)
                            · exact absurd (by decide) c56_
                          · have n53_ : (K 1) = 20 := (nI_eq (by omega) (by omega)).mp c52_
                            refine lv_iconst (v := 1) hx hb dX5_delegate_147 (by decide) ?_
                            refine lv_goto (tgt := 152) hx hb dX5_delegate_148 (by decide) ?_
                            refine lv_iconst (v := 4) hx hb dX5_delegate_152 (by decide) ?_
                            refine g_cWi (k2 := 0) (n2 := 0) (g_runV (rest := []) hC (c_X5_isThrown hE (β := β) (μ := μ) (K := K) (dp := dp) (th := 0) 1 4 rfl) Y_X5_isThrown k_1084 I_X5_isThrown V_X5_isThrown hR.obj rfl hR rfl hl.1 dX5_delegate_153 ⟨Nat.le_of_ble_eq_true rfl, Nat.le_of_ble_eq_true rfl⟩ ⟨Nat.le_of_ble_eq_true rfl, Nat.le_of_ble_eq_true rfl⟩ rfl (Nat.le_of_ble_eq_true rfl)) hS (fun _ h => h) rfl rfl (fun r59_ H lo h60_ _ _ hS => ?_)
                            obtain ⟨rfl, hR⟩ := h60_
                            have hR : RM E β μ K dp 4 H := hR
                            refine lv_if_eq (tgt := 161) hx hb dX5_delegate_156 (by decide) (fun c61_ => ?_) (fun c61_ => ?_)
                            · exact absurd c61_ (by decide)
                            · refine lv_iconst (v := 0) hx hb dX5_delegate_159 (by decide) ?_
                              exact g_iretW hC hr dX5_delegate_160 hS (Nat.le_of_ble_eq_true rfl) (Nat.le_of_ble_eq_true rfl) (mPost_k 4 (by unfold kDel; rw [cif_neg (by first | grind | (simp only [ix, ej_p0, mv, mw]; grind)), cif_neg (by first | grind | (simp only [ix, ej_p0, mv, mw]; grind)), cif_neg (by first | grind | (simp only [ix, ej_p0, mv, mw]; grind)), cif_pos (by first | grind | (simp only [ix, ej_p0, mv, mw]; grind))]) (by decide) rfl hR)
                    · exact absurd c43_ (by decide)
          · exact absurd (by decide) c22_
        · have q19_ := bz.f h17_ c18_
          refine lv_iconst (v := 1) hx hb dX5_delegate_47 (by decide) ?_
          refine lv_goto (tgt := 52) hx hb dX5_delegate_48 (by decide) ?_
          refine lv_iconst (v := 2) hx hb dX5_delegate_52 (by decide) ?_
          refine g_cWi (k2 := 0) (n2 := 0) (g_runV (rest := []) hC (c_X5_isThrown hE (β := β) (μ := μ) (K := K) (dp := dp) (th := 0) 1 2 rfl) Y_X5_isThrown k_1084 I_X5_isThrown V_X5_isThrown hR.obj rfl hR rfl hl.1 dX5_delegate_53 ⟨Nat.le_of_ble_eq_true rfl, Nat.le_of_ble_eq_true rfl⟩ ⟨Nat.le_of_ble_eq_true rfl, Nat.le_of_ble_eq_true rfl⟩ rfl (Nat.le_of_ble_eq_true rfl)) hS (fun _ h => h) rfl rfl (fun r62_ H lo h63_ _ _ hS => ?_)
          obtain ⟨rfl, hR⟩ := h63_
          have hR : RM E β μ K dp 2 H := hR
          refine lv_if_eq (tgt := 61) hx hb dX5_delegate_56 (by decide) (fun c64_ => ?_) (fun c64_ => ?_)
          · exact absurd c64_ (by decide)
          · refine lv_iconst (v := 0) hx hb dX5_delegate_59 (by decide) ?_
            exact g_iretW hC hr dX5_delegate_60 hS (Nat.le_of_ble_eq_true rfl) (Nat.le_of_ble_eq_true rfl) (mPost_k 2 (by unfold kDel; rw [cif_neg (by grind), cif_pos (by grind)]) (by decide) rfl hR)
    · have q12_ := bz.t h10_ c11_
      refine lv_iconst (v := 1) hx hb dX5_delegate_23 (by decide) ?_
      refine lv_goto (tgt := 28) hx hb dX5_delegate_24 (by decide) ?_
      refine lv_iconst (v := 1) hx hb dX5_delegate_28 (by decide) ?_
      refine g_cWi (k2 := 0) (n2 := 0) (g_runV (rest := []) hC (c_X5_isThrown hE (β := β) (μ := μ) (K := K) (dp := dp) (th := th) 1 1 rfl) Y_X5_isThrown k_1084 I_X5_isThrown V_X5_isThrown hR.obj rfl hR rfl hl.1 dX5_delegate_29 ⟨Nat.le_of_ble_eq_true rfl, Nat.le_of_ble_eq_true rfl⟩ ⟨Nat.le_of_ble_eq_true rfl, Nat.le_of_ble_eq_true rfl⟩ rfl (Nat.le_of_ble_eq_true rfl)) hS (fun _ h => h) rfl rfl (fun r65_ H lo h66_ _ _ hS => ?_)
      obtain ⟨rfl, hR⟩ := h66_
      have hR : RM E β μ K dp 1 H := hR
      refine lv_if_ne (tgt := 59) hx hb dX5_delegate_32 (by decide) (fun c67_ => ?_) (fun c67_ => ?_)
      · refine lv_iconst (v := 0) hx hb dX5_delegate_59 (by decide) ?_
        exact g_iretW hC hr dX5_delegate_60 hS (Nat.le_of_ble_eq_true rfl) (Nat.le_of_ble_eq_true rfl) (mPost_k 1 (by unfold kDel; rw [cif_pos (by grind)]) (by decide) rfl hR)
      · exact absurd c67_ (by decide)
set_option maxHeartbeats 4000000 in
set_option maxRecDepth 100000 in
theorem c_X5_lower {l : Launch} {E : gV} (hE : gOK l E) {β : Nat → Nat} {μ : F2} {K : Nat → Nat} {dp th : Int32} (hI : MI μ K) (p0 : Int32) (li : Int32) : gM l E yX5_lower cX5_lower 4 (some .int) ({ frames := 2, cells := 0, slots := 0, locals := 43 } : Room) [.ref (β 19), .int p0, .int li] (fun H => RM E β μ K dp th H) (gQW (mA β) (gWi (fun r H => mPost E β μ K (kLower (mv μ) (K 1) p0 li) (up2 μ 5 (ix p0) li) (K) (r = μ 5 (ix p0)) H))) (fun _ => False) (mA β) := by
  refine gM_body hE (by decide +kernel) (Nat.le_of_ble_eq_true rfl) ?_
  intro p_ e_ s m args below meth c hC ht hr hname hP ls hl
  have hx := hC.2.2.1
  have hb := hC.2.2.2.1
  have hl : lv_has ls 4 [(0, .ref (β 19)), (1, .int p0), (2, .int li)] := hl
  have hS : va_S ((mA β)) s.heap s.heap [] := va_S.rf
  have hR : RM E β μ K dp th s.heap := hP
  obtain ⟨hK0, hK1, hK2, hSr, hHo, hTd⟩ := hI
  refine lv_aload_n hx hb dX5_lower_0 rfl (lv_at hl 0 rfl) ?_
  refine lv_iload_n hx hb dX5_lower_1 rfl (lv_at hl 1 rfl) ?_
  refine g_cWi (k2 := 0) (n2 := 0) (g_runV (rest := []) hC (c_X5_isNoPower hE (β := β) (μ := μ) (K := K) (dp := dp) (th := th) (by omega) p0) Y_X5_isNoPower k_1131 I_X5_isNoPower V_X5_isNoPower hR.obj rfl hR rfl hl.1 dX5_lower_2 ⟨Nat.le_of_ble_eq_true rfl, Nat.le_of_ble_eq_true rfl⟩ ⟨Nat.le_of_ble_eq_true rfl, Nat.le_of_ble_eq_true rfl⟩ rfl (Nat.le_of_ble_eq_true rfl)) hS (fun _ h => h) rfl rfl (fun r1_ H lo h2_ _ _ hS => ?_)
  obtain ⟨f3_, hR⟩ := h2_
  refine lv_if_ne (tgt := 35) hx hb dX5_lower_5 (by decide) (fun c4_ => ?_) (fun c4_ => ?_)
  · have q5_ := bz.t f3_ c4_
    rw [thr_1 c4_] at hR
    refine lv_iconst (v := 0) hx hb dX5_lower_35 (by decide) ?_
    exact g_iretW hC hr dX5_lower_36 hS (Nat.le_of_ble_eq_true rfl) (Nat.le_of_ble_eq_true rfl) (mPost_k 1 (by unfold kLower; rw [cif_pos (by grind)]) (by decide) rfl hR)
  · have q5_ := bz.f f3_ c4_
    rw [thr_0 c4_] at hR
    refine lv_aload_n hx hb dX5_lower_8 rfl (lv_at hl 0 rfl) ?_
    refine lv_iload_n hx hb dX5_lower_9 rfl (lv_at hl 2 rfl) ?_
    refine lv_iconst (v := 1) hx hb dX5_lower_10 (by decide) ?_
    refine lv_aload_n hx hb dX5_lower_11 rfl (lv_at hl 0 rfl) ?_
    refine g_get (v := .ref (β 5)) hC hR.obj (C := RX5) (T := TX5) (N := 26) rfl u5_in 5 (by decide) k_1001 rfl dX5_lower_12 ?_
    refine lv_iload_n hx hb dX5_lower_15 rfl (lv_at hl 1 rfl) ?_
    obtain ⟨j_p0, hj_p0, rfl⟩ := isP_of (n := K 1) (p := p0) (by first | exact Classical.not_not.mp (by assumption) | assumption) (by omega)
    have ej_p0 : (nI j_p0).toNatClampNeg = j_p0 := nI_clamp (by omega)
    have ipj_p0 : isP (K 1) (nI j_p0) := isP_nI hj_p0 (by omega)
    refine g_iald (n := 20) (f := μ 5) (j := j_p0) hC (hR.arr 5 (by decide) rfl rfl) (by omega) (by decide) dX5_lower_16 ?_
    refine g_cRi (k2 := 0) (n2 := 0) (g_runS (rest := [.ref (β 19)]) hC (c_X5_isIn hE li 1 (μ 5 j_p0)) Y_X5_isIn k_1096 S_X5_isIn trivial rfl hl.1 dX5_lower_17 ⟨Nat.le_of_ble_eq_true rfl, Nat.le_of_ble_eq_true rfl⟩ ⟨Nat.le_of_ble_eq_true rfl, Nat.le_of_ble_eq_true rfl⟩ rfl (Nat.le_of_ble_eq_true rfl)) rfl rfl g_no (fun r6_ h7_ => ?_)
    refine lv_if_ne (tgt := 27) hx hb dX5_lower_20 (by decide) (fun c8_ => ?_) (fun c8_ => ?_)
    · have q9_ := bz.t h7_ c8_
      refine lv_iconst (v := 0) hx hb dX5_lower_27 (by decide) ?_
      refine lv_iconst (v := 2) hx hb dX5_lower_28 (by decide) ?_
      refine g_cWi (k2 := 0) (n2 := 0) (g_runV (rest := []) hC (c_X5_isThrown hE (β := β) (μ := μ) (K := K) (dp := dp) (th := 0) 0 2 rfl) Y_X5_isThrown k_1084 I_X5_isThrown V_X5_isThrown hR.obj rfl hR rfl hl.1 dX5_lower_29 ⟨Nat.le_of_ble_eq_true rfl, Nat.le_of_ble_eq_true rfl⟩ ⟨Nat.le_of_ble_eq_true rfl, Nat.le_of_ble_eq_true rfl⟩ rfl (Nat.le_of_ble_eq_true rfl)) hS (fun _ h => h) rfl rfl (fun r10_ H lo h11_ _ _ hS => ?_)
      obtain ⟨rfl, hR⟩ := h11_
      have hR : RM E β μ K dp 0 H := hR
      refine lv_if_eq (tgt := 37) hx hb dX5_lower_32 (by decide) (fun c12_ => ?_) (fun c12_ => ?_)
      · refine lv_aload_n hx hb dX5_lower_37 rfl (lv_at hl 0 rfl) ?_
        refine g_get (v := .ref (β 5)) hC hR.obj (C := RX5) (T := TX5) (N := 26) rfl u5_in 5 (by decide) k_1001 rfl dX5_lower_38 ?_
        refine lv_iload_n hx hb dX5_lower_41 rfl (lv_at hl 1 rfl) ?_
        refine g_iald (n := 20) (f := μ 5) (j := j_p0) hC (hR.arr 5 (by decide) rfl rfl) (by omega) (by decide) dX5_lower_42 ?_
        refine lv_istore_n (lv' := [(3, .int (μ 5 j_p0)), (0, .ref (β 19)), (1, .int (nI j_p0)), (2, .int li)]) hx hb dX5_lower_43 rfl hl (by decide) rfl (fun ls hl => ?_)
        refine lv_aload_n hx hb dX5_lower_44 rfl (lv_at hl 1 rfl) ?_
        refine g_get (v := .ref (β 5)) hC hR.obj (C := RX5) (T := TX5) (N := 26) rfl u5_in 5 (by decide) k_1001 rfl dX5_lower_45 ?_
        refine lv_iload_n hx hb dX5_lower_48 rfl (lv_at hl 2 rfl) ?_
        refine lv_iload_n hx hb dX5_lower_49 rfl (lv_at hl 3 rfl) ?_
        refine m_iast (n := 20) (j := j_p0) 5 (by decide) rfl rfl hC hR hS (by omega) dX5_lower_50 (fun H lo hR hS => ?_)
        refine lv_iload_n hx hb dX5_lower_51 rfl (lv_at hl 0 rfl) ?_
        exact g_iretW hC hr dX5_lower_52 hS (Nat.le_of_ble_eq_true rfl) (Nat.le_of_ble_eq_true rfl) (mPost_0 (by unfold kLower; rw [cif_neg (by first | grind | (simp only [ix, ej_p0, mv, mw]; grind)), cif_neg (by first | grind | (simp only [ix, ej_p0, mv, mw]; grind))]) hR (by simp only [ix, ej_p0]) rfl (by simp only [ix, ej_p0]))
      · exact absurd (by decide) c12_
    · have q9_ := bz.f h7_ c8_
      refine lv_iconst (v := 1) hx hb dX5_lower_23 (by decide) ?_
      refine lv_goto (tgt := 28) hx hb dX5_lower_24 (by decide) ?_
      refine lv_iconst (v := 2) hx hb dX5_lower_28 (by decide) ?_
      refine g_cWi (k2 := 0) (n2 := 0) (g_runV (rest := []) hC (c_X5_isThrown hE (β := β) (μ := μ) (K := K) (dp := dp) (th := 0) 1 2 rfl) Y_X5_isThrown k_1084 I_X5_isThrown V_X5_isThrown hR.obj rfl hR rfl hl.1 dX5_lower_29 ⟨Nat.le_of_ble_eq_true rfl, Nat.le_of_ble_eq_true rfl⟩ ⟨Nat.le_of_ble_eq_true rfl, Nat.le_of_ble_eq_true rfl⟩ rfl (Nat.le_of_ble_eq_true rfl)) hS (fun _ h => h) rfl rfl (fun r13_ H lo h14_ _ _ hS => ?_)
      obtain ⟨rfl, hR⟩ := h14_
      have hR : RM E β μ K dp 2 H := hR
      refine lv_if_eq (tgt := 37) hx hb dX5_lower_32 (by decide) (fun c15_ => ?_) (fun c15_ => ?_)
      · exact absurd c15_ (by decide)
      · refine lv_iconst (v := 0) hx hb dX5_lower_35 (by decide) ?_
        exact g_iretW hC hr dX5_lower_36 hS (Nat.le_of_ble_eq_true rfl) (Nat.le_of_ble_eq_true rfl) (mPost_k 2 (by unfold kLower; rw [cif_neg (by first | grind | (simp only [ix, ej_p0, mv, mw]; grind)), cif_pos (by first | grind | (simp only [ix, ej_p0, mv, mw]; grind))]) (by decide) rfl hR)
set_option maxHeartbeats 4000000 in
set_option maxRecDepth 100000 in
theorem c_X5_source {l : Launch} {E : gV} (hE : gOK l E) {β : Nat → Nat} {μ : F2} {K : Nat → Nat} {dp th : Int32} (hI : MI μ K) (p0 : Int32) : gM l E yX5_source cX5_source 2 (some .int) ({ frames := 2, cells := 0, slots := 0, locals := 43 } : Room) [.ref (β 19), .int p0] (fun H => RM E β μ K dp th H) (gQW (mA β) (gWi (fun r H => mPost E β μ K (kPow (K 1) p0) (μ) (K) (r = μ 8 (ix p0)) H))) (fun _ => False) (mA β) := by
  refine gM_body hE (by decide +kernel) (Nat.le_of_ble_eq_true rfl) ?_
  intro p_ e_ s m args below meth c hC ht hr hname hP ls hl
  have hx := hC.2.2.1
  have hb := hC.2.2.2.1
  have hl : lv_has ls 2 [(0, .ref (β 19)), (1, .int p0)] := hl
  have hS : va_S ((mA β)) s.heap s.heap [] := va_S.rf
  have hR : RM E β μ K dp th s.heap := hP
  obtain ⟨hK0, hK1, hK2, hSr, hHo, hTd⟩ := hI
  refine lv_aload_n hx hb dX5_source_0 rfl (lv_at hl 0 rfl) ?_
  refine lv_iload_n hx hb dX5_source_1 rfl (lv_at hl 1 rfl) ?_
  refine g_cWi (k2 := 0) (n2 := 0) (g_runV (rest := []) hC (c_X5_isNoPower hE (β := β) (μ := μ) (K := K) (dp := dp) (th := th) (by omega) p0) Y_X5_isNoPower k_1131 I_X5_isNoPower V_X5_isNoPower hR.obj rfl hR rfl hl.1 dX5_source_2 ⟨Nat.le_of_ble_eq_true rfl, Nat.le_of_ble_eq_true rfl⟩ ⟨Nat.le_of_ble_eq_true rfl, Nat.le_of_ble_eq_true rfl⟩ rfl (Nat.le_of_ble_eq_true rfl)) hS (fun _ h => h) rfl rfl (fun r1_ H lo h2_ _ _ hS => ?_)
  obtain ⟨f3_, hR⟩ := h2_
  refine lv_if_eq (tgt := 12) hx hb dX5_source_5 (by decide) (fun c4_ => ?_) (fun c4_ => ?_)
  · have q5_ := bz.f f3_ c4_
    rw [thr_0 c4_] at hR
    refine lv_aload_n hx hb dX5_source_12 rfl (lv_at hl 0 rfl) ?_
    refine g_get (v := .ref (β 8)) hC hR.obj (C := RX5) (T := TX5) (N := 26) rfl u5_in 8 (by decide) k_1004 rfl dX5_source_13 ?_
    refine lv_iload_n hx hb dX5_source_16 rfl (lv_at hl 1 rfl) ?_
    obtain ⟨j_p0, hj_p0, rfl⟩ := isP_of (n := K 1) (p := p0) (by first | exact Classical.not_not.mp (by assumption) | assumption) (by omega)
    have ej_p0 : (nI j_p0).toNatClampNeg = j_p0 := nI_clamp (by omega)
    have ipj_p0 : isP (K 1) (nI j_p0) := isP_nI hj_p0 (by omega)
    refine g_iald (n := 20) (f := μ 8) (j := j_p0) hC (hR.arr 8 (by decide) rfl rfl) (by omega) (by decide) dX5_source_17 ?_
    exact g_iretW hC hr dX5_source_18 hS (Nat.le_of_ble_eq_true rfl) (Nat.le_of_ble_eq_true rfl) (mPost_0 (by unfold kPow; rw [cif_neg (by first | grind | (simp only [ix, ej_p0, mv, mw]; grind))]) hR rfl rfl (by simp only [ix, ej_p0]))
  · have q5_ := bz.t f3_ c4_
    rw [thr_1 c4_] at hR
    refine lv_iconst (v := 0) hx hb dX5_source_8 (by decide) ?_
    refine lv_goto (tgt := 18) hx hb dX5_source_9 (by decide) ?_
    exact g_iretW hC hr dX5_source_18 hS (Nat.le_of_ble_eq_true rfl) (Nat.le_of_ble_eq_true rfl) (mPost_k 1 (by unfold kPow; rw [cif_pos (by grind)]) (by decide) rfl hR)
set_option maxHeartbeats 4000000 in
set_option maxRecDepth 100000 in
theorem c_X5_limit {l : Launch} {E : gV} (hE : gOK l E) {β : Nat → Nat} {μ : F2} {K : Nat → Nat} {dp th : Int32} (hI : MI μ K) (p0 : Int32) : gM l E yX5_limit cX5_limit 2 (some .int) ({ frames := 2, cells := 0, slots := 0, locals := 43 } : Room) [.ref (β 19), .int p0] (fun H => RM E β μ K dp th H) (gQW (mA β) (gWi (fun r H => mPost E β μ K (kPow (K 1) p0) (μ) (K) (r = μ 5 (ix p0)) H))) (fun _ => False) (mA β) := by
  refine gM_body hE (by decide +kernel) (Nat.le_of_ble_eq_true rfl) ?_
  intro p_ e_ s m args below meth c hC ht hr hname hP ls hl
  have hx := hC.2.2.1
  have hb := hC.2.2.2.1
  have hl : lv_has ls 2 [(0, .ref (β 19)), (1, .int p0)] := hl
  have hS : va_S ((mA β)) s.heap s.heap [] := va_S.rf
  have hR : RM E β μ K dp th s.heap := hP
  obtain ⟨hK0, hK1, hK2, hSr, hHo, hTd⟩ := hI
  refine lv_aload_n hx hb dX5_limit_0 rfl (lv_at hl 0 rfl) ?_
  refine lv_iload_n hx hb dX5_limit_1 rfl (lv_at hl 1 rfl) ?_
  refine g_cWi (k2 := 0) (n2 := 0) (g_runV (rest := []) hC (c_X5_isNoPower hE (β := β) (μ := μ) (K := K) (dp := dp) (th := th) (by omega) p0) Y_X5_isNoPower k_1131 I_X5_isNoPower V_X5_isNoPower hR.obj rfl hR rfl hl.1 dX5_limit_2 ⟨Nat.le_of_ble_eq_true rfl, Nat.le_of_ble_eq_true rfl⟩ ⟨Nat.le_of_ble_eq_true rfl, Nat.le_of_ble_eq_true rfl⟩ rfl (Nat.le_of_ble_eq_true rfl)) hS (fun _ h => h) rfl rfl (fun r1_ H lo h2_ _ _ hS => ?_)
  obtain ⟨f3_, hR⟩ := h2_
  refine lv_if_eq (tgt := 12) hx hb dX5_limit_5 (by decide) (fun c4_ => ?_) (fun c4_ => ?_)
  · have q5_ := bz.f f3_ c4_
    rw [thr_0 c4_] at hR
    refine lv_aload_n hx hb dX5_limit_12 rfl (lv_at hl 0 rfl) ?_
    refine g_get (v := .ref (β 5)) hC hR.obj (C := RX5) (T := TX5) (N := 26) rfl u5_in 5 (by decide) k_1001 rfl dX5_limit_13 ?_
    refine lv_iload_n hx hb dX5_limit_16 rfl (lv_at hl 1 rfl) ?_
    obtain ⟨j_p0, hj_p0, rfl⟩ := isP_of (n := K 1) (p := p0) (by first | exact Classical.not_not.mp (by assumption) | assumption) (by omega)
    have ej_p0 : (nI j_p0).toNatClampNeg = j_p0 := nI_clamp (by omega)
    have ipj_p0 : isP (K 1) (nI j_p0) := isP_nI hj_p0 (by omega)
    refine g_iald (n := 20) (f := μ 5) (j := j_p0) hC (hR.arr 5 (by decide) rfl rfl) (by omega) (by decide) dX5_limit_17 ?_
    exact g_iretW hC hr dX5_limit_18 hS (Nat.le_of_ble_eq_true rfl) (Nat.le_of_ble_eq_true rfl) (mPost_0 (by unfold kPow; rw [cif_neg (by first | grind | (simp only [ix, ej_p0, mv, mw]; grind))]) hR rfl rfl (by simp only [ix, ej_p0]))
  · have q5_ := bz.t f3_ c4_
    rw [thr_1 c4_] at hR
    refine lv_iconst (v := 0) hx hb dX5_limit_8 (by decide) ?_
    refine lv_goto (tgt := 18) hx hb dX5_limit_9 (by decide) ?_
    exact g_iretW hC hr dX5_limit_18 hS (Nat.le_of_ble_eq_true rfl) (Nat.le_of_ble_eq_true rfl) (mPost_k 1 (by unfold kPow; rw [cif_pos (by grind)]) (by decide) rfl hR)
set_option maxHeartbeats 4000000 in
set_option maxRecDepth 100000 in
theorem c_X5_revoke {l : Launch} {E : gV} (hE : gOK l E) {β : Nat → Nat} {μ : F2} {K : Nat → Nat} {dp th : Int32} (hI : MI μ K) (p0 : Int32) (hb1 : ∀ i, narrow .boolean (.int (μ 1 i)) = .int (μ 1 i)) : gM l E yX5_revoke cX5_revoke 4 (some .int) ({ frames := 21, cells := 0, slots := 0, locals := 462 } : Room) [.ref (β 19), .int p0] (fun H => RM E β μ K dp th H) (gQW (mA β) (gWi (fun r H => mPost E β μ K (kRevoke (mv μ) (K 1) p0) (up2 μ 1 (ix p0) 1) (K) (r = nI (fCnt (fun t => fCome (mv μ) t (ix p0)) (K 1))) H))) (fun _ => False) (mA β) := by
  refine gM_body hE (by decide +kernel) (Nat.le_of_ble_eq_true rfl) ?_
  intro p_ e_ s m args below meth c hC ht hr hname hP ls hl
  have hx := hC.2.2.1
  have hb := hC.2.2.2.1
  have hl : lv_has ls 4 [(0, .ref (β 19)), (1, .int p0)] := hl
  have hS : va_S ((mA β)) s.heap s.heap [] := va_S.rf
  have hR : RM E β μ K dp th s.heap := hP
  obtain ⟨hK0, hK1, hK2, hSr, hHo, hTd⟩ := hI
  refine lv_aload_n hx hb dX5_revoke_0 rfl (lv_at hl 0 rfl) ?_
  refine lv_iload_n hx hb dX5_revoke_1 rfl (lv_at hl 1 rfl) ?_
  refine g_cWi (k2 := 0) (n2 := 0) (g_runV (rest := []) hC (c_X5_isNoPower hE (β := β) (μ := μ) (K := K) (dp := dp) (th := th) (by omega) p0) Y_X5_isNoPower k_1131 I_X5_isNoPower V_X5_isNoPower hR.obj rfl hR rfl hl.1 dX5_revoke_2 ⟨Nat.le_of_ble_eq_true rfl, Nat.le_of_ble_eq_true rfl⟩ ⟨Nat.le_of_ble_eq_true rfl, Nat.le_of_ble_eq_true rfl⟩ rfl (Nat.le_of_ble_eq_true rfl)) hS (fun _ h => h) rfl rfl (fun r1_ H lo h2_ _ _ hS => ?_)
  obtain ⟨f3_, hR⟩ := h2_
  refine lv_if_ne (tgt := 22) hx hb dX5_revoke_5 (by decide) (fun c4_ => ?_) (fun c4_ => ?_)
  · have q5_ := bz.t f3_ c4_
    rw [thr_1 c4_] at hR
    refine lv_iconst (v := 0) hx hb dX5_revoke_22 (by decide) ?_
    exact g_iretW hC hr dX5_revoke_23 hS (Nat.le_of_ble_eq_true rfl) (Nat.le_of_ble_eq_true rfl) (mPost_k 1 (by unfold kRevoke; rw [cif_pos (by grind)]) (by decide) rfl hR)
  · have q5_ := bz.f f3_ c4_
    rw [thr_0 c4_] at hR
    refine lv_aload_n hx hb dX5_revoke_8 rfl (lv_at hl 0 rfl) ?_
    refine lv_aload_n hx hb dX5_revoke_9 rfl (lv_at hl 0 rfl) ?_
    refine g_get (v := .ref (β 1)) hC hR.obj (C := RX5) (T := TX5) (N := 26) rfl u5_in 1 (by decide) k_997 rfl dX5_revoke_10 ?_
    refine lv_iload_n hx hb dX5_revoke_13 rfl (lv_at hl 1 rfl) ?_
    obtain ⟨j_p0, hj_p0, rfl⟩ := isP_of (n := K 1) (p := p0) (by first | exact Classical.not_not.mp (by assumption) | assumption) (by omega)
    have ej_p0 : (nI j_p0).toNatClampNeg = j_p0 := nI_clamp (by omega)
    have ipj_p0 : isP (K 1) (nI j_p0) := isP_nI hj_p0 (by omega)
    refine g_zald (n := 20) (f := μ 1) (j := j_p0) hC (hR.arr 1 (by decide) rfl rfl) (by omega) (by decide) dX5_revoke_14 ?_
    refine lv_iconst (v := 2) hx hb dX5_revoke_15 (by decide) ?_
    refine g_cWi (k2 := 0) (n2 := 0) (g_runV (rest := []) hC (c_X5_isThrown hE (β := β) (μ := μ) (K := K) (dp := dp) (th := 0) (μ 1 j_p0) 2 (by first | assumption | exact hb1 _)) Y_X5_isThrown k_1084 I_X5_isThrown V_X5_isThrown hR.obj rfl hR rfl hl.1 dX5_revoke_16 ⟨Nat.le_of_ble_eq_true rfl, Nat.le_of_ble_eq_true rfl⟩ ⟨Nat.le_of_ble_eq_true rfl, Nat.le_of_ble_eq_true rfl⟩ rfl (Nat.le_of_ble_eq_true rfl)) hS (fun _ h => h) rfl rfl (fun r6_ H lo h7_ _ _ hS => ?_)
    obtain ⟨rfl, hR⟩ := h7_
    refine lv_if_eq (tgt := 24) hx hb dX5_revoke_19 (by decide) (fun c8_ => ?_) (fun c8_ => ?_)
    · rw [thr_0 c8_] at hR
      refine lv_aload_n hx hb dX5_revoke_24 rfl (lv_at hl 0 rfl) ?_
      refine g_get (v := .ref (β 1)) hC hR.obj (C := RX5) (T := TX5) (N := 26) rfl u5_in 1 (by decide) k_997 rfl dX5_revoke_25 ?_
      refine lv_iload_n hx hb dX5_revoke_28 rfl (lv_at hl 1 rfl) ?_
      refine lv_iconst (v := 1) hx hb dX5_revoke_29 (by decide) ?_
      refine m_zast (n := 20) (j := j_p0) 1 (by decide) rfl rfl hC hR hS (by omega) rfl dX5_revoke_30 (fun H lo hR hS => ?_)
      refine lv_iconst (v := 0) hx hb dX5_revoke_31 (by decide) ?_
      refine lv_istore_n (lv' := [(2, .int 0), (0, .ref (β 19)), (1, .int (nI j_p0))]) hx hb dX5_revoke_32 rfl hl (by decide) rfl (fun ls hl => ?_)
      refine lv_iconst (v := 0) hx hb dX5_revoke_33 (by decide) ?_
      refine lv_istore_n (lv' := [(3, .int 0), (2, .int 0), (0, .ref (β 19)), (1, .int (nI j_p0))]) hx hb dX5_revoke_34 rfl hl (by decide) rfl (fun ls hl => ?_)
      have loop : ∀ (n_ : Nat) (q : Nat) (r : Int32) (H : Heap) (lo : List Loc) (ls : Array Slot), K 1 - q < n_ → (q ≤ K 1) → (r = nI (fCnt (fun t => fCome (mv (up2 μ 1 j_p0 1)) t j_p0) q)) → RM E β (up2 μ 1 j_p0 1) K dp 0 H → va_S ((mA β)) s.heap H lo → lv_has ls 4 [(0, .ref (β 19)), (1, .int (nI j_p0)), (2, .int r), (3, .int (nI q))] → W p_ l e_ ({ frames := 21, cells := 0, slots := 0, locals := 462 } : Room) s m args below meth c H lo 0 0 (vx_MQ below (gQW (mA β) (gWi (fun r H => mPost E β μ K (kRevoke (mv μ) (K 1) (nI j_p0)) (up2 μ 1 (ix (nI j_p0)) 1) (K) (r = nI (fCnt (fun t => fCome (mv μ) t (ix (nI j_p0))) (K 1))) H))) (gX (fun _ => False)) args s 0 0 (mA β)) (F0 m 35 ls []) := by
        intro n_
        induction n_ with
        | zero => intro q r H lo ls h_; exact absurd h_ (Nat.not_lt_zero _)
        | succ n_ ih_loop =>
          intro q r H lo ls hn_ i1 i2 hR hS hl
          refine lv_iload_n hx hb dX5_revoke_35 rfl (lv_at hl 3 rfl) ?_
          refine lv_aload_n hx hb dX5_revoke_36 rfl (lv_at hl 0 rfl) ?_
          refine g_get (v := .int (nI (K 1))) hC hR.obj (C := RX5) (T := TX5) (N := 26) rfl u5_in 20 (by decide) k_1016 rfl dX5_revoke_37 ?_
          refine lv_icmp_ge (tgt := 66) hx hb dX5_revoke_40 (by decide) (fun c10_ => ?_) (fun c10_ => ?_)
          · have n11_ : (K 1) ≤ q := le_nI (by omega) (by omega) c10_
            refine lv_iload_n hx hb dX5_revoke_66 rfl (lv_at hl 2 rfl) ?_
            exact g_iretW hC hr dX5_revoke_67 hS (Nat.le_of_ble_eq_true rfl) (Nat.le_of_ble_eq_true rfl) (mPost_0 (by unfold kRevoke; rw [cif_neg (by first | grind | (simp only [ix, ej_p0, mv, mw]; grind)), cif_neg (by first | grind | (simp only [ix, ej_p0, mv, mw]; grind))]) hR (by simp only [ix, ej_p0]) rfl (by rw [i2, show q = K 1 by omega]; simp only [ix, ej_p0]; exact congrArg nI (fCnt_congr (fun t _ => fCome_congr (v := mv (up2 μ 1 j_p0 1)) (v' := mv μ) (fun _ => rfl) t _))))
          · have n11_ : q < (K 1) := not_le_nI (by omega) (by omega) c10_
            refine lv_iload_n hx hb dX5_revoke_43 rfl (lv_at hl 2 rfl) ?_
            refine lv_aload_n hx hb dX5_revoke_44 rfl (lv_at hl 0 rfl) ?_
            refine lv_iload_n hx hb dX5_revoke_45 rfl (lv_at hl 3 rfl) ?_
            refine lv_iload_n hx hb dX5_revoke_46 rfl (lv_at hl 1 rfl) ?_
            refine g_cRi (k2 := 0) (n2 := 0) (g_runV (rest := [.int r]) hC (c_X5_comesFrom hE (β := β) (μ := (up2 μ 1 j_p0 1)) (K := K) (dp := dp) (th := 0) ⟨hK0, hK1, hK2, hSr, hHo, hTd⟩ j_p0 (by omega) q (by omega)) Y_X5_comesFrom k_1139 I_X5_comesFrom V_X5_comesFrom hR.obj rfl hR rfl hl.1 dX5_revoke_47 ⟨by dsimp only; omega, by dsimp only; omega⟩ ⟨Nat.le_of_ble_eq_true rfl, Nat.le_of_ble_eq_true rfl⟩ rfl (Nat.le_of_ble_eq_true rfl)) rfl rfl g_no (fun r12_ h13_ => ?_)
            refine lv_if_eq (tgt := 57) hx hb dX5_revoke_50 (by decide) (fun c14_ => ?_) (fun c14_ => ?_)
            · have q15_ := bz.f h13_ c14_
              refine lv_iconst (v := 0) hx hb dX5_revoke_57 (by decide) ?_
              refine lv_iadd hx hb dX5_revoke_58 ?_
              refine lv_istore_n (lv' := [(2, .int (r + 0)), (0, .ref (β 19)), (1, .int (nI j_p0)), (3, .int (nI q))]) hx hb dX5_revoke_59 rfl hl (by decide) rfl (fun ls hl => ?_)
              refine lv_iinc (v := nI (q + 1)) (lv' := [(3, .int (nI (q + 1))), (2, .int (r + 0)), (0, .ref (β 19)), (1, .int (nI j_p0))]) hx hb dX5_revoke_60 hl (k := 3) rfl (g_inc _) (by decide) rfl (fun ls hl => ?_)
              refine lv_goto (tgt := 35) hx hb dX5_revoke_63 (by decide) ?_
              exact ih_loop (q + 1) (r + 0) H lo ls (by omega) (by omega) (by rw [i2]; exact nI_cnt_f (by assumption)) hR hS (lv_sub hl [2, 3, 1, 0] rfl)
            · have q15_ := bz.t h13_ c14_
              refine lv_iconst (v := 1) hx hb dX5_revoke_53 (by decide) ?_
              refine lv_goto (tgt := 58) hx hb dX5_revoke_54 (by decide) ?_
              refine lv_iadd hx hb dX5_revoke_58 ?_
              refine lv_istore_n (lv' := [(2, .int (r + 1)), (0, .ref (β 19)), (1, .int (nI j_p0)), (3, .int (nI q))]) hx hb dX5_revoke_59 rfl hl (by decide) rfl (fun ls hl => ?_)
              refine lv_iinc (v := nI (q + 1)) (lv' := [(3, .int (nI (q + 1))), (2, .int (r + 1)), (0, .ref (β 19)), (1, .int (nI j_p0))]) hx hb dX5_revoke_60 hl (k := 3) rfl (g_inc _) (by decide) rfl (fun ls hl => ?_)
              refine lv_goto (tgt := 35) hx hb dX5_revoke_63 (by decide) ?_
              exact ih_loop (q + 1) (r + 1) H lo ls (by omega) (by omega) (by rw [i2]; exact nI_cnt_t (by assumption)) hR hS (lv_sub hl [2, 3, 1, 0] rfl)
      exact loop ((K 1 - (0)) + 1) 0 0 H lo ls (by omega) (by omega) rfl hR hS (lv_sub hl [2, 3, 1, 0] rfl)
    · rw [thr_1 c8_] at hR
      refine lv_iconst (v := 0) hx hb dX5_revoke_22 (by decide) ?_
      exact g_iretW hC hr dX5_revoke_23 hS (Nat.le_of_ble_eq_true rfl) (Nat.le_of_ble_eq_true rfl) (mPost_k 2 (by unfold kRevoke; rw [cif_neg (by first | grind | (simp only [ix, ej_p0, mv, mw]; grind)), cif_pos (by first | grind | (simp only [ix, ej_p0, mv, mw]; grind))]) (by decide) rfl hR)
set_option maxHeartbeats 4000000 in
set_option maxRecDepth 100000 in
theorem c_X5_fault {l : Launch} {E : gV} (hE : gOK l E) {β : Nat → Nat} {μ : F2} {K : Nat → Nat} {dp th : Int32} (hI : MI μ K) (p0 : Int32) (s0 : Int32) : gM l E yX5_fault cX5_fault 3 (some .char) ({ frames := 21, cells := 0, slots := 0, locals := 483 } : Room) [.ref (β 19), .int p0, .int s0] (fun H => RM E β μ K dp th H) (gQW (mA β) (gWi (fun r H => mPost E β μ K (kFault (K 1) p0 s0) (μ) (K) (r = fl (mv μ) (μ 22 0) s0 (ix p0)) H))) (fun _ => False) (mA β) := by
  refine gM_body hE (by decide +kernel) (Nat.le_of_ble_eq_true rfl) ?_
  intro p_ e_ s m args below meth c hC ht hr hname hP ls hl
  have hx := hC.2.2.1
  have hb := hC.2.2.2.1
  have hl : lv_has ls 3 [(0, .ref (β 19)), (1, .int p0), (2, .int s0)] := hl
  have hS : va_S ((mA β)) s.heap s.heap [] := va_S.rf
  have hR : RM E β μ K dp th s.heap := hP
  obtain ⟨hK0, hK1, hK2, hSr, hHo, hTd⟩ := hI
  refine lv_aload_n hx hb dX5_fault_0 rfl (lv_at hl 0 rfl) ?_
  refine lv_iload_n hx hb dX5_fault_1 rfl (lv_at hl 1 rfl) ?_
  refine g_cWi (k2 := 0) (n2 := 0) (g_runV (rest := []) hC (c_X5_isNoPower hE (β := β) (μ := μ) (K := K) (dp := dp) (th := th) (by omega) p0) Y_X5_isNoPower k_1131 I_X5_isNoPower V_X5_isNoPower hR.obj rfl hR rfl hl.1 dX5_fault_2 ⟨Nat.le_of_ble_eq_true rfl, Nat.le_of_ble_eq_true rfl⟩ ⟨Nat.le_of_ble_eq_true rfl, Nat.le_of_ble_eq_true rfl⟩ rfl (Nat.le_of_ble_eq_true rfl)) hS (fun _ h => h) rfl rfl (fun r1_ H lo h2_ _ _ hS => ?_)
  obtain ⟨f3_, hR⟩ := h2_
  refine lv_if_ne (tgt := 17) hx hb dX5_fault_5 (by decide) (fun c4_ => ?_) (fun c4_ => ?_)
  · have q5_ := bz.t f3_ c4_
    rw [thr_1 c4_] at hR
    refine lv_bipush (v := 45) hx hb dX5_fault_17 (by decide) ?_
    refine lv_goto (tgt := 28) hx hb dX5_fault_19 (by decide) ?_
    exact g_zretW hC hr rfl dX5_fault_28 hS (Nat.le_of_ble_eq_true rfl) (Nat.le_of_ble_eq_true rfl) (mPost_k 1 (by unfold kFault; rw [cif_pos (by grind)]) (by decide) rfl hR)
  · have q5_ := bz.f f3_ c4_
    rw [thr_0 c4_] at hR
    refine lv_aload_n hx hb dX5_fault_8 rfl (lv_at hl 0 rfl) ?_
    refine lv_iload_n hx hb dX5_fault_9 rfl (lv_at hl 2 rfl) ?_
    refine lv_iconst (v := 2) hx hb dX5_fault_10 (by decide) ?_
    refine g_cWi (k2 := 0) (n2 := 0) (g_runV (rest := []) hC (c_X5_isNoSum hE (β := β) (μ := μ) (K := K) (dp := dp) (th := 0) s0 2) Y_X5_isNoSum k_1155 I_X5_isNoSum V_X5_isNoSum hR.obj rfl hR rfl hl.1 dX5_fault_11 ⟨Nat.le_of_ble_eq_true rfl, Nat.le_of_ble_eq_true rfl⟩ ⟨Nat.le_of_ble_eq_true rfl, Nat.le_of_ble_eq_true rfl⟩ rfl (Nat.le_of_ble_eq_true rfl)) hS (fun _ h => h) rfl rfl (fun r6_ H lo h7_ _ _ hS => ?_)
    obtain ⟨f8_, hR⟩ := h7_
    refine lv_if_eq (tgt := 22) hx hb dX5_fault_14 (by decide) (fun c9_ => ?_) (fun c9_ => ?_)
    · have q10_ := bz.f f8_ c9_
      rw [thr_0 c9_] at hR
      refine lv_aload_n hx hb dX5_fault_22 rfl (lv_at hl 0 rfl) ?_
      refine lv_iload_n hx hb dX5_fault_23 rfl (lv_at hl 1 rfl) ?_
      refine lv_iload_n hx hb dX5_fault_24 rfl (lv_at hl 2 rfl) ?_
      obtain ⟨j_p0, hj_p0, rfl⟩ := isP_of (n := K 1) (p := p0) (by first | exact Classical.not_not.mp (by assumption) | assumption) (by omega)
      have ej_p0 : (nI j_p0).toNatClampNeg = j_p0 := nI_clamp (by omega)
      have ipj_p0 : isP (K 1) (nI j_p0) := isP_nI hj_p0 (by omega)
      refine g_cWi (k2 := 0) (n2 := 0) (g_runV (rest := []) hC (c_X5_faulty hE (μ := μ) (K := K) ⟨hK0, hK1, hK2, hSr, hHo, hTd⟩ s0 j_p0 _ (by omega)) Y_X5_faulty k_1159 I_X5_faulty V_X5_faulty hR.obj rfl hR rfl hl.1 dX5_fault_25 ⟨by dsimp only; omega, by dsimp only; omega⟩ ⟨Nat.le_of_ble_eq_true rfl, Nat.le_of_ble_eq_true rfl⟩ rfl (Nat.le_of_ble_eq_true rfl)) hS (fun _ h => h) rfl rfl (fun r11_ H lo h12_ _ _ hS => ?_)
      obtain ⟨ef13_, hR⟩ := h12_
      exact g_zretW hC hr (by rw [ef13_]; exact fl_nar _ _ _ _) dX5_fault_28 hS (Nat.le_of_ble_eq_true rfl) (Nat.le_of_ble_eq_true rfl) (mPost_0 (by unfold kFault; rw [cif_neg (by first | grind | (simp only [ix, ej_p0, mv, mw]; grind)), cif_neg (by first | grind | (simp only [ix, ej_p0, mv, mw]; grind))]) hR rfl rfl (by simp only [ix, ej_p0]; assumption))
    · have q10_ := bz.t f8_ c9_
      rw [thr_1 c9_] at hR
      refine lv_bipush (v := 45) hx hb dX5_fault_17 (by decide) ?_
      refine lv_goto (tgt := 28) hx hb dX5_fault_19 (by decide) ?_
      exact g_zretW hC hr rfl dX5_fault_28 hS (Nat.le_of_ble_eq_true rfl) (Nat.le_of_ble_eq_true rfl) (mPost_k 2 (by unfold kFault; rw [cif_neg (by grind), cif_pos (by grind)]) (by decide) rfl hR)
set_option maxHeartbeats 4000000 in
set_option maxRecDepth 100000 in
theorem c_X5_faultDepth {l : Launch} {E : gV} (hE : gOK l E) {β : Nat → Nat} {μ : F2} {K : Nat → Nat} {dp th : Int32} (hI : MI μ K) (p0 : Int32) (s0 : Int32) : gM l E yX5_faultDepth cX5_faultDepth 3 (some .int) ({ frames := 21, cells := 0, slots := 0, locals := 483 } : Room) [.ref (β 19), .int p0, .int s0] (fun H => RM E β μ K dp th H) (gQW (mA β) (gWi (fun r H => mPost E β μ K (kDepth (mv μ) (μ 22 0) (K 1) p0 s0) (μ) (K) (r = nI (dpt (mv μ) (μ 22 0) s0 (ix p0))) H))) (fun _ => False) (mA β) := by
  refine gM_body hE (by decide +kernel) (Nat.le_of_ble_eq_true rfl) ?_
  intro p_ e_ s m args below meth c hC ht hr hname hP ls hl
  have hx := hC.2.2.1
  have hb := hC.2.2.2.1
  have hl : lv_has ls 3 [(0, .ref (β 19)), (1, .int p0), (2, .int s0)] := hl
  have hS : va_S ((mA β)) s.heap s.heap [] := va_S.rf
  have hR : RM E β μ K dp th s.heap := hP
  obtain ⟨hK0, hK1, hK2, hSr, hHo, hTd⟩ := hI
  refine lv_aload_n hx hb dX5_faultDepth_0 rfl (lv_at hl 0 rfl) ?_
  refine lv_iload_n hx hb dX5_faultDepth_1 rfl (lv_at hl 1 rfl) ?_
  refine g_cWi (k2 := 0) (n2 := 0) (g_runV (rest := []) hC (c_X5_isNoPower hE (β := β) (μ := μ) (K := K) (dp := dp) (th := th) (by omega) p0) Y_X5_isNoPower k_1131 I_X5_isNoPower V_X5_isNoPower hR.obj rfl hR rfl hl.1 dX5_faultDepth_2 ⟨Nat.le_of_ble_eq_true rfl, Nat.le_of_ble_eq_true rfl⟩ ⟨Nat.le_of_ble_eq_true rfl, Nat.le_of_ble_eq_true rfl⟩ rfl (Nat.le_of_ble_eq_true rfl)) hS (fun _ h => h) rfl rfl (fun r1_ H lo h2_ _ _ hS => ?_)
  obtain ⟨f3_, hR⟩ := h2_
  refine lv_if_ne (tgt := 17) hx hb dX5_faultDepth_5 (by decide) (fun c4_ => ?_) (fun c4_ => ?_)
  · have q5_ := bz.t f3_ c4_
    rw [thr_1 c4_] at hR
    refine lv_iconst (v := 0) hx hb dX5_faultDepth_17 (by decide) ?_
    exact g_iretW hC hr dX5_faultDepth_18 hS (Nat.le_of_ble_eq_true rfl) (Nat.le_of_ble_eq_true rfl) (mPost_k 1 (by unfold kDepth; rw [cif_pos (by grind)]) (by decide) rfl hR)
  · have q5_ := bz.f f3_ c4_
    rw [thr_0 c4_] at hR
    refine lv_aload_n hx hb dX5_faultDepth_8 rfl (lv_at hl 0 rfl) ?_
    refine lv_iload_n hx hb dX5_faultDepth_9 rfl (lv_at hl 2 rfl) ?_
    refine lv_iconst (v := 2) hx hb dX5_faultDepth_10 (by decide) ?_
    refine g_cWi (k2 := 0) (n2 := 0) (g_runV (rest := []) hC (c_X5_isNoSum hE (β := β) (μ := μ) (K := K) (dp := dp) (th := 0) s0 2) Y_X5_isNoSum k_1155 I_X5_isNoSum V_X5_isNoSum hR.obj rfl hR rfl hl.1 dX5_faultDepth_11 ⟨Nat.le_of_ble_eq_true rfl, Nat.le_of_ble_eq_true rfl⟩ ⟨Nat.le_of_ble_eq_true rfl, Nat.le_of_ble_eq_true rfl⟩ rfl (Nat.le_of_ble_eq_true rfl)) hS (fun _ h => h) rfl rfl (fun r6_ H lo h7_ _ _ hS => ?_)
    obtain ⟨f8_, hR⟩ := h7_
    refine lv_if_eq (tgt := 19) hx hb dX5_faultDepth_14 (by decide) (fun c9_ => ?_) (fun c9_ => ?_)
    · have q10_ := bz.f f8_ c9_
      rw [thr_0 c9_] at hR
      refine lv_aload_n hx hb dX5_faultDepth_19 rfl (lv_at hl 0 rfl) ?_
      refine lv_aload_n hx hb dX5_faultDepth_20 rfl (lv_at hl 0 rfl) ?_
      refine lv_iload_n hx hb dX5_faultDepth_21 rfl (lv_at hl 1 rfl) ?_
      refine lv_iload_n hx hb dX5_faultDepth_22 rfl (lv_at hl 2 rfl) ?_
      obtain ⟨j_p0, hj_p0, rfl⟩ := isP_of (n := K 1) (p := p0) (by first | exact Classical.not_not.mp (by assumption) | assumption) (by omega)
      have ej_p0 : (nI j_p0).toNatClampNeg = j_p0 := nI_clamp (by omega)
      have ipj_p0 : isP (K 1) (nI j_p0) := isP_nI hj_p0 (by omega)
      refine g_cWi (k2 := 0) (n2 := 0) (g_runV (rest := [.ref (β 19)]) hC (c_X5_faulty hE (μ := μ) (K := K) ⟨hK0, hK1, hK2, hSr, hHo, hTd⟩ s0 j_p0 _ (by omega)) Y_X5_faulty k_1159 I_X5_faulty V_X5_faulty hR.obj rfl hR rfl hl.1 dX5_faultDepth_23 ⟨by dsimp only; omega, by dsimp only; omega⟩ ⟨Nat.le_of_ble_eq_true rfl, Nat.le_of_ble_eq_true rfl⟩ rfl (Nat.le_of_ble_eq_true rfl)) hS (fun _ h => h) rfl rfl (fun r11_ H lo h12_ _ _ hS => ?_)
      obtain ⟨ef13_, hR⟩ := h12_
      refine lv_bipush (v := 45) hx hb dX5_faultDepth_26 (by decide) ?_
      refine lv_icmp_ne (tgt := 35) hx hb dX5_faultDepth_28 (by decide) (fun c14_ => ?_) (fun c14_ => ?_)
      · refine lv_iconst (v := 0) hx hb dX5_faultDepth_35 (by decide) ?_
        refine lv_iconst (v := 3) hx hb dX5_faultDepth_36 (by decide) ?_
        refine g_cWi (k2 := 0) (n2 := 0) (g_runV (rest := []) hC (c_X5_isThrown hE (β := β) (μ := μ) (K := K) (dp := nI (dpt (mv μ) (μ 22 0) s0 j_p0)) (th := 0) 0 3 rfl) Y_X5_isThrown k_1084 I_X5_isThrown V_X5_isThrown hR.obj rfl hR rfl hl.1 dX5_faultDepth_37 ⟨Nat.le_of_ble_eq_true rfl, Nat.le_of_ble_eq_true rfl⟩ ⟨Nat.le_of_ble_eq_true rfl, Nat.le_of_ble_eq_true rfl⟩ rfl (Nat.le_of_ble_eq_true rfl)) hS (fun _ h => h) rfl rfl (fun r15_ H lo h16_ _ _ hS => ?_)
        obtain ⟨rfl, hR⟩ := h16_
        have hR : RM E β μ K (nI (dpt (mv μ) (μ 22 0) s0 j_p0)) 0 H := hR
        refine lv_if_eq (tgt := 47) hx hb dX5_faultDepth_40 (by decide) (fun c17_ => ?_) (fun c17_ => ?_)
        · refine lv_aload_n hx hb dX5_faultDepth_47 rfl (lv_at hl 0 rfl) ?_
          refine g_get (v := .int (nI (dpt (mv μ) (μ 22 0) s0 j_p0))) hC hR.obj (C := RX5) (T := TX5) (N := 26) rfl u5_in 24 (by decide) k_1020 rfl dX5_faultDepth_48 ?_
          exact g_iretW hC hr dX5_faultDepth_51 hS (Nat.le_of_ble_eq_true rfl) (Nat.le_of_ble_eq_true rfl) (mPost_0 (by unfold kDepth; rw [cif_neg (by first | grind | (simp only [ix, ej_p0, mv, mw]; grind)), cif_neg (by first | grind | (simp only [ix, ej_p0, mv, mw]; grind)), cif_neg (by first | grind | (simp only [ix, ej_p0, mv, mw]; grind))]) hR rfl rfl (by simp only [ix, ej_p0]))
        · exact absurd (by decide) c17_
      · refine lv_iconst (v := 1) hx hb dX5_faultDepth_31 (by decide) ?_
        refine lv_goto (tgt := 36) hx hb dX5_faultDepth_32 (by decide) ?_
        refine lv_iconst (v := 3) hx hb dX5_faultDepth_36 (by decide) ?_
        refine g_cWi (k2 := 0) (n2 := 0) (g_runV (rest := []) hC (c_X5_isThrown hE (β := β) (μ := μ) (K := K) (dp := nI (dpt (mv μ) (μ 22 0) s0 j_p0)) (th := 0) 1 3 rfl) Y_X5_isThrown k_1084 I_X5_isThrown V_X5_isThrown hR.obj rfl hR rfl hl.1 dX5_faultDepth_37 ⟨Nat.le_of_ble_eq_true rfl, Nat.le_of_ble_eq_true rfl⟩ ⟨Nat.le_of_ble_eq_true rfl, Nat.le_of_ble_eq_true rfl⟩ rfl (Nat.le_of_ble_eq_true rfl)) hS (fun _ h => h) rfl rfl (fun r18_ H lo h19_ _ _ hS => ?_)
        obtain ⟨rfl, hR⟩ := h19_
        have hR : RM E β μ K (nI (dpt (mv μ) (μ 22 0) s0 j_p0)) 3 H := hR
        refine lv_if_eq (tgt := 47) hx hb dX5_faultDepth_40 (by decide) (fun c20_ => ?_) (fun c20_ => ?_)
        · exact absurd c20_ (by decide)
        · refine lv_iconst (v := 0) hx hb dX5_faultDepth_43 (by decide) ?_
          refine lv_goto (tgt := 51) hx hb dX5_faultDepth_44 (by decide) ?_
          exact g_iretW hC hr dX5_faultDepth_51 hS (Nat.le_of_ble_eq_true rfl) (Nat.le_of_ble_eq_true rfl) (mPost_k 3 (by unfold kDepth; rw [cif_neg (by first | grind | (simp only [ix, ej_p0, mv, mw]; grind)), cif_neg (by first | grind | (simp only [ix, ej_p0, mv, mw]; grind)), cif_pos (by first | grind | (simp only [ix, ej_p0, mv, mw]; grind))]) (by decide) rfl hR)
    · have q10_ := bz.t f8_ c9_
      rw [thr_1 c9_] at hR
      refine lv_iconst (v := 0) hx hb dX5_faultDepth_17 (by decide) ?_
      exact g_iretW hC hr dX5_faultDepth_18 hS (Nat.le_of_ble_eq_true rfl) (Nat.le_of_ble_eq_true rfl) (mPost_k 2 (by unfold kDepth; rw [cif_neg (by grind), cif_pos (by grind)]) (by decide) rfl hR)
