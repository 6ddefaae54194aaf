set_option maxHeartbeats 4000000 in
set_option maxRecDepth 100000 in
theorem c_X5_adds {l : Launch} {E : gV} (hE : gOK l E) {β : Nat → Nat} {μ : F2} {K : Nat → Nat} {dp th : Int32} (hI : MI μ K) (h0 k0 ha li fi la src : Int32) (hch : narrow .char (.int ha) = .int ha) (hp : K 1 < 20) : gM l E yX5_adds cX5_adds 8 (some .int) ({ frames := 0, cells := 0, slots := 0, locals := 0 } : Room) [.ref (β 19), .int h0, .int k0, .int ha, .int li, .int fi, .int la, .int src] (fun H => RM E β μ K dp th H) (gQW (mA β) (gWi (fun r H => r = nI (K 1) ∧ RM E β (mAdds μ (K 1) h0 k0 ha li fi la src) (updN K 1 (K 1 + 1)) dp th H))) (fun _ => False) (mA β) := by
  refine gM_body hE (by decide +kernel) (Nat.le_of_ble_eq_true rfl) ?_
  intro p_ e_ s m args below meth c hC ht hr hname hP ls hl
  have hx := hC.2.2.1
  have hb := hC.2.2.2.1
  have hl : lv_has ls 8 [(0, .ref (β 19)), (1, .int h0), (2, .int k0), (3, .int ha), (4, .int li), (5, .int fi), (6, .int la), (7, .int src)] := hl
  have hS : va_S ((mA β)) s.heap s.heap [] := va_S.rf
  have hR : RM E β μ K dp th s.heap := hP
  obtain ⟨hK0, hK1, hK2, hSr, hHo, hTd⟩ := hI
  refine lv_aload_n hx hb dX5_adds_0 rfl (lv_at hl 0 rfl) ?_
  refine g_get (v := .ref (β 3)) hC hR.obj (C := RX5) (T := TX5) (N := 26) rfl u5_in 3 (by decide) k_999 rfl dX5_adds_1 ?_
  refine lv_aload_n hx hb dX5_adds_4 rfl (lv_at hl 0 rfl) ?_
  refine g_get (v := .int (nI (K 1))) hC hR.obj (C := RX5) (T := TX5) (N := 26) rfl u5_in 20 (by decide) k_1016 rfl dX5_adds_5 ?_
  refine lv_iload_n hx hb dX5_adds_8 rfl (lv_at hl 1 rfl) ?_
  refine m_iast (n := 20) (j := K 1) 3 (by decide) rfl rfl hC hR hS (by omega) dX5_adds_9 (fun H lo hR hS => ?_)
  refine lv_aload_n hx hb dX5_adds_10 rfl (lv_at hl 0 rfl) ?_
  refine g_get (v := .ref (β 4)) hC hR.obj (C := RX5) (T := TX5) (N := 26) rfl u5_in 4 (by decide) k_1000 rfl dX5_adds_11 ?_
  refine lv_aload_n hx hb dX5_adds_14 rfl (lv_at hl 0 rfl) ?_
  refine g_get (v := .int (nI (K 1))) hC hR.obj (C := RX5) (T := TX5) (N := 26) rfl u5_in 20 (by decide) k_1016 rfl dX5_adds_15 ?_
  refine lv_iload_n hx hb dX5_adds_18 rfl (lv_at hl 2 rfl) ?_
  refine m_iast (n := 20) (j := K 1) 4 (by decide) rfl rfl hC hR hS (by omega) dX5_adds_19 (fun H lo hR hS => ?_)
  refine lv_aload_n hx hb dX5_adds_20 rfl (lv_at hl 0 rfl) ?_
  refine g_get (v := .ref (β 9)) hC hR.obj (C := RX5) (T := TX5) (N := 26) rfl u5_in 9 (by decide) k_1005 rfl dX5_adds_21 ?_
  refine lv_aload_n hx hb dX5_adds_24 rfl (lv_at hl 0 rfl) ?_
  refine g_get (v := .int (nI (K 1))) hC hR.obj (C := RX5) (T := TX5) (N := 26) rfl u5_in 20 (by decide) k_1016 rfl dX5_adds_25 ?_
  refine lv_iload_n hx hb dX5_adds_28 rfl (lv_at hl 3 rfl) ?_
  refine m_cast (n := 20) (j := K 1) 9 (by decide) rfl rfl hC hR hS (by omega) (by assumption) dX5_adds_29 (fun H lo hR hS => ?_)
  refine lv_aload_n hx hb dX5_adds_30 rfl (lv_at hl 0 rfl) ?_
  refine g_get (v := .ref (β 5)) hC hR.obj (C := RX5) (T := TX5) (N := 26) rfl u5_in 5 (by decide) k_1001 rfl dX5_adds_31 ?_
  refine lv_aload_n hx hb dX5_adds_34 rfl (lv_at hl 0 rfl) ?_
  refine g_get (v := .int (nI (K 1))) hC hR.obj (C := RX5) (T := TX5) (N := 26) rfl u5_in 20 (by decide) k_1016 rfl dX5_adds_35 ?_
  refine lv_iload hx hb dX5_adds_38 (lv_at hl 4 rfl) ?_
  refine m_iast (n := 20) (j := K 1) 5 (by decide) rfl rfl hC hR hS (by omega) dX5_adds_40 (fun H lo hR hS => ?_)
  refine lv_aload_n hx hb dX5_adds_41 rfl (lv_at hl 0 rfl) ?_
  refine g_get (v := .ref (β 6)) hC hR.obj (C := RX5) (T := TX5) (N := 26) rfl u5_in 6 (by decide) k_1002 rfl dX5_adds_42 ?_
  refine lv_aload_n hx hb dX5_adds_45 rfl (lv_at hl 0 rfl) ?_
  refine g_get (v := .int (nI (K 1))) hC hR.obj (C := RX5) (T := TX5) (N := 26) rfl u5_in 20 (by decide) k_1016 rfl dX5_adds_46 ?_
  refine lv_iload hx hb dX5_adds_49 (lv_at hl 5 rfl) ?_
  refine m_iast (n := 20) (j := K 1) 6 (by decide) rfl rfl hC hR hS (by omega) dX5_adds_51 (fun H lo hR hS => ?_)
  refine lv_aload_n hx hb dX5_adds_52 rfl (lv_at hl 0 rfl) ?_
  refine g_get (v := .ref (β 7)) hC hR.obj (C := RX5) (T := TX5) (N := 26) rfl u5_in 7 (by decide) k_1003 rfl dX5_adds_53 ?_
  refine lv_aload_n hx hb dX5_adds_56 rfl (lv_at hl 0 rfl) ?_
  refine g_get (v := .int (nI (K 1))) hC hR.obj (C := RX5) (T := TX5) (N := 26) rfl u5_in 20 (by decide) k_1016 rfl dX5_adds_57 ?_
  refine lv_iload hx hb dX5_adds_60 (lv_at hl 6 rfl) ?_
  refine m_iast (n := 20) (j := K 1) 7 (by decide) rfl rfl hC hR hS (by omega) dX5_adds_62 (fun H lo hR hS => ?_)
  refine lv_aload_n hx hb dX5_adds_63 rfl (lv_at hl 0 rfl) ?_
  refine g_get (v := .ref (β 8)) hC hR.obj (C := RX5) (T := TX5) (N := 26) rfl u5_in 8 (by decide) k_1004 rfl dX5_adds_64 ?_
  refine lv_aload_n hx hb dX5_adds_67 rfl (lv_at hl 0 rfl) ?_
  refine g_get (v := .int (nI (K 1))) hC hR.obj (C := RX5) (T := TX5) (N := 26) rfl u5_in 20 (by decide) k_1016 rfl dX5_adds_68 ?_
  refine lv_iload hx hb dX5_adds_71 (lv_at hl 7 rfl) ?_
  refine m_iast (n := 20) (j := K 1) 8 (by decide) rfl rfl hC hR hS (by omega) dX5_adds_73 (fun H lo hR hS => ?_)
  refine lv_aload_n hx hb dX5_adds_74 rfl (lv_at hl 0 rfl) ?_
  refine lv_dup hx hb dX5_adds_75 rfl ?_
  refine g_get (v := .int (nI (K 1))) hC hR.obj (C := RX5) (T := TX5) (N := 26) rfl u5_in 20 (by decide) k_1016 rfl dX5_adds_76 ?_
  refine lv_iconst (v := 1) hx hb dX5_adds_79 (by decide) ?_
  refine g_iadd1 hx hb dX5_adds_80 ?_
  refine m_putN (μ' := (up2 (up2 (up2 (up2 (up2 (up2 (up2 μ 3 (K 1) h0) 4 (K 1) k0) 9 (K 1) ha) 5 (K 1) li) 6 (K 1) fi) 7 (K 1) la) 8 (K 1) src)) (K' := (updN K 1 ((K 1) + 1))) (dp' := dp) (th' := th) 20 (by decide) hC hR hS k_1016 rfl rfl (fun _ _ => rfl) rfl dX5_adds_81 (fun H lo hR hS => ?_)
  refine lv_aload_n hx hb dX5_adds_84 rfl (lv_at hl 0 rfl) ?_
  refine g_get (v := .int (nI ((K 1) + 1))) hC hR.obj (C := RX5) (T := TX5) (N := 26) rfl u5_in 20 (by decide) k_1016 rfl dX5_adds_85 ?_
  refine lv_iconst (v := 1) hx hb dX5_adds_88 (by decide) ?_
  refine g_isub1 hx hb dX5_adds_89 ?_
  exact g_iretW hC hr dX5_adds_90 hS (Nat.le_of_ble_eq_true rfl) (Nat.le_of_ble_eq_true rfl) ⟨rfl, hR⟩
set_option maxHeartbeats 4000000 in
set_option maxRecDepth 100000 in
theorem c_X5_grant {l : Launch} {E : gV} (hE : gOK l E) {β : Nat → Nat} {μ : F2} {K : Nat → Nat} {dp th : Int32} (hI : MI μ K) (h0 : Int32) (k0 : Int32) (ha : Int32) (li : Int32) (fi : Int32) (la : Int32) (hch : narrow .char (.int ha) = .int ha) : gM l E yX5_grant cX5_grant 8 (some .int) ({ frames := 2, cells := 0, slots := 0, locals := 44 } : Room) [.ref (β 19), .int h0, .int k0, .int ha, .int li, .int fi, .int la] (fun H => RM E β μ K dp th H) (gQW (mA β) (gWi (fun r H => mPost E β μ K (kGrant (K 0) (K 1) h0 k0 ha li fi la) (mAdds μ (K 1) h0 k0 ha li fi la (-1)) (updN K 1 (K 1 + 1)) (r = nI (K 1)) H))) (fun _ => False) (mA β) := by
  refine gM_body hE (by decide +kernel) (Nat.le_of_ble_eq_true rfl) ?_
  intro p_ e_ s m args below meth c hC ht hr hname hP ls hl
  have hx := hC.2.2.1
  have hb := hC.2.2.2.1
  have hl : lv_has ls 8 [(0, .ref (β 19)), (1, .int h0), (2, .int k0), (3, .int ha), (4, .int li), (5, .int fi), (6, .int la)] := hl
  have hS : va_S ((mA β)) s.heap s.heap [] := va_S.rf
  have hR : RM E β μ K dp th s.heap := hP
  obtain ⟨hK0, hK1, hK2, hSr, hHo, hTd⟩ := hI
  refine lv_iload_n hx hb dX5_grant_0 rfl (lv_at hl 3 rfl) ?_
  refine lv_bipush (v := 115) hx hb dX5_grant_1 (by decide) ?_
  refine lv_icmp_eq (tgt := 18) hx hb dX5_grant_3 (by decide) (fun c1 => ?_) (fun c1 => ?_)
  · refine lv_iconst (v := 1) hx hb dX5_grant_18 (by decide) ?_
    refine lv_goto (tgt := 23) hx hb dX5_grant_19 (by decide) ?_
    refine lv_istore (lv' := [(7, .int 1), (0, .ref (β 19)), (1, .int h0), (2, .int k0), (3, .int ha), (4, .int li), (5, .int fi), (6, .int la)]) hx hb dX5_grant_23 hl (by decide) rfl (fun ls hl => ?_)
    refine lv_aload_n hx hb dX5_grant_25 rfl (lv_at hl 1 rfl) ?_
    refine lv_aload_n hx hb dX5_grant_26 rfl (lv_at hl 1 rfl) ?_
    refine lv_iload_n hx hb dX5_grant_27 rfl (lv_at hl 2 rfl) ?_
    refine g_cRi (k2 := 0) (n2 := 0) (g_runV (rest := [.ref (β 19)]) hC (c_X5_isNobody hE (β := β) (μ := μ) (K := K) (dp := dp) (th := th) (by omega) h0) Y_X5_isNobody k_1092 I_X5_isNobody V_X5_isNobody hR.obj rfl hR rfl hl.1 dX5_grant_28 ⟨Nat.le_of_ble_eq_true rfl, Nat.le_of_ble_eq_true rfl⟩ ⟨Nat.le_of_ble_eq_true rfl, Nat.le_of_ble_eq_true rfl⟩ rfl (Nat.le_of_ble_eq_true rfl)) rfl rfl g_no (fun r2 h3 => ?_)
    refine lv_iconst (v := 1) hx hb dX5_grant_31 (by decide) ?_
    refine g_cWi (k2 := 0) (n2 := 0) (g_runV (rest := []) hC (c_X5_isThrown hE (β := β) (μ := μ) (K := K) (dp := dp) (th := th) r2 1 (bz.nar h3)) Y_X5_isThrown k_1084 I_X5_isThrown V_X5_isThrown hR.obj rfl hR rfl hl.1 dX5_grant_32 ⟨Nat.le_of_ble_eq_true rfl, Nat.le_of_ble_eq_true rfl⟩ ⟨Nat.le_of_ble_eq_true rfl, Nat.le_of_ble_eq_true rfl⟩ rfl (Nat.le_of_ble_eq_true rfl)) hS (fun _ h => h) rfl rfl (fun r4 H lo h5 _ _ hS => ?_)
    obtain ⟨rfl, hR⟩ := h5
    refine lv_if_ne (tgt := 99) hx hb dX5_grant_35 (by decide) (fun c6 => ?_) (fun c6 => ?_)
    · have q7 := bz.t h3 c6
      rw [thr_1 c6] at hR
      refine lv_iconst (v := 0) hx hb dX5_grant_99 (by decide) ?_
      exact g_iretW hC hr dX5_grant_100 hS (Nat.le_of_ble_eq_true rfl) (Nat.le_of_ble_eq_true rfl) (mPost_k 1 (by unfold kGrant; rw [cif_pos (by grind)]) (by decide) rfl hR)
    · have q7 := bz.f h3 c6
      rw [thr_0 c6] at hR
      refine lv_aload_n hx hb dX5_grant_38 rfl (lv_at hl 1 rfl) ?_
      refine lv_iload_n hx hb dX5_grant_39 rfl (lv_at hl 3 rfl) ?_
      refine lv_iconst (v := 0) hx hb dX5_grant_40 (by decide) ?_
      refine lv_iconst (v := 3) hx hb dX5_grant_41 (by decide) ?_
      refine g_cRi (k2 := 0) (n2 := 0) (g_runS (rest := [.ref (β 19)]) hC (c_X5_isIn hE k0 0 3) Y_X5_isIn k_1096 S_X5_isIn trivial rfl hl.1 dX5_grant_42 ⟨Nat.le_of_ble_eq_true rfl, Nat.le_of_ble_eq_true rfl⟩ ⟨Nat.le_of_ble_eq_true rfl, Nat.le_of_ble_eq_true rfl⟩ rfl (Nat.le_of_ble_eq_true rfl)) rfl rfl g_no (fun r8 h9 => ?_)
      refine lv_if_eq (tgt := 65) hx hb dX5_grant_45 (by decide) (fun c10 => ?_) (fun c10 => ?_)
      · have q11 := bz.f h9 c10
        refine lv_iconst (v := 1) hx hb dX5_grant_65 (by decide) ?_
        refine lv_goto (tgt := 70) hx hb dX5_grant_66 (by decide) ?_
        refine lv_iconst (v := 2) hx hb dX5_grant_70 (by decide) ?_
        refine g_cWi (k2 := 0) (n2 := 0) (g_runV (rest := []) hC (c_X5_isThrown hE (β := β) (μ := μ) (K := K) (dp := dp) (th := 0) 1 2 rfl) Y_X5_isThrown k_1084 I_X5_isThrown V_X5_isThrown hR.obj rfl hR rfl hl.1 dX5_grant_71 ⟨Nat.le_of_ble_eq_true rfl, Nat.le_of_ble_eq_true rfl⟩ ⟨Nat.le_of_ble_eq_true rfl, Nat.le_of_ble_eq_true rfl⟩ rfl (Nat.le_of_ble_eq_true rfl)) hS (fun _ h => h) rfl rfl (fun r12 H lo h13 _ _ hS => ?_)
        obtain ⟨rfl, hR⟩ := h13
        have hR : RM E β μ K dp 2 H := hR
        refine lv_if_ne (tgt := 99) hx hb dX5_grant_74 (by decide) (fun c14 => ?_) (fun c14 => ?_)
        · refine lv_iconst (v := 0) hx hb dX5_grant_99 (by decide) ?_
          exact g_iretW hC hr dX5_grant_100 hS (Nat.le_of_ble_eq_true rfl) (Nat.le_of_ble_eq_true rfl) (mPost_k 2 (by unfold kGrant; rw [cif_neg (by grind), cif_pos (by grind)]) (by decide) rfl hR)
        · exact absurd c14 (by decide)
      · have q11 := bz.t h9 c10
        refine lv_iload hx hb dX5_grant_48 (lv_at hl 0 rfl) ?_
        refine lv_if_eq (tgt := 65) hx hb dX5_grant_50 (by decide) (fun c15 => ?_) (fun c15 => ?_)
        · exact absurd c15 (by decide)
        · refine lv_iload hx hb dX5_grant_53 (lv_at hl 5 rfl) ?_
          refine lv_iload hx hb dX5_grant_55 (lv_at hl 6 rfl) ?_
          refine lv_iload hx hb dX5_grant_57 (lv_at hl 7 rfl) ?_
          refine g_cRi (k2 := 0) (n2 := 0) (g_runS (rest := [.ref (β 19)]) hC (c_X5_isPower hE li fi la) Y_X5_isPower k_1115 S_X5_isPower trivial rfl hl.1 dX5_grant_59 ⟨Nat.le_of_ble_eq_true rfl, Nat.le_of_ble_eq_true rfl⟩ ⟨Nat.le_of_ble_eq_true rfl, Nat.le_of_ble_eq_true rfl⟩ rfl (Nat.le_of_ble_eq_true rfl)) rfl rfl g_no (fun r16 h17 => ?_)
          refine lv_if_ne (tgt := 69) hx hb dX5_grant_62 (by decide) (fun c18 => ?_) (fun c18 => ?_)
          · have q19 := bz.t h17 c18
            refine lv_iconst (v := 0) hx hb dX5_grant_69 (by decide) ?_
            refine lv_iconst (v := 2) hx hb dX5_grant_70 (by decide) ?_
            refine g_cWi (k2 := 0) (n2 := 0) (g_runV (rest := []) hC (c_X5_isThrown hE (β := β) (μ := μ) (K := K) (dp := dp) (th := 0) 0 2 rfl) Y_X5_isThrown k_1084 I_X5_isThrown V_X5_isThrown hR.obj rfl hR rfl hl.1 dX5_grant_71 ⟨Nat.le_of_ble_eq_true rfl, Nat.le_of_ble_eq_true rfl⟩ ⟨Nat.le_of_ble_eq_true rfl, Nat.le_of_ble_eq_true rfl⟩ rfl (Nat.le_of_ble_eq_true rfl)) hS (fun _ h => h) rfl rfl (fun r20 H lo h21 _ _ hS => ?_)
            obtain ⟨rfl, hR⟩ := h21
            have hR : RM E β μ K dp 0 H := hR
            refine lv_if_ne (tgt := 99) hx hb dX5_grant_74 (by decide) (fun c22 => ?_) (fun c22 => ?_)
            · exact absurd c22 (by decide)
            · refine lv_aload_n hx hb dX5_grant_77 rfl (lv_at hl 1 rfl) ?_
              refine lv_aload_n hx hb dX5_grant_78 rfl (lv_at hl 1 rfl) ?_
              refine g_get (v := .int (nI (K 1))) hC hR.obj (C := RX5) (T := TX5) (N := 26) rfl u5_in 20 (by decide) k_1016 rfl dX5_grant_79 ?_
              refine lv_bipush (v := 20) hx hb dX5_grant_82 (by decide) ?_
              refine lv_icmp_ne (tgt := 91) hx hb dX5_grant_84 (by decide) (fun c23 => ?_) (fun c23 => ?_)
              · have n24 : ¬ (K 1) = 20 := fun z => c23 (congrArg nI z)
                refine lv_iconst (v := 0) hx hb dX5_grant_91 (by decide) ?_
                refine lv_iconst (v := 3) hx hb dX5_grant_92 (by decide) ?_
                refine g_cWi (k2 := 0) (n2 := 0) (g_runV (rest := []) hC (c_X5_isThrown hE (β := β) (μ := μ) (K := K) (dp := dp) (th := 0) 0 3 rfl) Y_X5_isThrown k_1084 I_X5_isThrown V_X5_isThrown hR.obj rfl hR rfl hl.1 dX5_grant_93 ⟨Nat.le_of_ble_eq_true rfl, Nat.le_of_ble_eq_true rfl⟩ ⟨Nat.le_of_ble_eq_true rfl, Nat.le_of_ble_eq_true rfl⟩ rfl (Nat.le_of_ble_eq_true rfl)) hS (fun _ h => h) rfl rfl (fun r25 H lo h26 _ _ hS => ?_)
                obtain ⟨rfl, hR⟩ := h26
                have hR : RM E β μ K dp 0 H := hR
                refine lv_if_eq (tgt := 101) hx hb dX5_grant_96 (by decide) (fun c27 => ?_) (fun c27 => ?_)
                · refine lv_aload_n hx hb dX5_grant_101 rfl (lv_at hl 1 rfl) ?_
                  refine lv_iload_n hx hb dX5_grant_102 rfl (lv_at hl 2 rfl) ?_
                  refine lv_iload_n hx hb dX5_grant_103 rfl (lv_at hl 3 rfl) ?_
                  refine lv_iload_n hx hb dX5_grant_104 rfl (lv_at hl 4 rfl) ?_
                  refine lv_iload hx hb dX5_grant_105 (lv_at hl 5 rfl) ?_
                  refine lv_iload hx hb dX5_grant_107 (lv_at hl 6 rfl) ?_
                  refine lv_iload hx hb dX5_grant_109 (lv_at hl 7 rfl) ?_
                  refine lv_iconst (v := (-1)) hx hb dX5_grant_111 (by decide) ?_
                  refine g_cWi (k2 := 0) (n2 := 0) (g_runV (rest := []) hC (c_X5_adds hE (β := β) (μ := μ) (K := K) (dp := dp) (th := 0) ⟨hK0, hK1, hK2, hSr, hHo, hTd⟩ h0 k0 ha li fi la ((-1)) (by first | assumption | exact hcs _ (by omega)) (by omega)) Y_X5_adds k_1119 I_X5_adds V_X5_adds hR.obj rfl hR rfl hl.1 dX5_grant_112 ⟨Nat.le_of_ble_eq_true rfl, Nat.le_of_ble_eq_true rfl⟩ ⟨Nat.le_of_ble_eq_true rfl, Nat.le_of_ble_eq_true rfl⟩ rfl (Nat.le_of_ble_eq_true rfl)) hS (fun _ h => h) rfl rfl (fun r28 H lo h29 _ _ hS => ?_)
                  obtain ⟨rfl, hR⟩ := h29
                  exact g_iretW hC hr dX5_grant_115 hS (Nat.le_of_ble_eq_true rfl) (Nat.le_of_ble_eq_true rfl) (mPost_0 (by unfold kGrant; rw [cif_neg (by grind), cif_neg (by grind), cif_neg (by grind)]) hR rfl rfl rfl)
                · exact absurd (by decide) c27
              · have n24 : (K 1) = 20 := (nI_eq (by omega) (by omega)).mp c23
                refine lv_iconst (v := 1) hx hb dX5_grant_87 (by decide) ?_
                refine lv_goto (tgt := 92) hx hb dX5_grant_88 (by decide) ?_
                refine lv_iconst (v := 3) hx hb dX5_grant_92 (by decide) ?_
                refine g_cWi (k2 := 0) (n2 := 0) (g_runV (rest := []) hC (c_X5_isThrown hE (β := β) (μ := μ) (K := K) (dp := dp) (th := 0) 1 3 rfl) Y_X5_isThrown k_1084 I_X5_isThrown V_X5_isThrown hR.obj rfl hR rfl hl.1 dX5_grant_93 ⟨Nat.le_of_ble_eq_true rfl, Nat.le_of_ble_eq_true rfl⟩ ⟨Nat.le_of_ble_eq_true rfl, Nat.le_of_ble_eq_true rfl⟩ rfl (Nat.le_of_ble_eq_true rfl)) hS (fun _ h => h) rfl rfl (fun r30 H lo h31 _ _ hS => ?_)
                obtain ⟨rfl, hR⟩ := h31
                have hR : RM E β μ K dp 3 H := hR
                refine lv_if_eq (tgt := 101) hx hb dX5_grant_96 (by decide) (fun c32 => ?_) (fun c32 => ?_)
                · exact absurd c32 (by decide)
                · refine lv_iconst (v := 0) hx hb dX5_grant_99 (by decide) ?_
                  exact g_iretW hC hr dX5_grant_100 hS (Nat.le_of_ble_eq_true rfl) (Nat.le_of_ble_eq_true rfl) (mPost_k 3 (by unfold kGrant; rw [cif_neg (by grind), cif_neg (by grind), cif_pos (by grind)]) (by decide) rfl hR)
          · have q19 := bz.f h17 c18
            refine lv_iconst (v := 1) hx hb dX5_grant_65 (by decide) ?_
            refine lv_goto (tgt := 70) hx hb dX5_grant_66 (by decide) ?_
            refine lv_iconst (v := 2) hx hb dX5_grant_70 (by decide) ?_
            refine g_cWi (k2 := 0) (n2 := 0) (g_runV (rest := []) hC (c_X5_isThrown hE (β := β) (μ := μ) (K := K) (dp := dp) (th := 0) 1 2 rfl) Y_X5_isThrown k_1084 I_X5_isThrown V_X5_isThrown hR.obj rfl hR rfl hl.1 dX5_grant_71 ⟨Nat.le_of_ble_eq_true rfl, Nat.le_of_ble_eq_true rfl⟩ ⟨Nat.le_of_ble_eq_true rfl, Nat.le_of_ble_eq_true rfl⟩ rfl (Nat.le_of_ble_eq_true rfl)) hS (fun _ h => h) rfl rfl (fun r33 H lo h34 _ _ hS => ?_)
            obtain ⟨rfl, hR⟩ := h34
            have hR : RM E β μ K dp 2 H := hR
            refine lv_if_ne (tgt := 99) hx hb dX5_grant_74 (by decide) (fun c35 => ?_) (fun c35 => ?_)
            · refine lv_iconst (v := 0) hx hb dX5_grant_99 (by decide) ?_
              exact g_iretW hC hr dX5_grant_100 hS (Nat.le_of_ble_eq_true rfl) (Nat.le_of_ble_eq_true rfl) (mPost_k 2 (by unfold kGrant; rw [cif_neg (by grind), cif_pos (by grind)]) (by decide) rfl hR)
            · exact absurd c35 (by decide)
  · refine lv_iload_n hx hb dX5_grant_6 rfl (lv_at hl 3 rfl) ?_
    refine lv_bipush (v := 97) hx hb dX5_grant_7 (by decide) ?_
    refine lv_icmp_eq (tgt := 18) hx hb dX5_grant_9 (by decide) (fun c36 => ?_) (fun c36 => ?_)
    · refine lv_iconst (v := 1) hx hb dX5_grant_18 (by decide) ?_
      refine lv_goto (tgt := 23) hx hb dX5_grant_19 (by decide) ?_
      refine lv_istore (lv' := [(7, .int 1), (0, .ref (β 19)), (1, .int h0), (2, .int k0), (3, .int ha), (4, .int li), (5, .int fi), (6, .int la)]) hx hb dX5_grant_23 hl (by decide) rfl (fun ls hl => ?_)
      refine lv_aload_n hx hb dX5_grant_25 rfl (lv_at hl 1 rfl) ?_
      refine lv_aload_n hx hb dX5_grant_26 rfl (lv_at hl 1 rfl) ?_
      refine lv_iload_n hx hb dX5_grant_27 rfl (lv_at hl 2 rfl) ?_
      refine g_cRi (k2 := 0) (n2 := 0) (g_runV (rest := [.ref (β 19)]) hC (c_X5_isNobody hE (β := β) (μ := μ) (K := K) (dp := dp) (th := th) (by omega) h0) Y_X5_isNobody k_1092 I_X5_isNobody V_X5_isNobody hR.obj rfl hR rfl hl.1 dX5_grant_28 ⟨Nat.le_of_ble_eq_true rfl, Nat.le_of_ble_eq_true rfl⟩ ⟨Nat.le_of_ble_eq_true rfl, Nat.le_of_ble_eq_true rfl⟩ rfl (Nat.le_of_ble_eq_true rfl)) rfl rfl g_no (fun r37 h38 => ?_)
      refine lv_iconst (v := 1) hx hb dX5_grant_31 (by decide) ?_
      refine g_cWi (k2 := 0) (n2 := 0) (g_runV (rest := []) hC (c_X5_isThrown hE (β := β) (μ := μ) (K := K) (dp := dp) (th := th) r37 1 (bz.nar h38)) Y_X5_isThrown k_1084 I_X5_isThrown V_X5_isThrown hR.obj rfl hR rfl hl.1 dX5_grant_32 ⟨Nat.le_of_ble_eq_true rfl, Nat.le_of_ble_eq_true rfl⟩ ⟨Nat.le_of_ble_eq_true rfl, Nat.le_of_ble_eq_true rfl⟩ rfl (Nat.le_of_ble_eq_true rfl)) hS (fun _ h => h) rfl rfl (fun r39 H lo h40 _ _ hS => ?_)
      obtain ⟨rfl, hR⟩ := h40
      refine lv_if_ne (tgt := 99) hx hb dX5_grant_35 (by decide) (fun c41 => ?_) (fun c41 => ?_)
      · have q42 := bz.t h38 c41
        rw [thr_1 c41] at hR
        refine lv_iconst (v := 0) hx hb dX5_grant_99 (by decide) ?_
        exact g_iretW hC hr dX5_grant_100 hS (Nat.le_of_ble_eq_true rfl) (Nat.le_of_ble_eq_true rfl) (mPost_k 1 (by unfold kGrant; rw [cif_pos (by grind)]) (by decide) rfl hR)
      · have q42 := bz.f h38 c41
        rw [thr_0 c41] at hR
        refine lv_aload_n hx hb dX5_grant_38 rfl (lv_at hl 1 rfl) ?_
        refine lv_iload_n hx hb dX5_grant_39 rfl (lv_at hl 3 rfl) ?_
        refine lv_iconst (v := 0) hx hb dX5_grant_40 (by decide) ?_
        refine lv_iconst (v := 3) hx hb dX5_grant_41 (by decide) ?_
        refine g_cRi (k2 := 0) (n2 := 0) (g_runS (rest := [.ref (β 19)]) hC (c_X5_isIn hE k0 0 3) Y_X5_isIn k_1096 S_X5_isIn trivial rfl hl.1 dX5_grant_42 ⟨Nat.le_of_ble_eq_true rfl, Nat.le_of_ble_eq_true rfl⟩ ⟨Nat.le_of_ble_eq_true rfl, Nat.le_of_ble_eq_true rfl⟩ rfl (Nat.le_of_ble_eq_true rfl)) rfl rfl g_no (fun r43 h44 => ?_)
        refine lv_if_eq (tgt := 65) hx hb dX5_grant_45 (by decide) (fun c45 => ?_) (fun c45 => ?_)
        · have q46 := bz.f h44 c45
          refine lv_iconst (v := 1) hx hb dX5_grant_65 (by decide) ?_
          refine lv_goto (tgt := 70) hx hb dX5_grant_66 (by decide) ?_
          refine lv_iconst (v := 2) hx hb dX5_grant_70 (by decide) ?_
          refine g_cWi (k2 := 0) (n2 := 0) (g_runV (rest := []) hC (c_X5_isThrown hE (β := β) (μ := μ) (K := K) (dp := dp) (th := 0) 1 2 rfl) Y_X5_isThrown k_1084 I_X5_isThrown V_X5_isThrown hR.obj rfl hR rfl hl.1 dX5_grant_71 ⟨Nat.le_of_ble_eq_true rfl, Nat.le_of_ble_eq_true rfl⟩ ⟨Nat.le_of_ble_eq_true rfl, Nat.le_of_ble_eq_true rfl⟩ rfl (Nat.le_of_ble_eq_true rfl)) hS (fun _ h => h) rfl rfl (fun r47 H lo h48 _ _ hS => ?_)
          obtain ⟨rfl, hR⟩ := h48
          have hR : RM E β μ K dp 2 H := hR
          refine lv_if_ne (tgt := 99) hx hb dX5_grant_74 (by decide) (fun c49 => ?_) (fun c49 => ?_)
          · refine lv_iconst (v := 0) hx hb dX5_grant_99 (by decide) ?_
            exact g_iretW hC hr dX5_grant_100 hS (Nat.le_of_ble_eq_true rfl) (Nat.le_of_ble_eq_true rfl) (mPost_k 2 (by unfold kGrant; rw [cif_neg (by grind), cif_pos (by grind)]) (by decide) rfl hR)
          · exact absurd c49 (by decide)
        · have q46 := bz.t h44 c45
          refine lv_iload hx hb dX5_grant_48 (lv_at hl 0 rfl) ?_
          refine lv_if_eq (tgt := 65) hx hb dX5_grant_50 (by decide) (fun c50 => ?_) (fun c50 => ?_)
          · exact absurd c50 (by decide)
          · refine lv_iload hx hb dX5_grant_53 (lv_at hl 5 rfl) ?_
            refine lv_iload hx hb dX5_grant_55 (lv_at hl 6 rfl) ?_
            refine lv_iload hx hb dX5_grant_57 (lv_at hl 7 rfl) ?_
            refine g_cRi (k2 := 0) (n2 := 0) (g_runS (rest := [.ref (β 19)]) hC (c_X5_isPower hE li fi la) Y_X5_isPower k_1115 S_X5_isPower trivial rfl hl.1 dX5_grant_59 ⟨Nat.le_of_ble_eq_true rfl, Nat.le_of_ble_eq_true rfl⟩ ⟨Nat.le_of_ble_eq_true rfl, Nat.le_of_ble_eq_true rfl⟩ rfl (Nat.le_of_ble_eq_true rfl)) rfl rfl g_no (fun r51 h52 => ?_)
            refine lv_if_ne (tgt := 69) hx hb dX5_grant_62 (by decide) (fun c53 => ?_) (fun c53 => ?_)
            · have q54 := bz.t h52 c53
              refine lv_iconst (v := 0) hx hb dX5_grant_69 (by decide) ?_
              refine lv_iconst (v := 2) hx hb dX5_grant_70 (by decide) ?_
              refine g_cWi (k2 := 0) (n2 := 0) (g_runV (rest := []) hC (c_X5_isThrown hE (β := β) (μ := μ) (K := K) (dp := dp) (th := 0) 0 2 rfl) Y_X5_isThrown k_1084 I_X5_isThrown V_X5_isThrown hR.obj rfl hR rfl hl.1 dX5_grant_71 ⟨Nat.le_of_ble_eq_true rfl, Nat.le_of_ble_eq_true rfl⟩ ⟨Nat.le_of_ble_eq_true rfl, Nat.le_of_ble_eq_true rfl⟩ rfl (Nat.le_of_ble_eq_true rfl)) hS (fun _ h => h) rfl rfl (fun r55 H lo h56 _ _ hS => ?_)
              obtain ⟨rfl, hR⟩ := h56
              have hR : RM E β μ K dp 0 H := hR
              refine lv_if_ne (tgt := 99) hx hb dX5_grant_74 (by decide) (fun c57 => ?_) (fun c57 => ?_)
              · exact absurd c57 (by decide)
              · refine lv_aload_n hx hb dX5_grant_77 rfl (lv_at hl 1 rfl) ?_
                refine lv_aload_n hx hb dX5_grant_78 rfl (lv_at hl 1 rfl) ?_
                refine g_get (v := .int (nI (K 1))) hC hR.obj (C := RX5) (T := TX5) (N := 26) rfl u5_in 20 (by decide) k_1016 rfl dX5_grant_79 ?_
                refine lv_bipush (v := 20) hx hb dX5_grant_82 (by decide) ?_
                refine lv_icmp_ne (tgt := 91) hx hb dX5_grant_84 (by decide) (fun c58 => ?_) (fun c58 => ?_)
                · have n59 : ¬ (K 1) = 20 := fun z => c58 (congrArg nI z)
                  refine lv_iconst (v := 0) hx hb dX5_grant_91 (by decide) ?_
                  refine lv_iconst (v := 3) hx hb dX5_grant_92 (by decide) ?_
                  refine g_cWi (k2 := 0) (n2 := 0) (g_runV (rest := []) hC (c_X5_isThrown hE (β := β) (μ := μ) (K := K) (dp := dp) (th := 0) 0 3 rfl) Y_X5_isThrown k_1084 I_X5_isThrown V_X5_isThrown hR.obj rfl hR rfl hl.1 dX5_grant_93 ⟨Nat.le_of_ble_eq_true rfl, Nat.le_of_ble_eq_true rfl⟩ ⟨Nat.le_of_ble_eq_true rfl, Nat.le_of_ble_eq_true rfl⟩ rfl (Nat.le_of_ble_eq_true rfl)) hS (fun _ h => h) rfl rfl (fun r60 H lo h61 _ _ hS => ?_)
                  obtain ⟨rfl, hR⟩ := h61
                  have hR : RM E β μ K dp 0 H := hR
                  refine lv_if_eq (tgt := 101) hx hb dX5_grant_96 (by decide) (fun c62 => ?_) (fun c62 => ?_)
                  · refine lv_aload_n hx hb dX5_grant_101 rfl (lv_at hl 1 rfl) ?_
                    refine lv_iload_n hx hb dX5_grant_102 rfl (lv_at hl 2 rfl) ?_
                    refine lv_iload_n hx hb dX5_grant_103 rfl (lv_at hl 3 rfl) ?_
                    refine lv_iload_n hx hb dX5_grant_104 rfl (lv_at hl 4 rfl) ?_
                    refine lv_iload hx hb dX5_grant_105 (lv_at hl 5 rfl) ?_
                    refine lv_iload hx hb dX5_grant_107 (lv_at hl 6 rfl) ?_
                    refine lv_iload hx hb dX5_grant_109 (lv_at hl 7 rfl) ?_
                    refine lv_iconst (v := (-1)) hx hb dX5_grant_111 (by decide) ?_
                    refine g_cWi (k2 := 0) (n2 := 0) (g_runV (rest := []) hC (c_X5_adds hE (β := β) (μ := μ) (K := K) (dp := dp) (th := 0) ⟨hK0, hK1, hK2, hSr, hHo, hTd⟩ h0 k0 ha li fi la ((-1)) (by first | assumption | exact hcs _ (by omega)) (by omega)) Y_X5_adds k_1119 I_X5_adds V_X5_adds hR.obj rfl hR rfl hl.1 dX5_grant_112 ⟨Nat.le_of_ble_eq_true rfl, Nat.le_of_ble_eq_true rfl⟩ ⟨Nat.le_of_ble_eq_true rfl, Nat.le_of_ble_eq_true rfl⟩ rfl (Nat.le_of_ble_eq_true rfl)) hS (fun _ h => h) rfl rfl (fun r63 H lo h64 _ _ hS => ?_)
                    obtain ⟨rfl, hR⟩ := h64
                    exact g_iretW hC hr dX5_grant_115 hS (Nat.le_of_ble_eq_true rfl) (Nat.le_of_ble_eq_true rfl) (mPost_0 (by unfold kGrant; rw [cif_neg (by grind), cif_neg (by grind), cif_neg (by grind)]) hR rfl rfl rfl)
                  · exact absurd (by decide) c62
                · have n59 : (K 1) = 20 := (nI_eq (by omega) (by omega)).mp c58
                  refine lv_iconst (v := 1) hx hb dX5_grant_87 (by decide) ?_
                  refine lv_goto (tgt := 92) hx hb dX5_grant_88 (by decide) ?_
                  refine lv_iconst (v := 3) hx hb dX5_grant_92 (by decide) ?_
                  refine g_cWi (k2 := 0) (n2 := 0) (g_runV (rest := []) hC (c_X5_isThrown hE (β := β) (μ := μ) (K := K) (dp := dp) (th := 0) 1 3 rfl) Y_X5_isThrown k_1084 I_X5_isThrown V_X5_isThrown hR.obj rfl hR rfl hl.1 dX5_grant_93 ⟨Nat.le_of_ble_eq_true rfl, Nat.le_of_ble_eq_true rfl⟩ ⟨Nat.le_of_ble_eq_true rfl, Nat.le_of_ble_eq_true rfl⟩ rfl (Nat.le_of_ble_eq_true rfl)) hS (fun _ h => h) rfl rfl (fun r65 H lo h66 _ _ hS => ?_)
                  obtain ⟨rfl, hR⟩ := h66
                  have hR : RM E β μ K dp 3 H := hR
                  refine lv_if_eq (tgt := 101) hx hb dX5_grant_96 (by decide) (fun c67 => ?_) (fun c67 => ?_)
                  · exact absurd c67 (by decide)
                  · refine lv_iconst (v := 0) hx hb dX5_grant_99 (by decide) ?_
                    exact g_iretW hC hr dX5_grant_100 hS (Nat.le_of_ble_eq_true rfl) (Nat.le_of_ble_eq_true rfl) (mPost_k 3 (by unfold kGrant; rw [cif_neg (by grind), cif_neg (by grind), cif_pos (by grind)]) (by decide) rfl hR)
            · have q54 := bz.f h52 c53
              refine lv_iconst (v := 1) hx hb dX5_grant_65 (by decide) ?_
              refine lv_goto (tgt := 70) hx hb dX5_grant_66 (by decide) ?_
              refine lv_iconst (v := 2) hx hb dX5_grant_70 (by decide) ?_
              refine g_cWi (k2 := 0) (n2 := 0) (g_runV (rest := []) hC (c_X5_isThrown hE (β := β) (μ := μ) (K := K) (dp := dp) (th := 0) 1 2 rfl) Y_X5_isThrown k_1084 I_X5_isThrown V_X5_isThrown hR.obj rfl hR rfl hl.1 dX5_grant_71 ⟨Nat.le_of_ble_eq_true rfl, Nat.le_of_ble_eq_true rfl⟩ ⟨Nat.le_of_ble_eq_true rfl, Nat.le_of_ble_eq_true rfl⟩ rfl (Nat.le_of_ble_eq_true rfl)) hS (fun _ h => h) rfl rfl (fun r68 H lo h69 _ _ hS => ?_)
              obtain ⟨rfl, hR⟩ := h69
              have hR : RM E β μ K dp 2 H := hR
              refine lv_if_ne (tgt := 99) hx hb dX5_grant_74 (by decide) (fun c70 => ?_) (fun c70 => ?_)
              · refine lv_iconst (v := 0) hx hb dX5_grant_99 (by decide) ?_
                exact g_iretW hC hr dX5_grant_100 hS (Nat.le_of_ble_eq_true rfl) (Nat.le_of_ble_eq_true rfl) (mPost_k 2 (by unfold kGrant; rw [cif_neg (by grind), cif_pos (by grind)]) (by decide) rfl hR)
              · exact absurd c70 (by decide)
    · refine lv_iload_n hx hb dX5_grant_12 rfl (lv_at hl 3 rfl) ?_
      refine lv_bipush (v := 98) hx hb dX5_grant_13 (by decide) ?_
      refine lv_icmp_ne (tgt := 22) hx hb dX5_grant_15 (by decide) (fun c71 => ?_) (fun c71 => ?_)
      · refine lv_iconst (v := 0) hx hb dX5_grant_22 (by decide) ?_
        refine lv_istore (lv' := [(7, .int 0), (0, .ref (β 19)), (1, .int h0), (2, .int k0), (3, .int ha), (4, .int li), (5, .int fi), (6, .int la)]) hx hb dX5_grant_23 hl (by decide) rfl (fun ls hl => ?_)
        refine lv_aload_n hx hb dX5_grant_25 rfl (lv_at hl 1 rfl) ?_
        refine lv_aload_n hx hb dX5_grant_26 rfl (lv_at hl 1 rfl) ?_
        refine lv_iload_n hx hb dX5_grant_27 rfl (lv_at hl 2 rfl) ?_
        refine g_cRi (k2 := 0) (n2 := 0) (g_runV (rest := [.ref (β 19)]) hC (c_X5_isNobody hE (β := β) (μ := μ) (K := K) (dp := dp) (th := th) (by omega) h0) Y_X5_isNobody k_1092 I_X5_isNobody V_X5_isNobody hR.obj rfl hR rfl hl.1 dX5_grant_28 ⟨Nat.le_of_ble_eq_true rfl, Nat.le_of_ble_eq_true rfl⟩ ⟨Nat.le_of_ble_eq_true rfl, Nat.le_of_ble_eq_true rfl⟩ rfl (Nat.le_of_ble_eq_true rfl)) rfl rfl g_no (fun r72 h73 => ?_)
        refine lv_iconst (v := 1) hx hb dX5_grant_31 (by decide) ?_
        refine g_cWi (k2 := 0) (n2 := 0) (g_runV (rest := []) hC (c_X5_isThrown hE (β := β) (μ := μ) (K := K) (dp := dp) (th := th) r72 1 (bz.nar h73)) Y_X5_isThrown k_1084 I_X5_isThrown V_X5_isThrown hR.obj rfl hR rfl hl.1 dX5_grant_32 ⟨Nat.le_of_ble_eq_true rfl, Nat.le_of_ble_eq_true rfl⟩ ⟨Nat.le_of_ble_eq_true rfl, Nat.le_of_ble_eq_true rfl⟩ rfl (Nat.le_of_ble_eq_true rfl)) hS (fun _ h => h) rfl rfl (fun r74 H lo h75 _ _ hS => ?_)
        obtain ⟨rfl, hR⟩ := h75
        refine lv_if_ne (tgt := 99) hx hb dX5_grant_35 (by decide) (fun c76 => ?_) (fun c76 => ?_)
        · have q77 := bz.t h73 c76
          rw [thr_1 c76] at hR
          refine lv_iconst (v := 0) hx hb dX5_grant_99 (by decide) ?_
          exact g_iretW hC hr dX5_grant_100 hS (Nat.le_of_ble_eq_true rfl) (Nat.le_of_ble_eq_true rfl) (mPost_k 1 (by unfold kGrant; rw [cif_pos (by grind)]) (by decide) rfl hR)
        · have q77 := bz.f h73 c76
          rw [thr_0 c76] at hR
          refine lv_aload_n hx hb dX5_grant_38 rfl (lv_at hl 1 rfl) ?_
          refine lv_iload_n hx hb dX5_grant_39 rfl (lv_at hl 3 rfl) ?_
          refine lv_iconst (v := 0) hx hb dX5_grant_40 (by decide) ?_
          refine lv_iconst (v := 3) hx hb dX5_grant_41 (by decide) ?_
          refine g_cRi (k2 := 0) (n2 := 0) (g_runS (rest := [.ref (β 19)]) hC (c_X5_isIn hE k0 0 3) Y_X5_isIn k_1096 S_X5_isIn trivial rfl hl.1 dX5_grant_42 ⟨Nat.le_of_ble_eq_true rfl, Nat.le_of_ble_eq_true rfl⟩ ⟨Nat.le_of_ble_eq_true rfl, Nat.le_of_ble_eq_true rfl⟩ rfl (Nat.le_of_ble_eq_true rfl)) rfl rfl g_no (fun r78 h79 => ?_)
          refine lv_if_eq (tgt := 65) hx hb dX5_grant_45 (by decide) (fun c80 => ?_) (fun c80 => ?_)
          · have q81 := bz.f h79 c80
            refine lv_iconst (v := 1) hx hb dX5_grant_65 (by decide) ?_
            refine lv_goto (tgt := 70) hx hb dX5_grant_66 (by decide) ?_
            refine lv_iconst (v := 2) hx hb dX5_grant_70 (by decide) ?_
            refine g_cWi (k2 := 0) (n2 := 0) (g_runV (rest := []) hC (c_X5_isThrown hE (β := β) (μ := μ) (K := K) (dp := dp) (th := 0) 1 2 rfl) Y_X5_isThrown k_1084 I_X5_isThrown V_X5_isThrown hR.obj rfl hR rfl hl.1 dX5_grant_71 ⟨Nat.le_of_ble_eq_true rfl, Nat.le_of_ble_eq_true rfl⟩ ⟨Nat.le_of_ble_eq_true rfl, Nat.le_of_ble_eq_true rfl⟩ rfl (Nat.le_of_ble_eq_true rfl)) hS (fun _ h => h) rfl rfl (fun r82 H lo h83 _ _ hS => ?_)
            obtain ⟨rfl, hR⟩ := h83
            have hR : RM E β μ K dp 2 H := hR
            refine lv_if_ne (tgt := 99) hx hb dX5_grant_74 (by decide) (fun c84 => ?_) (fun c84 => ?_)
            · refine lv_iconst (v := 0) hx hb dX5_grant_99 (by decide) ?_
              exact g_iretW hC hr dX5_grant_100 hS (Nat.le_of_ble_eq_true rfl) (Nat.le_of_ble_eq_true rfl) (mPost_k 2 (by unfold kGrant; rw [cif_neg (by grind), cif_pos (by grind)]) (by decide) rfl hR)
            · exact absurd c84 (by decide)
          · have q81 := bz.t h79 c80
            refine lv_iload hx hb dX5_grant_48 (lv_at hl 0 rfl) ?_
            refine lv_if_eq (tgt := 65) hx hb dX5_grant_50 (by decide) (fun c85 => ?_) (fun c85 => ?_)
            · refine lv_iconst (v := 1) hx hb dX5_grant_65 (by decide) ?_
              refine lv_goto (tgt := 70) hx hb dX5_grant_66 (by decide) ?_
              refine lv_iconst (v := 2) hx hb dX5_grant_70 (by decide) ?_
              refine g_cWi (k2 := 0) (n2 := 0) (g_runV (rest := []) hC (c_X5_isThrown hE (β := β) (μ := μ) (K := K) (dp := dp) (th := 0) 1 2 rfl) Y_X5_isThrown k_1084 I_X5_isThrown V_X5_isThrown hR.obj rfl hR rfl hl.1 dX5_grant_71 ⟨Nat.le_of_ble_eq_true rfl, Nat.le_of_ble_eq_true rfl⟩ ⟨Nat.le_of_ble_eq_true rfl, Nat.le_of_ble_eq_true rfl⟩ rfl (Nat.le_of_ble_eq_true rfl)) hS (fun _ h => h) rfl rfl (fun r86 H lo h87 _ _ hS => ?_)
              obtain ⟨rfl, hR⟩ := h87
              have hR : RM E β μ K dp 2 H := hR
              refine lv_if_ne (tgt := 99) hx hb dX5_grant_74 (by decide) (fun c88 => ?_) (fun c88 => ?_)
              · refine lv_iconst (v := 0) hx hb dX5_grant_99 (by decide) ?_
                exact g_iretW hC hr dX5_grant_100 hS (Nat.le_of_ble_eq_true rfl) (Nat.le_of_ble_eq_true rfl) (mPost_k 2 (by unfold kGrant; rw [cif_neg (by grind), cif_pos (by grind)]) (by decide) rfl hR)
              · exact absurd c88 (by decide)
            · exact absurd (by decide) c85
      · refine lv_iconst (v := 1) hx hb dX5_grant_18 (by decide) ?_
        refine lv_goto (tgt := 23) hx hb dX5_grant_19 (by decide) ?_
        refine lv_istore (lv' := [(7, .int 1), (0, .ref (β 19)), (1, .int h0), (2, .int k0), (3, .int ha), (4, .int li), (5, .int fi), (6, .int la)]) hx hb dX5_grant_23 hl (by decide) rfl (fun ls hl => ?_)
        refine lv_aload_n hx hb dX5_grant_25 rfl (lv_at hl 1 rfl) ?_
        refine lv_aload_n hx hb dX5_grant_26 rfl (lv_at hl 1 rfl) ?_
        refine lv_iload_n hx hb dX5_grant_27 rfl (lv_at hl 2 rfl) ?_
        refine g_cRi (k2 := 0) (n2 := 0) (g_runV (rest := [.ref (β 19)]) hC (c_X5_isNobody hE (β := β) (μ := μ) (K := K) (dp := dp) (th := th) (by omega) h0) Y_X5_isNobody k_1092 I_X5_isNobody V_X5_isNobody hR.obj rfl hR rfl hl.1 dX5_grant_28 ⟨Nat.le_of_ble_eq_true rfl, Nat.le_of_ble_eq_true rfl⟩ ⟨Nat.le_of_ble_eq_true rfl, Nat.le_of_ble_eq_true rfl⟩ rfl (Nat.le_of_ble_eq_true rfl)) rfl rfl g_no (fun r89 h90 => ?_)
        refine lv_iconst (v := 1) hx hb dX5_grant_31 (by decide) ?_
        refine g_cWi (k2 := 0) (n2 := 0) (g_runV (rest := []) hC (c_X5_isThrown hE (β := β) (μ := μ) (K := K) (dp := dp) (th := th) r89 1 (bz.nar h90)) Y_X5_isThrown k_1084 I_X5_isThrown V_X5_isThrown hR.obj rfl hR rfl hl.1 dX5_grant_32 ⟨Nat.le_of_ble_eq_true rfl, Nat.le_of_ble_eq_true rfl⟩ ⟨Nat.le_of_ble_eq_true rfl, Nat.le_of_ble_eq_true rfl⟩ rfl (Nat.le_of_ble_eq_true rfl)) hS (fun _ h => h) rfl rfl (fun r91 H lo h92 _ _ hS => ?_)
        obtain ⟨rfl, hR⟩ := h92
        refine lv_if_ne (tgt := 99) hx hb dX5_grant_35 (by decide) (fun c93 => ?_) (fun c93 => ?_)
        · have q94 := bz.t h90 c93
          rw [thr_1 c93] at hR
          refine lv_iconst (v := 0) hx hb dX5_grant_99 (by decide) ?_
          exact g_iretW hC hr dX5_grant_100 hS (Nat.le_of_ble_eq_true rfl) (Nat.le_of_ble_eq_true rfl) (mPost_k 1 (by unfold kGrant; rw [cif_pos (by grind)]) (by decide) rfl hR)
        · have q94 := bz.f h90 c93
          rw [thr_0 c93] at hR
          refine lv_aload_n hx hb dX5_grant_38 rfl (lv_at hl 1 rfl) ?_
          refine lv_iload_n hx hb dX5_grant_39 rfl (lv_at hl 3 rfl) ?_
          refine lv_iconst (v := 0) hx hb dX5_grant_40 (by decide) ?_
          refine lv_iconst (v := 3) hx hb dX5_grant_41 (by decide) ?_
          refine g_cRi (k2 := 0) (n2 := 0) (g_runS (rest := [.ref (β 19)]) hC (c_X5_isIn hE k0 0 3) Y_X5_isIn k_1096 S_X5_isIn trivial rfl hl.1 dX5_grant_42 ⟨Nat.le_of_ble_eq_true rfl, Nat.le_of_ble_eq_true rfl⟩ ⟨Nat.le_of_ble_eq_true rfl, Nat.le_of_ble_eq_true rfl⟩ rfl (Nat.le_of_ble_eq_true rfl)) rfl rfl g_no (fun r95 h96 => ?_)
          refine lv_if_eq (tgt := 65) hx hb dX5_grant_45 (by decide) (fun c97 => ?_) (fun c97 => ?_)
          · have q98 := bz.f h96 c97
            refine lv_iconst (v := 1) hx hb dX5_grant_65 (by decide) ?_
            refine lv_goto (tgt := 70) hx hb dX5_grant_66 (by decide) ?_
            refine lv_iconst (v := 2) hx hb dX5_grant_70 (by decide) ?_
            refine g_cWi (k2 := 0) (n2 := 0) (g_runV (rest := []) hC (c_X5_isThrown hE (β := β) (μ := μ) (K := K) (dp := dp) (th := 0) 1 2 rfl) Y_X5_isThrown k_1084 I_X5_isThrown V_X5_isThrown hR.obj rfl hR rfl hl.1 dX5_grant_71 ⟨Nat.le_of_ble_eq_true rfl, Nat.le_of_ble_eq_true rfl⟩ ⟨Nat.le_of_ble_eq_true rfl, Nat.le_of_ble_eq_true rfl⟩ rfl (Nat.le_of_ble_eq_true rfl)) hS (fun _ h => h) rfl rfl (fun r99 H lo h100 _ _ hS => ?_)
            obtain ⟨rfl, hR⟩ := h100
            have hR : RM E β μ K dp 2 H := hR
            refine lv_if_ne (tgt := 99) hx hb dX5_grant_74 (by decide) (fun c101 => ?_) (fun c101 => ?_)
            · refine lv_iconst (v := 0) hx hb dX5_grant_99 (by decide) ?_
              exact g_iretW hC hr dX5_grant_100 hS (Nat.le_of_ble_eq_true rfl) (Nat.le_of_ble_eq_true rfl) (mPost_k 2 (by unfold kGrant; rw [cif_neg (by grind), cif_pos (by grind)]) (by decide) rfl hR)
            · exact absurd c101 (by decide)
          · have q98 := bz.t h96 c97
            refine lv_iload hx hb dX5_grant_48 (lv_at hl 0 rfl) ?_
            refine lv_if_eq (tgt := 65) hx hb dX5_grant_50 (by decide) (fun c102 => ?_) (fun c102 => ?_)
            · exact absurd c102 (by decide)
            · refine lv_iload hx hb dX5_grant_53 (lv_at hl 5 rfl) ?_
              refine lv_iload hx hb dX5_grant_55 (lv_at hl 6 rfl) ?_
              refine lv_iload hx hb dX5_grant_57 (lv_at hl 7 rfl) ?_
              refine g_cRi (k2 := 0) (n2 := 0) (g_runS (rest := [.ref (β 19)]) hC (c_X5_isPower hE li fi la) Y_X5_isPower k_1115 S_X5_isPower trivial rfl hl.1 dX5_grant_59 ⟨Nat.le_of_ble_eq_true rfl, Nat.le_of_ble_eq_true rfl⟩ ⟨Nat.le_of_ble_eq_true rfl, Nat.le_of_ble_eq_true rfl⟩ rfl (Nat.le_of_ble_eq_true rfl)) rfl rfl g_no (fun r103 h104 => ?_)
              refine lv_if_ne (tgt := 69) hx hb dX5_grant_62 (by decide) (fun c105 => ?_) (fun c105 => ?_)
              · have q106 := bz.t h104 c105
                refine lv_iconst (v := 0) hx hb dX5_grant_69 (by decide) ?_
                refine lv_iconst (v := 2) hx hb dX5_grant_70 (by decide) ?_
                refine g_cWi (k2 := 0) (n2 := 0) (g_runV (rest := []) hC (c_X5_isThrown hE (β := β) (μ := μ) (K := K) (dp := dp) (th := 0) 0 2 rfl) Y_X5_isThrown k_1084 I_X5_isThrown V_X5_isThrown hR.obj rfl hR rfl hl.1 dX5_grant_71 ⟨Nat.le_of_ble_eq_true rfl, Nat.le_of_ble_eq_true rfl⟩ ⟨Nat.le_of_ble_eq_true rfl, Nat.le_of_ble_eq_true rfl⟩ rfl (Nat.le_of_ble_eq_true rfl)) hS (fun _ h => h) rfl rfl (fun r107 H lo h108 _ _ hS => ?_)
                obtain ⟨rfl, hR⟩ := h108
                have hR : RM E β μ K dp 0 H := hR
                refine lv_if_ne (tgt := 99) hx hb dX5_grant_74 (by decide) (fun c109 => ?_) (fun c109 => ?_)
                · exact absurd c109 (by decide)
                · refine lv_aload_n hx hb dX5_grant_77 rfl (lv_at hl 1 rfl) ?_
                  refine lv_aload_n hx hb dX5_grant_78 rfl (lv_at hl 1 rfl) ?_
                  refine g_get (v := .int (nI (K 1))) hC hR.obj (C := RX5) (T := TX5) (N := 26) rfl u5_in 20 (by decide) k_1016 rfl dX5_grant_79 ?_
                  refine lv_bipush (v := 20) hx hb dX5_grant_82 (by decide) ?_
                  refine lv_icmp_ne (tgt := 91) hx hb dX5_grant_84 (by decide) (fun c110 => ?_) (fun c110 => ?_)
                  · have n111 : ¬ (K 1) = 20 := fun z => c110 (congrArg nI z)
                    refine lv_iconst (v := 0) hx hb dX5_grant_91 (by decide) ?_
                    refine lv_iconst (v := 3) hx hb dX5_grant_92 (by decide) ?_
                    refine g_cWi (k2 := 0) (n2 := 0) (g_runV (rest := []) hC (c_X5_isThrown hE (β := β) (μ := μ) (K := K) (dp := dp) (th := 0) 0 3 rfl) Y_X5_isThrown k_1084 I_X5_isThrown V_X5_isThrown hR.obj rfl hR rfl hl.1 dX5_grant_93 ⟨Nat.le_of_ble_eq_true rfl, Nat.le_of_ble_eq_true rfl⟩ ⟨Nat.le_of_ble_eq_true rfl, Nat.le_of_ble_eq_true rfl⟩ rfl (Nat.le_of_ble_eq_true rfl)) hS (fun _ h => h) rfl rfl (fun r112 H lo h113 _ _ hS => ?_)
                    obtain ⟨rfl, hR⟩ := h113
                    have hR : RM E β μ K dp 0 H := hR
                    refine lv_if_eq (tgt := 101) hx hb dX5_grant_96 (by decide) (fun c114 => ?_) (fun c114 => ?_)
                    · refine lv_aload_n hx hb dX5_grant_101 rfl (lv_at hl 1 rfl) ?_
                      refine lv_iload_n hx hb dX5_grant_102 rfl (lv_at hl 2 rfl) ?_
                      refine lv_iload_n hx hb dX5_grant_103 rfl (lv_at hl 3 rfl) ?_
                      refine lv_iload_n hx hb dX5_grant_104 rfl (lv_at hl 4 rfl) ?_
                      refine lv_iload hx hb dX5_grant_105 (lv_at hl 5 rfl) ?_
                      refine lv_iload hx hb dX5_grant_107 (lv_at hl 6 rfl) ?_
                      refine lv_iload hx hb dX5_grant_109 (lv_at hl 7 rfl) ?_
                      refine lv_iconst (v := (-1)) hx hb dX5_grant_111 (by decide) ?_
                      refine g_cWi (k2 := 0) (n2 := 0) (g_runV (rest := []) hC (c_X5_adds hE (β := β) (μ := μ) (K := K) (dp := dp) (th := 0) ⟨hK0, hK1, hK2, hSr, hHo, hTd⟩ h0 k0 ha li fi la ((-1)) (by first | assumption | exact hcs _ (by omega)) (by omega)) Y_X5_adds k_1119 I_X5_adds V_X5_adds hR.obj rfl hR rfl hl.1 dX5_grant_112 ⟨Nat.le_of_ble_eq_true rfl, Nat.le_of_ble_eq_true rfl⟩ ⟨Nat.le_of_ble_eq_true rfl, Nat.le_of_ble_eq_true rfl⟩ rfl (Nat.le_of_ble_eq_true rfl)) hS (fun _ h => h) rfl rfl (fun r115 H lo h116 _ _ hS => ?_)
                      obtain ⟨rfl, hR⟩ := h116
                      exact g_iretW hC hr dX5_grant_115 hS (Nat.le_of_ble_eq_true rfl) (Nat.le_of_ble_eq_true rfl) (mPost_0 (by unfold kGrant; rw [cif_neg (by grind), cif_neg (by grind), cif_neg (by grind)]) hR rfl rfl rfl)
                    · exact absurd (by decide) c114
                  · have n111 : (K 1) = 20 := (nI_eq (by omega) (by omega)).mp c110
                    refine lv_iconst (v := 1) hx hb dX5_grant_87 (by decide) ?_
                    refine lv_goto (tgt := 92) hx hb dX5_grant_88 (by decide) ?_
                    refine lv_iconst (v := 3) hx hb dX5_grant_92 (by decide) ?_
                    refine g_cWi (k2 := 0) (n2 := 0) (g_runV (rest := []) hC (c_X5_isThrown hE (β := β) (μ := μ) (K := K) (dp := dp) (th := 0) 1 3 rfl) Y_X5_isThrown k_1084 I_X5_isThrown V_X5_isThrown hR.obj rfl hR rfl hl.1 dX5_grant_93 ⟨Nat.le_of_ble_eq_true rfl, Nat.le_of_ble_eq_true rfl⟩ ⟨Nat.le_of_ble_eq_true rfl, Nat.le_of_ble_eq_true rfl⟩ rfl (Nat.le_of_ble_eq_true rfl)) hS (fun _ h => h) rfl rfl (fun r117 H lo h118 _ _ hS => ?_)
                    obtain ⟨rfl, hR⟩ := h118
                    have hR : RM E β μ K dp 3 H := hR
                    refine lv_if_eq (tgt := 101) hx hb dX5_grant_96 (by decide) (fun c119 => ?_) (fun c119 => ?_)
                    · exact absurd c119 (by decide)
                    · refine lv_iconst (v := 0) hx hb dX5_grant_99 (by decide) ?_
                      exact g_iretW hC hr dX5_grant_100 hS (Nat.le_of_ble_eq_true rfl) (Nat.le_of_ble_eq_true rfl) (mPost_k 3 (by unfold kGrant; rw [cif_neg (by grind), cif_neg (by grind), cif_pos (by grind)]) (by decide) rfl hR)
              · have q106 := bz.f h104 c105
                refine lv_iconst (v := 1) hx hb dX5_grant_65 (by decide) ?_
                refine lv_goto (tgt := 70) hx hb dX5_grant_66 (by decide) ?_
                refine lv_iconst (v := 2) hx hb dX5_grant_70 (by decide) ?_
                refine g_cWi (k2 := 0) (n2 := 0) (g_runV (rest := []) hC (c_X5_isThrown hE (β := β) (μ := μ) (K := K) (dp := dp) (th := 0) 1 2 rfl) Y_X5_isThrown k_1084 I_X5_isThrown V_X5_isThrown hR.obj rfl hR rfl hl.1 dX5_grant_71 ⟨Nat.le_of_ble_eq_true rfl, Nat.le_of_ble_eq_true rfl⟩ ⟨Nat.le_of_ble_eq_true rfl, Nat.le_of_ble_eq_true rfl⟩ rfl (Nat.le_of_ble_eq_true rfl)) hS (fun _ h => h) rfl rfl (fun r120 H lo h121 _ _ hS => ?_)
                obtain ⟨rfl, hR⟩ := h121
                have hR : RM E β μ K dp 2 H := hR
                refine lv_if_ne (tgt := 99) hx hb dX5_grant_74 (by decide) (fun c122 => ?_) (fun c122 => ?_)
                · refine lv_iconst (v := 0) hx hb dX5_grant_99 (by decide) ?_
                  exact g_iretW hC hr dX5_grant_100 hS (Nat.le_of_ble_eq_true rfl) (Nat.le_of_ble_eq_true rfl) (mPost_k 2 (by unfold kGrant; rw [cif_neg (by grind), cif_pos (by grind)]) (by decide) rfl hR)
                · exact absurd c122 (by decide)
set_option maxHeartbeats 4000000 in
set_option maxRecDepth 100000 in
theorem c_X5_delegate {l : Launch} {E : gV} (hE : gOK l E) {β : Nat → Nat} {μ : F2} {K : Nat → Nat} {dp th : Int32} (hI : MI μ K) (p0 : Int32) (h0 : Int32) (li : Int32) (fi : Int32) (la : Int32) (hcs : ∀ i, i < K 1 → narrow .char (.int (μ 9 i)) = .int (μ 9 i)) : gM l E yX5_delegate cX5_delegate 7 (some .int) ({ frames := 2, cells := 0, slots := 0, locals := 44 } : Room) [.ref (β 19), .int p0, .int h0, .int li, .int fi, .int la] (fun H => RM E β μ K dp th H) (gQW (mA β) (gWi (fun r H => mPost E β μ K (kDel (mv μ) (K 0) (K 1) p0 h0 li fi la) (mAdds μ (K 1) h0 (μ 4 (ix p0)) (μ 9 (ix p0)) li fi la p0) (updN K 1 (K 1 + 1)) (r = nI (K 1)) H))) (fun _ => False) (mA β) := by
  refine gM_body hE (by decide +kernel) (Nat.le_of_ble_eq_true rfl) ?_
  intro p_ e_ s m args below meth c hC ht hr hname hP ls hl
  have hx := hC.2.2.1
  have hb := hC.2.2.2.1
  have hl : lv_has ls 7 [(0, .ref (β 19)), (1, .int p0), (2, .int h0), (3, .int li), (4, .int fi), (5, .int la)] := hl
  have hS : va_S ((mA β)) s.heap s.heap [] := va_S.rf
  have hR : RM E β μ K dp th s.heap := hP
  obtain ⟨hK0, hK1, hK2, hSr, hHo, hTd⟩ := hI
  refine lv_aload_n hx hb dX5_delegate_0 rfl (lv_at hl 0 rfl) ?_
  refine lv_iload_n hx hb dX5_delegate_1 rfl (lv_at hl 1 rfl) ?_
  refine lv_iconst (v := 0) hx hb dX5_delegate_2 (by decide) ?_
  refine lv_aload_n hx hb dX5_delegate_3 rfl (lv_at hl 0 rfl) ?_
  refine g_get (v := .int (nI (K 1))) hC hR.obj (C := RX5) (T := TX5) (N := 26) rfl u5_in 20 (by decide) k_1016 rfl dX5_delegate_4 ?_
  refine lv_iconst (v := 1) hx hb dX5_delegate_7 (by decide) ?_
  refine lv_isub hx hb dX5_delegate_8 ?_
  refine g_cRi (k2 := 0) (n2 := 0) (g_runS (rest := [.ref (β 19)]) hC (c_X5_isIn hE p0 0 ((nI (K 1)) - 1)) Y_X5_isIn k_1096 S_X5_isIn trivial rfl hl.1 dX5_delegate_9 ⟨Nat.le_of_ble_eq_true rfl, Nat.le_of_ble_eq_true rfl⟩ ⟨Nat.le_of_ble_eq_true rfl, Nat.le_of_ble_eq_true rfl⟩ rfl (Nat.le_of_ble_eq_true rfl)) rfl rfl g_no (fun r1 h2 => ?_)
  have f3 := h2.iff (isIn_1 (by omega))
  refine lv_if_eq (tgt := 23) hx hb dX5_delegate_12 (by decide) (fun c4 => ?_) (fun c4 => ?_)
  · have q5 := bz.f f3 c4
    refine lv_iconst (v := 1) hx hb dX5_delegate_23 (by decide) ?_
    refine lv_goto (tgt := 28) hx hb dX5_delegate_24 (by decide) ?_
    refine lv_iconst (v := 1) hx hb dX5_delegate_28 (by decide) ?_
    refine g_cWi (k2 := 0) (n2 := 0) (g_runV (rest := []) hC (c_X5_isThrown hE (β := β) (μ := μ) (K := K) (dp := dp) (th := th) 1 1 rfl) Y_X5_isThrown k_1084 I_X5_isThrown V_X5_isThrown hR.obj rfl hR rfl hl.1 dX5_delegate_29 ⟨Nat.le_of_ble_eq_true rfl, Nat.le_of_ble_eq_true rfl⟩ ⟨Nat.le_of_ble_eq_true rfl, Nat.le_of_ble_eq_true rfl⟩ rfl (Nat.le_of_ble_eq_true rfl)) hS (fun _ h => h) rfl rfl (fun r6 H lo h7 _ _ hS => ?_)
    obtain ⟨rfl, hR⟩ := h7
    have hR : RM E β μ K dp 1 H := hR
    refine lv_if_ne (tgt := 59) hx hb dX5_delegate_32 (by decide) (fun c8 => ?_) (fun c8 => ?_)
    · refine lv_iconst (v := 0) hx hb dX5_delegate_59 (by decide) ?_
      exact g_iretW hC hr dX5_delegate_60 hS (Nat.le_of_ble_eq_true rfl) (Nat.le_of_ble_eq_true rfl) (mPost_k 1 (by unfold kDel; rw [cif_pos (by grind)]) (by decide) rfl hR)
    · exact absurd c8 (by decide)
  · have q5 := bz.t f3 c4
    refine lv_aload_n hx hb dX5_delegate_15 rfl (lv_at hl 0 rfl) ?_
    refine lv_iload_n hx hb dX5_delegate_16 rfl (lv_at hl 2 rfl) ?_
    refine g_cRi (k2 := 0) (n2 := 0) (g_runV (rest := [.ref (β 19)]) hC (c_X5_isNobody hE (β := β) (μ := μ) (K := K) (dp := dp) (th := th) (by omega) h0) Y_X5_isNobody k_1092 I_X5_isNobody V_X5_isNobody hR.obj rfl hR rfl hl.1 dX5_delegate_17 ⟨Nat.le_of_ble_eq_true rfl, Nat.le_of_ble_eq_true rfl⟩ ⟨Nat.le_of_ble_eq_true rfl, Nat.le_of_ble_eq_true rfl⟩ rfl (Nat.le_of_ble_eq_true rfl)) rfl rfl g_no (fun r9 h10 => ?_)
    refine lv_if_eq (tgt := 27) hx hb dX5_delegate_20 (by decide) (fun c11 => ?_) (fun c11 => ?_)
    · have q12 := bz.f h10 c11
      refine lv_iconst (v := 0) hx hb dX5_delegate_27 (by decide) ?_
      refine lv_iconst (v := 1) hx hb dX5_delegate_28 (by decide) ?_
      refine g_cWi (k2 := 0) (n2 := 0) (g_runV (rest := []) hC (c_X5_isThrown hE (β := β) (μ := μ) (K := K) (dp := dp) (th := th) 0 1 rfl) Y_X5_isThrown k_1084 I_X5_isThrown V_X5_isThrown hR.obj rfl hR rfl hl.1 dX5_delegate_29 ⟨Nat.le_of_ble_eq_true rfl, Nat.le_of_ble_eq_true rfl⟩ ⟨Nat.le_of_ble_eq_true rfl, Nat.le_of_ble_eq_true rfl⟩ rfl (Nat.le_of_ble_eq_true rfl)) hS (fun _ h => h) rfl rfl (fun r13 H lo h14 _ _ hS => ?_)
      obtain ⟨rfl, hR⟩ := h14
      have hR : RM E β μ K dp 0 H := hR
      refine lv_if_ne (tgt := 59) hx hb dX5_delegate_32 (by decide) (fun c15 => ?_) (fun c15 => ?_)
      · exact absurd c15 (by decide)
      · refine lv_aload_n hx hb dX5_delegate_35 rfl (lv_at hl 0 rfl) ?_
        refine lv_iload_n hx hb dX5_delegate_36 rfl (lv_at hl 3 rfl) ?_
        refine lv_iload hx hb dX5_delegate_37 (lv_at hl 4 rfl) ?_
        refine lv_iload hx hb dX5_delegate_39 (lv_at hl 5 rfl) ?_
        refine g_cRi (k2 := 0) (n2 := 0) (g_runS (rest := [.ref (β 19)]) hC (c_X5_isPower hE li fi la) Y_X5_isPower k_1115 S_X5_isPower trivial rfl hl.1 dX5_delegate_41 ⟨Nat.le_of_ble_eq_true rfl, Nat.le_of_ble_eq_true rfl⟩ ⟨Nat.le_of_ble_eq_true rfl, Nat.le_of_ble_eq_true rfl⟩ rfl (Nat.le_of_ble_eq_true rfl)) rfl rfl g_no (fun r16 h17 => ?_)
        refine lv_if_ne (tgt := 51) hx hb dX5_delegate_44 (by decide) (fun c18 => ?_) (fun c18 => ?_)
        · have q19 := bz.t h17 c18
          refine lv_iconst (v := 0) hx hb dX5_delegate_51 (by decide) ?_
          refine lv_iconst (v := 2) hx hb dX5_delegate_52 (by decide) ?_
          refine g_cWi (k2 := 0) (n2 := 0) (g_runV (rest := []) hC (c_X5_isThrown hE (β := β) (μ := μ) (K := K) (dp := dp) (th := 0) 0 2 rfl) Y_X5_isThrown k_1084 I_X5_isThrown V_X5_isThrown hR.obj rfl hR rfl hl.1 dX5_delegate_53 ⟨Nat.le_of_ble_eq_true rfl, Nat.le_of_ble_eq_true rfl⟩ ⟨Nat.le_of_ble_eq_true rfl, Nat.le_of_ble_eq_true rfl⟩ rfl (Nat.le_of_ble_eq_true rfl)) hS (fun _ h => h) rfl rfl (fun r20 H lo h21 _ _ hS => ?_)
          obtain ⟨rfl, hR⟩ := h21
          have hR : RM E β μ K dp 0 H := hR
          refine lv_if_eq (tgt := 61) hx hb dX5_delegate_56 (by decide) (fun c22 => ?_) (fun c22 => ?_)
          · refine lv_iload_n hx hb dX5_delegate_61 rfl (lv_at hl 2 rfl) ?_
            refine lv_aload_n hx hb dX5_delegate_62 rfl (lv_at hl 0 rfl) ?_
            refine g_get (v := .ref (β 3)) hC hR.obj (C := RX5) (T := TX5) (N := 26) rfl u5_in 3 (by decide) k_999 rfl dX5_delegate_63 ?_
            refine lv_iload_n hx hb dX5_delegate_66 rfl (lv_at hl 1 rfl) ?_
            obtain ⟨j_p0, hj_p0, rfl⟩ := isP_of (n := K 1) (p := p0) (by first | exact Classical.not_not.mp (by assumption) | assumption) (by omega)
            have ej_p0 : (nI j_p0).toNatClampNeg = j_p0 := nI_clamp (by omega)
            have ipj_p0 : isP (K 1) (nI j_p0) := isP_nI hj_p0 (by omega)
            refine g_iald (n := 20) (f := μ 3) (j := j_p0) hC (hR.arr 3 (by decide) rfl rfl) (by omega) (by decide) dX5_delegate_67 ?_
            refine lv_icmp_eq (tgt := 107) hx hb dX5_delegate_68 (by decide) (fun c23 => ?_) (fun c23 => ?_)
            · refine lv_iconst (v := 0) hx hb dX5_delegate_107 (by decide) ?_
              refine lv_istore (lv' := [(6, .int 0), (0, .ref (β 19)), (1, .int (nI j_p0)), (2, .int h0), (3, .int li), (4, .int fi), (5, .int la)]) hx hb dX5_delegate_108 hl (by decide) rfl (fun ls hl => ?_)
              refine lv_aload_n hx hb dX5_delegate_110 rfl (lv_at hl 1 rfl) ?_
              refine lv_iload hx hb dX5_delegate_111 (lv_at hl 0 rfl) ?_
              refine lv_if_ne (tgt := 120) hx hb dX5_delegate_113 (by decide) (fun c24 => ?_) (fun c24 => ?_)
              · exact absurd c24 (by decide)
              · refine lv_iconst (v := 1) hx hb dX5_delegate_116 (by decide) ?_
                refine lv_goto (tgt := 121) hx hb dX5_delegate_117 (by decide) ?_
                refine lv_iconst (v := 3) hx hb dX5_delegate_121 (by decide) ?_
                refine g_cWi (k2 := 0) (n2 := 0) (g_runV (rest := []) hC (c_X5_isThrown hE (β := β) (μ := μ) (K := K) (dp := dp) (th := 0) 1 3 rfl) Y_X5_isThrown k_1084 I_X5_isThrown V_X5_isThrown hR.obj rfl hR rfl hl.1 dX5_delegate_122 ⟨Nat.le_of_ble_eq_true rfl, Nat.le_of_ble_eq_true rfl⟩ ⟨Nat.le_of_ble_eq_true rfl, Nat.le_of_ble_eq_true rfl⟩ rfl (Nat.le_of_ble_eq_true rfl)) hS (fun _ h => h) rfl rfl (fun r25 H lo h26 _ _ hS => ?_)
                obtain ⟨rfl, hR⟩ := h26
                have hR : RM E β μ K dp 3 H := hR
                refine lv_if_ne (tgt := 159) hx hb dX5_delegate_125 (by decide) (fun c27 => ?_) (fun c27 => ?_)
                · refine lv_iconst (v := 0) hx hb dX5_delegate_159 (by decide) ?_
                  exact g_iretW hC hr dX5_delegate_160 hS (Nat.le_of_ble_eq_true rfl) (Nat.le_of_ble_eq_true rfl) (mPost_k 3 (by unfold kDel; rw [cif_neg (by first | grind | (simp only [ix, ej_p0, mv, mw]; grind)), cif_neg (by first | grind | (simp only [ix, ej_p0, mv, mw]; grind)), cif_pos (by first | grind | (simp only [ix, ej_p0, mv, mw]; grind))]) (by decide) rfl hR)
                · exact absurd c27 (by decide)
            · refine lv_iload_n hx hb dX5_delegate_71 rfl (lv_at hl 3 rfl) ?_
              refine lv_aload_n hx hb dX5_delegate_72 rfl (lv_at hl 0 rfl) ?_
              refine g_get (v := .ref (β 5)) hC hR.obj (C := RX5) (T := TX5) (N := 26) rfl u5_in 5 (by decide) k_1001 rfl dX5_delegate_73 ?_
              refine lv_iload_n hx hb dX5_delegate_76 rfl (lv_at hl 1 rfl) ?_
              refine g_iald (n := 20) (f := μ 5) (j := j_p0) hC (hR.arr 5 (by decide) rfl rfl) (by omega) (by decide) dX5_delegate_77 ?_
              refine lv_icmp_gt (tgt := 107) hx hb dX5_delegate_78 (by decide) (fun c28 => ?_) (fun c28 => ?_)
              · refine lv_iconst (v := 0) hx hb dX5_delegate_107 (by decide) ?_
                refine lv_istore (lv' := [(6, .int 0), (0, .ref (β 19)), (1, .int (nI j_p0)), (2, .int h0), (3, .int li), (4, .int fi), (5, .int la)]) hx hb dX5_delegate_108 hl (by decide) rfl (fun ls hl => ?_)
                refine lv_aload_n hx hb dX5_delegate_110 rfl (lv_at hl 1 rfl) ?_
                refine lv_iload hx hb dX5_delegate_111 (lv_at hl 0 rfl) ?_
                refine lv_if_ne (tgt := 120) hx hb dX5_delegate_113 (by decide) (fun c29 => ?_) (fun c29 => ?_)
                · exact absurd c29 (by decide)
                · refine lv_iconst (v := 1) hx hb dX5_delegate_116 (by decide) ?_
                  refine lv_goto (tgt := 121) hx hb dX5_delegate_117 (by decide) ?_
                  refine lv_iconst (v := 3) hx hb dX5_delegate_121 (by decide) ?_
                  refine g_cWi (k2 := 0) (n2 := 0) (g_runV (rest := []) hC (c_X5_isThrown hE (β := β) (μ := μ) (K := K) (dp := dp) (th := 0) 1 3 rfl) Y_X5_isThrown k_1084 I_X5_isThrown V_X5_isThrown hR.obj rfl hR rfl hl.1 dX5_delegate_122 ⟨Nat.le_of_ble_eq_true rfl, Nat.le_of_ble_eq_true rfl⟩ ⟨Nat.le_of_ble_eq_true rfl, Nat.le_of_ble_eq_true rfl⟩ rfl (Nat.le_of_ble_eq_true rfl)) hS (fun _ h => h) rfl rfl (fun r30 H lo h31 _ _ hS => ?_)
                  obtain ⟨rfl, hR⟩ := h31
                  have hR : RM E β μ K dp 3 H := hR
                  refine lv_if_ne (tgt := 159) hx hb dX5_delegate_125 (by decide) (fun c32 => ?_) (fun c32 => ?_)
                  · refine lv_iconst (v := 0) hx hb dX5_delegate_159 (by decide) ?_
                    exact g_iretW hC hr dX5_delegate_160 hS (Nat.le_of_ble_eq_true rfl) (Nat.le_of_ble_eq_true rfl) (mPost_k 3 (by unfold kDel; rw [cif_neg (by first | grind | (simp only [ix, ej_p0, mv, mw]; grind)), cif_neg (by first | grind | (simp only [ix, ej_p0, mv, mw]; grind)), cif_pos (by first | grind | (simp only [ix, ej_p0, mv, mw]; grind))]) (by decide) rfl hR)
                  · exact absurd c32 (by decide)
              · refine lv_iload hx hb dX5_delegate_81 (lv_at hl 4 rfl) ?_
                refine lv_aload_n hx hb dX5_delegate_83 rfl (lv_at hl 0 rfl) ?_
                refine g_get (v := .ref (β 6)) hC hR.obj (C := RX5) (T := TX5) (N := 26) rfl u5_in 6 (by decide) k_1002 rfl dX5_delegate_84 ?_
                refine lv_iload_n hx hb dX5_delegate_87 rfl (lv_at hl 1 rfl) ?_
                refine g_iald (n := 20) (f := μ 6) (j := j_p0) hC (hR.arr 6 (by decide) rfl rfl) (by omega) (by decide) dX5_delegate_88 ?_
                refine lv_icmp_lt (tgt := 107) hx hb dX5_delegate_89 (by decide) (fun c33 => ?_) (fun c33 => ?_)
                · refine lv_iconst (v := 0) hx hb dX5_delegate_107 (by decide) ?_
                  refine lv_istore (lv' := [(6, .int 0), (0, .ref (β 19)), (1, .int (nI j_p0)), (2, .int h0), (3, .int li), (4, .int fi), (5, .int la)]) hx hb dX5_delegate_108 hl (by decide) rfl (fun ls hl => ?_)
                  refine lv_aload_n hx hb dX5_delegate_110 rfl (lv_at hl 1 rfl) ?_
                  refine lv_iload hx hb dX5_delegate_111 (lv_at hl 0 rfl) ?_
                  refine lv_if_ne (tgt := 120) hx hb dX5_delegate_113 (by decide) (fun c34 => ?_) (fun c34 => ?_)
                  · exact absurd c34 (by decide)
                  · refine lv_iconst (v := 1) hx hb dX5_delegate_116 (by decide) ?_
                    refine lv_goto (tgt := 121) hx hb dX5_delegate_117 (by decide) ?_
                    refine lv_iconst (v := 3) hx hb dX5_delegate_121 (by decide) ?_
                    refine g_cWi (k2 := 0) (n2 := 0) (g_runV (rest := []) hC (c_X5_isThrown hE (β := β) (μ := μ) (K := K) (dp := dp) (th := 0) 1 3 rfl) Y_X5_isThrown k_1084 I_X5_isThrown V_X5_isThrown hR.obj rfl hR rfl hl.1 dX5_delegate_122 ⟨Nat.le_of_ble_eq_true rfl, Nat.le_of_ble_eq_true rfl⟩ ⟨Nat.le_of_ble_eq_true rfl, Nat.le_of_ble_eq_true rfl⟩ rfl (Nat.le_of_ble_eq_true rfl)) hS (fun _ h => h) rfl rfl (fun r35 H lo h36 _ _ hS => ?_)
                    obtain ⟨rfl, hR⟩ := h36
                    have hR : RM E β μ K dp 3 H := hR
                    refine lv_if_ne (tgt := 159) hx hb dX5_delegate_125 (by decide) (fun c37 => ?_) (fun c37 => ?_)
                    · refine lv_iconst (v := 0) hx hb dX5_delegate_159 (by decide) ?_
                      exact g_iretW hC hr dX5_delegate_160 hS (Nat.le_of_ble_eq_true rfl) (Nat.le_of_ble_eq_true rfl) (mPost_k 3 (by unfold kDel; rw [cif_neg (by first | grind | (simp only [ix, ej_p0, mv, mw]; grind)), cif_neg (by first | grind | (simp only [ix, ej_p0, mv, mw]; grind)), cif_pos (by first | grind | (simp only [ix, ej_p0, mv, mw]; grind))]) (by decide) rfl hR)
                    · exact absurd c37 (by decide)
                · refine lv_iload hx hb dX5_delegate_92 (lv_at hl 5 rfl) ?_
                  refine lv_aload_n hx hb dX5_delegate_94 rfl (lv_at hl 0 rfl) ?_
                  refine g_get (v := .ref (β 7)) hC hR.obj (C := RX5) (T := TX5) (N := 26) rfl u5_in 7 (by decide) k_1003 rfl dX5_delegate_95 ?_
                  refine lv_iload_n hx hb dX5_delegate_98 rfl (lv_at hl 1 rfl) ?_
                  refine g_iald (n := 20) (f := μ 7) (j := j_p0) hC (hR.arr 7 (by decide) rfl rfl) (by omega) (by decide) dX5_delegate_99 ?_
                  refine lv_icmp_gt (tgt := 107) hx hb dX5_delegate_100 (by decide) (fun c38 => ?_) (fun c38 => ?_)
                  · refine lv_iconst (v := 0) hx hb dX5_delegate_107 (by decide) ?_
                    refine lv_istore (lv' := [(6, .int 0), (0, .ref (β 19)), (1, .int (nI j_p0)), (2, .int h0), (3, .int li), (4, .int fi), (5, .int la)]) hx hb dX5_delegate_108 hl (by decide) rfl (fun ls hl => ?_)
                    refine lv_aload_n hx hb dX5_delegate_110 rfl (lv_at hl 1 rfl) ?_
                    refine lv_iload hx hb dX5_delegate_111 (lv_at hl 0 rfl) ?_
                    refine lv_if_ne (tgt := 120) hx hb dX5_delegate_113 (by decide) (fun c39 => ?_) (fun c39 => ?_)
                    · exact absurd c39 (by decide)
                    · refine lv_iconst (v := 1) hx hb dX5_delegate_116 (by decide) ?_
                      refine lv_goto (tgt := 121) hx hb dX5_delegate_117 (by decide) ?_
                      refine lv_iconst (v := 3) hx hb dX5_delegate_121 (by decide) ?_
                      refine g_cWi (k2 := 0) (n2 := 0) (g_runV (rest := []) hC (c_X5_isThrown hE (β := β) (μ := μ) (K := K) (dp := dp) (th := 0) 1 3 rfl) Y_X5_isThrown k_1084 I_X5_isThrown V_X5_isThrown hR.obj rfl hR rfl hl.1 dX5_delegate_122 ⟨Nat.le_of_ble_eq_true rfl, Nat.le_of_ble_eq_true rfl⟩ ⟨Nat.le_of_ble_eq_true rfl, Nat.le_of_ble_eq_true rfl⟩ rfl (Nat.le_of_ble_eq_true rfl)) hS (fun _ h => h) rfl rfl (fun r40 H lo h41 _ _ hS => ?_)
                      obtain ⟨rfl, hR⟩ := h41
                      have hR : RM E β μ K dp 3 H := hR
                      refine lv_if_ne (tgt := 159) hx hb dX5_delegate_125 (by decide) (fun c42 => ?_) (fun c42 => ?_)
                      · refine lv_iconst (v := 0) hx hb dX5_delegate_159 (by decide) ?_
                        exact g_iretW hC hr dX5_delegate_160 hS (Nat.le_of_ble_eq_true rfl) (Nat.le_of_ble_eq_true rfl) (mPost_k 3 (by unfold kDel; rw [cif_neg (by first | grind | (simp only [ix, ej_p0, mv, mw]; grind)), cif_neg (by first | grind | (simp only [ix, ej_p0, mv, mw]; grind)), cif_pos (by first | grind | (simp only [ix, ej_p0, mv, mw]; grind))]) (by decide) rfl hR)
                      · exact absurd c42 (by decide)
                  · refine lv_iconst (v := 1) hx hb dX5_delegate_103 (by decide) ?_
                    refine lv_goto (tgt := 108) hx hb dX5_delegate_104 (by decide) ?_
                    refine lv_istore (lv' := [(6, .int 1), (0, .ref (β 19)), (1, .int (nI j_p0)), (2, .int h0), (3, .int li), (4, .int fi), (5, .int la)]) hx hb dX5_delegate_108 hl (by decide) rfl (fun ls hl => ?_)
                    refine lv_aload_n hx hb dX5_delegate_110 rfl (lv_at hl 1 rfl) ?_
                    refine lv_iload hx hb dX5_delegate_111 (lv_at hl 0 rfl) ?_
                    refine lv_if_ne (tgt := 120) hx hb dX5_delegate_113 (by decide) (fun c43 => ?_) (fun c43 => ?_)
                    · refine lv_iconst (v := 0) hx hb dX5_delegate_120 (by decide) ?_
                      refine lv_iconst (v := 3) hx hb dX5_delegate_121 (by decide) ?_
                      refine g_cWi (k2 := 0) (n2 := 0) (g_runV (rest := []) hC (c_X5_isThrown hE (β := β) (μ := μ) (K := K) (dp := dp) (th := 0) 0 3 rfl) Y_X5_isThrown k_1084 I_X5_isThrown V_X5_isThrown hR.obj rfl hR rfl hl.1 dX5_delegate_122 ⟨Nat.le_of_ble_eq_true rfl, Nat.le_of_ble_eq_true rfl⟩ ⟨Nat.le_of_ble_eq_true rfl, Nat.le_of_ble_eq_true rfl⟩ rfl (Nat.le_of_ble_eq_true rfl)) hS (fun _ h => h) rfl rfl (fun r44 H lo h45 _ _ hS => ?_)
                      obtain ⟨rfl, hR⟩ := h45
                      have hR : RM E β μ K dp 0 H := hR
                      refine lv_if_ne (tgt := 159) hx hb dX5_delegate_125 (by decide) (fun c46 => ?_) (fun c46 => ?_)
                      · exact absurd c46 (by decide)
                      · refine lv_aload_n hx hb dX5_delegate_128 rfl (lv_at hl 1 rfl) ?_
                        refine lv_aload_n hx hb dX5_delegate_129 rfl (lv_at hl 1 rfl) ?_
                        refine g_get (v := .ref (β 1)) hC hR.obj (C := RX5) (T := TX5) (N := 26) rfl u5_in 1 (by decide) k_997 rfl dX5_delegate_130 ?_
                        refine lv_iload_n hx hb dX5_delegate_133 rfl (lv_at hl 2 rfl) ?_
                        refine g_zald (n := 20) (f := μ 1) (j := j_p0) hC (hR.arr 1 (by decide) rfl rfl) (by omega) (by decide) dX5_delegate_134 ?_
                        refine lv_if_ne (tgt := 147) hx hb dX5_delegate_135 (by decide) (fun c47 => ?_) (fun c47 => ?_)
                        · refine lv_iconst (v := 1) hx hb dX5_delegate_147 (by decide) ?_
                          refine lv_goto (tgt := 152) hx hb dX5_delegate_148 (by decide) ?_
                          refine lv_iconst (v := 4) hx hb dX5_delegate_152 (by decide) ?_
                          refine g_cWi (k2 := 0) (n2 := 0) (g_runV (rest := []) hC (c_X5_isThrown hE (β := β) (μ := μ) (K := K) (dp := dp) (th := 0) 1 4 rfl) Y_X5_isThrown k_1084 I_X5_isThrown V_X5_isThrown hR.obj rfl hR rfl hl.1 dX5_delegate_153 ⟨Nat.le_of_ble_eq_true rfl, Nat.le_of_ble_eq_true rfl⟩ ⟨Nat.le_of_ble_eq_true rfl, Nat.le_of_ble_eq_true rfl⟩ rfl (Nat.le_of_ble_eq_true rfl)) hS (fun _ h => h) rfl rfl (fun r49 H lo h50 _ _ hS => ?_)
                          obtain ⟨rfl, hR⟩ := h50
                          have hR : RM E β μ K dp 4 H := hR
                          refine lv_if_eq (tgt := 161) hx hb dX5_delegate_156 (by decide) (fun c51 => ?_) (fun c51 => ?_)
                          · exact absurd c51 (by decide)
                          · refine lv_iconst (v := 0) hx hb dX5_delegate_159 (by decide) ?_
                            exact g_iretW hC hr dX5_delegate_160 hS (Nat.le_of_ble_eq_true rfl) (Nat.le_of_ble_eq_true rfl) (mPost_k 4 (by unfold kDel; rw [cif_neg (by first | grind | (simp only [ix, ej_p0, mv, mw]; grind)), cif_neg (by first | grind | (simp only [ix, ej_p0, mv, mw]; grind)), cif_neg (by first | grind | (simp only [ix, ej_p0, mv, mw]; grind)), cif_pos (by first | grind | (simp only [ix, ej_p0, mv, mw]; grind))]) (by decide) rfl hR)
                        · refine lv_aload_n hx hb dX5_delegate_138 rfl (lv_at hl 1 rfl) ?_
                          refine g_get (v := .int (nI (K 1))) hC hR.obj (C := RX5) (T := TX5) (N := 26) rfl u5_in 20 (by decide) k_1016 rfl dX5_delegate_139 ?_
                          refine lv_bipush (v := 20) hx hb dX5_delegate_142 (by decide) ?_
                          refine lv_icmp_ne (tgt := 151) hx hb dX5_delegate_144 (by decide) (fun c52 => ?_) (fun c52 => ?_)
                          · have n53 : ¬ (K 1) = 20 := fun z => c52 (congrArg nI z)
                            refine lv_iconst (v := 0) hx hb dX5_delegate_151 (by decide) ?_
                            refine lv_iconst (v := 4) hx hb dX5_delegate_152 (by decide) ?_
                            refine g_cWi (k2 := 0) (n2 := 0) (g_runV (rest := []) hC (c_X5_isThrown hE (β := β) (μ := μ) (K := K) (dp := dp) (th := 0) 0 4 rfl) Y_X5_isThrown k_1084 I_X5_isThrown V_X5_isThrown hR.obj rfl hR rfl hl.1 dX5_delegate_153 ⟨Nat.le_of_ble_eq_true rfl, Nat.le_of_ble_eq_true rfl⟩ ⟨Nat.le_of_ble_eq_true rfl, Nat.le_of_ble_eq_true rfl⟩ rfl (Nat.le_of_ble_eq_true rfl)) hS (fun _ h => h) rfl rfl (fun r54 H lo h55 _ _ hS => ?_)
                            obtain ⟨rfl, hR⟩ := h55
                            have hR : RM E β μ K dp 0 H := hR
                            refine lv_if_eq (tgt := 161) hx hb dX5_delegate_156 (by decide) (fun c56 => ?_) (fun c56 => ?_)
                            · refine lv_aload_n hx hb dX5_delegate_161 rfl (lv_at hl 1 rfl) ?_
                              refine lv_iload_n hx hb dX5_delegate_162 rfl (lv_at hl 3 rfl) ?_
                              refine lv_aload_n hx hb dX5_delegate_163 rfl (lv_at hl 1 rfl) ?_
                              refine g_get (v := .ref (β 4)) hC hR.obj (C := RX5) (T := TX5) (N := 26) rfl u5_in 4 (by decide) k_1000 rfl dX5_delegate_164 ?_
                              refine lv_iload_n hx hb dX5_delegate_167 rfl (lv_at hl 2 rfl) ?_
                              refine g_iald (n := 20) (f := μ 4) (j := j_p0) hC (hR.arr 4 (by decide) rfl rfl) (by omega) (by decide) dX5_delegate_168 ?_
                              refine lv_aload_n hx hb dX5_delegate_169 rfl (lv_at hl 1 rfl) ?_
                              refine g_get (v := .ref (β 9)) hC hR.obj (C := RX5) (T := TX5) (N := 26) rfl u5_in 9 (by decide) k_1005 rfl dX5_delegate_170 ?_
                              refine lv_iload_n hx hb dX5_delegate_173 rfl (lv_at hl 2 rfl) ?_
                              refine g_cald (n := 20) (f := μ 9) (j := j_p0) hC (hR.arr 9 (by decide) rfl rfl) (by omega) (by decide) dX5_delegate_174 ?_
                              refine lv_iload_n hx hb dX5_delegate_175 rfl (lv_at hl 4 rfl) ?_
                              refine lv_iload hx hb dX5_delegate_176 (lv_at hl 5 rfl) ?_
                              refine lv_iload hx hb dX5_delegate_178 (lv_at hl 6 rfl) ?_
                              refine lv_iload_n hx hb dX5_delegate_180 rfl (lv_at hl 2 rfl) ?_
                              refine g_cWi (k2 := 0) (n2 := 0) (g_runV (rest := []) hC (c_X5_adds hE (β := β) (μ := μ) (K := K) (dp := dp) (th := 0) ⟨hK0, hK1, hK2, hSr, hHo, hTd⟩ h0 (μ 4 j_p0) (μ 9 j_p0) li fi la (nI j_p0) (by first | assumption | exact hcs _ (by omega)) (by omega)) Y_X5_adds k_1119 I_X5_adds V_X5_adds hR.obj rfl hR rfl hl.1 dX5_delegate_181 ⟨Nat.le_of_ble_eq_true rfl, Nat.le_of_ble_eq_true rfl⟩ ⟨Nat.le_of_ble_eq_true rfl, Nat.le_of_ble_eq_true rfl⟩ rfl (Nat.le_of_ble_eq_true rfl)) hS (fun _ h => h) rfl rfl (fun r57 H lo h58 _ _ hS => ?_)
                              obtain ⟨rfl, hR⟩ := h58
                              exact g_iretW hC hr dX5_delegate_184 hS (Nat.le_of_ble_eq_true rfl) (Nat.le_of_ble_eq_true rfl) (mPost_0 (by unfold kDel; rw [cif_neg (by first | grind | (simp only [ix, ej_p0, mv, mw]; grind)), cif_neg (by first | grind | (simp only [ix, ej_p0, mv, mw]; grind)), cif_neg (by first | grind | (simp only [ix, ej_p0, mv, mw]; grind)), cif_neg (by first | grind | (simp only [ix, ej_p0, mv, mw]; grind))]) hR (by simp only [ix, ej_p0]) rfl rfl)
                            · exact absurd (by decide) c56
                          · have n53 : (K 1) = 20 := (nI_eq (by omega) (by omega)).mp c52
                            refine lv_iconst (v := 1) hx hb dX5_delegate_147 (by decide) ?_
                            refine lv_goto (tgt := 152) hx hb dX5_delegate_148 (by decide) ?_
                            refine lv_iconst (v := 4) hx hb dX5_delegate_152 (by decide) ?_
                            refine g_cWi (k2 := 0) (n2 := 0) (g_runV (rest := []) hC (c_X5_isThrown hE (β := β) (μ := μ) (K := K) (dp := dp) (th := 0) 1 4 rfl) Y_X5_isThrown k_1084 I_X5_isThrown V_X5_isThrown hR.obj rfl hR rfl hl.1 dX5_delegate_153 ⟨Nat.le_of_ble_eq_true rfl, Nat.le_of_ble_eq_true rfl⟩ ⟨Nat.le_of_ble_eq_true rfl, Nat.le_of_ble_eq_true rfl⟩ rfl (Nat.le_of_ble_eq_true rfl)) hS (fun _ h => h) rfl rfl (fun r59 H lo h60 _ _ hS => ?_)
                            obtain ⟨rfl, hR⟩ := h60
                            have hR : RM E β μ K dp 4 H := hR
                            refine lv_if_eq (tgt := 161) hx hb dX5_delegate_156 (by decide) (fun c61 => ?_) (fun c61 => ?_)
                            · exact absurd c61 (by decide)
                            · refine lv_iconst (v := 0) hx hb dX5_delegate_159 (by decide) ?_
                              exact g_iretW hC hr dX5_delegate_160 hS (Nat.le_of_ble_eq_true rfl) (Nat.le_of_ble_eq_true rfl) (mPost_k 4 (by unfold kDel; rw [cif_neg (by first | grind | (simp only [ix, ej_p0, mv, mw]; grind)), cif_neg (by first | grind | (simp only [ix, ej_p0, mv, mw]; grind)), cif_neg (by first | grind | (simp only [ix, ej_p0, mv, mw]; grind)), cif_pos (by first | grind | (simp only [ix, ej_p0, mv, mw]; grind))]) (by decide) rfl hR)
                    · exact absurd c43 (by decide)
          · exact absurd (by decide) c22
        · have q19 := bz.f h17 c18
          refine lv_iconst (v := 1) hx hb dX5_delegate_47 (by decide) ?_
          refine lv_goto (tgt := 52) hx hb dX5_delegate_48 (by decide) ?_
          refine lv_iconst (v := 2) hx hb dX5_delegate_52 (by decide) ?_
          refine g_cWi (k2 := 0) (n2 := 0) (g_runV (rest := []) hC (c_X5_isThrown hE (β := β) (μ := μ) (K := K) (dp := dp) (th := 0) 1 2 rfl) Y_X5_isThrown k_1084 I_X5_isThrown V_X5_isThrown hR.obj rfl hR rfl hl.1 dX5_delegate_53 ⟨Nat.le_of_ble_eq_true rfl, Nat.le_of_ble_eq_true rfl⟩ ⟨Nat.le_of_ble_eq_true rfl, Nat.le_of_ble_eq_true rfl⟩ rfl (Nat.le_of_ble_eq_true rfl)) hS (fun _ h => h) rfl rfl (fun r62 H lo h63 _ _ hS => ?_)
          obtain ⟨rfl, hR⟩ := h63
          have hR : RM E β μ K dp 2 H := hR
          refine lv_if_eq (tgt := 61) hx hb dX5_delegate_56 (by decide) (fun c64 => ?_) (fun c64 => ?_)
          · exact absurd c64 (by decide)
          · refine lv_iconst (v := 0) hx hb dX5_delegate_59 (by decide) ?_
            exact g_iretW hC hr dX5_delegate_60 hS (Nat.le_of_ble_eq_true rfl) (Nat.le_of_ble_eq_true rfl) (mPost_k 2 (by unfold kDel; rw [cif_neg (by grind), cif_pos (by grind)]) (by decide) rfl hR)
    · have q12 := bz.t h10 c11
      refine lv_iconst (v := 1) hx hb dX5_delegate_23 (by decide) ?_
      refine lv_goto (tgt := 28) hx hb dX5_delegate_24 (by decide) ?_
      refine lv_iconst (v := 1) hx hb dX5_delegate_28 (by decide) ?_
      refine g_cWi (k2 := 0) (n2 := 0) (g_runV (rest := []) hC (c_X5_isThrown hE (β := β) (μ := μ) (K := K) (dp := dp) (th := th) 1 1 rfl) Y_X5_isThrown k_1084 I_X5_isThrown V_X5_isThrown hR.obj rfl hR rfl hl.1 dX5_delegate_29 ⟨Nat.le_of_ble_eq_true rfl, Nat.le_of_ble_eq_true rfl⟩ ⟨Nat.le_of_ble_eq_true rfl, Nat.le_of_ble_eq_true rfl⟩ rfl (Nat.le_of_ble_eq_true rfl)) hS (fun _ h => h) rfl rfl (fun r65 H lo h66 _ _ hS => ?_)
      obtain ⟨rfl, hR⟩ := h66
      have hR : RM E β μ K dp 1 H := hR
      refine lv_if_ne (tgt := 59) hx hb dX5_delegate_32 (by decide) (fun c67 => ?_) (fun c67 => ?_)
      · refine lv_iconst (v := 0) hx hb dX5_delegate_59 (by decide) ?_
        exact g_iretW hC hr dX5_delegate_60 hS (Nat.le_of_ble_eq_true rfl) (Nat.le_of_ble_eq_true rfl) (mPost_k 1 (by unfold kDel; rw [cif_pos (by grind)]) (by decide) rfl hR)
      · exact absurd c67 (by decide)
set_option maxHeartbeats 4000000 in
set_option maxRecDepth 100000 in
theorem c_X5_lower {l : Launch} {E : gV} (hE : gOK l E) {β : Nat → Nat} {μ : F2} {K : Nat → Nat} {dp th : Int32} (hI : MI μ K) (p0 : Int32) (li : Int32) : gM l E yX5_lower cX5_lower 4 (some .int) ({ frames := 2, cells := 0, slots := 0, locals := 43 } : Room) [.ref (β 19), .int p0, .int li] (fun H => RM E β μ K dp th H) (gQW (mA β) (gWi (fun r H => mPost E β μ K (kLower (mv μ) (K 1) p0 li) (up2 μ 5 (ix p0) li) (K) (r = μ 5 (ix p0)) H))) (fun _ => False) (mA β) := by
  refine gM_body hE (by decide +kernel) (Nat.le_of_ble_eq_true rfl) ?_
  intro p_ e_ s m args below meth c hC ht hr hname hP ls hl
  have hx := hC.2.2.1
  have hb := hC.2.2.2.1
  have hl : lv_has ls 4 [(0, .ref (β 19)), (1, .int p0), (2, .int li)] := hl
  have hS : va_S ((mA β)) s.heap s.heap [] := va_S.rf
  have hR : RM E β μ K dp th s.heap := hP
  obtain ⟨hK0, hK1, hK2, hSr, hHo, hTd⟩ := hI
  refine lv_aload_n hx hb dX5_lower_0 rfl (lv_at hl 0 rfl) ?_
  refine lv_iload_n hx hb dX5_lower_1 rfl (lv_at hl 1 rfl) ?_
  refine g_cWi (k2 := 0) (n2 := 0) (g_runV (rest := []) hC (c_X5_isNoPower hE (β := β) (μ := μ) (K := K) (dp := dp) (th := th) (by omega) p0) Y_X5_isNoPower k_1131 I_X5_isNoPower V_X5_isNoPower hR.obj rfl hR rfl hl.1 dX5_lower_2 ⟨Nat.le_of_ble_eq_true rfl, Nat.le_of_ble_eq_true rfl⟩ ⟨Nat.le_of_ble_eq_true rfl, Nat.le_of_ble_eq_true rfl⟩ rfl (Nat.le_of_ble_eq_true rfl)) hS (fun _ h => h) rfl rfl (fun r1 H lo h2 _ _ hS => ?_)
  obtain ⟨f3, hR⟩ := h2
  refine lv_if_ne (tgt := 35) hx hb dX5_lower_5 (by decide) (fun c4 => ?_) (fun c4 => ?_)
  · have q5 := bz.t f3 c4
    rw [thr_1 c4] at hR
    refine lv_iconst (v := 0) hx hb dX5_lower_35 (by decide) ?_
    exact g_iretW hC hr dX5_lower_36 hS (Nat.le_of_ble_eq_true rfl) (Nat.le_of_ble_eq_true rfl) (mPost_k 1 (by unfold kLower; rw [cif_pos (by grind)]) (by decide) rfl hR)
  · have q5 := bz.f f3 c4
    rw [thr_0 c4] at hR
    refine lv_aload_n hx hb dX5_lower_8 rfl (lv_at hl 0 rfl) ?_
    refine lv_iload_n hx hb dX5_lower_9 rfl (lv_at hl 2 rfl) ?_
    refine lv_iconst (v := 1) hx hb dX5_lower_10 (by decide) ?_
    refine lv_aload_n hx hb dX5_lower_11 rfl (lv_at hl 0 rfl) ?_
    refine g_get (v := .ref (β 5)) hC hR.obj (C := RX5) (T := TX5) (N := 26) rfl u5_in 5 (by decide) k_1001 rfl dX5_lower_12 ?_
    refine lv_iload_n hx hb dX5_lower_15 rfl (lv_at hl 1 rfl) ?_
    obtain ⟨j_p0, hj_p0, rfl⟩ := isP_of (n := K 1) (p := p0) (by first | exact Classical.not_not.mp (by assumption) | assumption) (by omega)
    have ej_p0 : (nI j_p0).toNatClampNeg = j_p0 := nI_clamp (by omega)
    have ipj_p0 : isP (K 1) (nI j_p0) := isP_nI hj_p0 (by omega)
    refine g_iald (n := 20) (f := μ 5) (j := j_p0) hC (hR.arr 5 (by decide) rfl rfl) (by omega) (by decide) dX5_lower_16 ?_
    refine g_cRi (k2 := 0) (n2 := 0) (g_runS (rest := [.ref (β 19)]) hC (c_X5_isIn hE li 1 (μ 5 j_p0)) Y_X5_isIn k_1096 S_X5_isIn trivial rfl hl.1 dX5_lower_17 ⟨Nat.le_of_ble_eq_true rfl, Nat.le_of_ble_eq_true rfl⟩ ⟨Nat.le_of_ble_eq_true rfl, Nat.le_of_ble_eq_true rfl⟩ rfl (Nat.le_of_ble_eq_true rfl)) rfl rfl g_no (fun r6 h7 => ?_)
    refine lv_if_ne (tgt := 27) hx hb dX5_lower_20 (by decide) (fun c8 => ?_) (fun c8 => ?_)
    · have q9 := bz.t h7 c8
      refine lv_iconst (v := 0) hx hb dX5_lower_27 (by decide) ?_
      refine lv_iconst (v := 2) hx hb dX5_lower_28 (by decide) ?_
      refine g_cWi (k2 := 0) (n2 := 0) (g_runV (rest := []) hC (c_X5_isThrown hE (β := β) (μ := μ) (K := K) (dp := dp) (th := 0) 0 2 rfl) Y_X5_isThrown k_1084 I_X5_isThrown V_X5_isThrown hR.obj rfl hR rfl hl.1 dX5_lower_29 ⟨Nat.le_of_ble_eq_true rfl, Nat.le_of_ble_eq_true rfl⟩ ⟨Nat.le_of_ble_eq_true rfl, Nat.le_of_ble_eq_true rfl⟩ rfl (Nat.le_of_ble_eq_true rfl)) hS (fun _ h => h) rfl rfl (fun r10 H lo h11 _ _ hS => ?_)
      obtain ⟨rfl, hR⟩ := h11
      have hR : RM E β μ K dp 0 H := hR
      refine lv_if_eq (tgt := 37) hx hb dX5_lower_32 (by decide) (fun c12 => ?_) (fun c12 => ?_)
      · refine lv_aload_n hx hb dX5_lower_37 rfl (lv_at hl 0 rfl) ?_
        refine g_get (v := .ref (β 5)) hC hR.obj (C := RX5) (T := TX5) (N := 26) rfl u5_in 5 (by decide) k_1001 rfl dX5_lower_38 ?_
        refine lv_iload_n hx hb dX5_lower_41 rfl (lv_at hl 1 rfl) ?_
        refine g_iald (n := 20) (f := μ 5) (j := j_p0) hC (hR.arr 5 (by decide) rfl rfl) (by omega) (by decide) dX5_lower_42 ?_
        refine lv_istore_n (lv' := [(3, .int (μ 5 j_p0)), (0, .ref (β 19)), (1, .int (nI j_p0)), (2, .int li)]) hx hb dX5_lower_43 rfl hl (by decide) rfl (fun ls hl => ?_)
        refine lv_aload_n hx hb dX5_lower_44 rfl (lv_at hl 1 rfl) ?_
        refine g_get (v := .ref (β 5)) hC hR.obj (C := RX5) (T := TX5) (N := 26) rfl u5_in 5 (by decide) k_1001 rfl dX5_lower_45 ?_
        refine lv_iload_n hx hb dX5_lower_48 rfl (lv_at hl 2 rfl) ?_
        refine lv_iload_n hx hb dX5_lower_49 rfl (lv_at hl 3 rfl) ?_
        refine m_iast (n := 20) (j := j_p0) 5 (by decide) rfl rfl hC hR hS (by omega) dX5_lower_50 (fun H lo hR hS => ?_)
        refine lv_iload_n hx hb dX5_lower_51 rfl (lv_at hl 0 rfl) ?_
        exact g_iretW hC hr dX5_lower_52 hS (Nat.le_of_ble_eq_true rfl) (Nat.le_of_ble_eq_true rfl) (mPost_0 (by unfold kLower; rw [cif_neg (by first | grind | (simp only [ix, ej_p0, mv, mw]; grind)), cif_neg (by first | grind | (simp only [ix, ej_p0, mv, mw]; grind))]) hR (by simp only [ix, ej_p0]) rfl (by simp only [ix, ej_p0]))
      · exact absurd (by decide) c12
    · have q9 := bz.f h7 c8
      refine lv_iconst (v := 1) hx hb dX5_lower_23 (by decide) ?_
      refine lv_goto (tgt := 28) hx hb dX5_lower_24 (by decide) ?_
      refine lv_iconst (v := 2) hx hb dX5_lower_28 (by decide) ?_
      refine g_cWi (k2 := 0) (n2 := 0) (g_runV (rest := []) hC (c_X5_isThrown hE (β := β) (μ := μ) (K := K) (dp := dp) (th := 0) 1 2 rfl) Y_X5_isThrown k_1084 I_X5_isThrown V_X5_isThrown hR.obj rfl hR rfl hl.1 dX5_lower_29 ⟨Nat.le_of_ble_eq_true rfl, Nat.le_of_ble_eq_true rfl⟩ ⟨Nat.le_of_ble_eq_true rfl, Nat.le_of_ble_eq_true rfl⟩ rfl (Nat.le_of_ble_eq_true rfl)) hS (fun _ h => h) rfl rfl (fun r13 H lo h14 _ _ hS => ?_)
      obtain ⟨rfl, hR⟩ := h14
      have hR : RM E β μ K dp 2 H := hR
      refine lv_if_eq (tgt := 37) hx hb dX5_lower_32 (by decide) (fun c15 => ?_) (fun c15 => ?_)
      · exact absurd c15 (by decide)
      · refine lv_iconst (v := 0) hx hb dX5_lower_35 (by decide) ?_
        exact g_iretW hC hr dX5_lower_36 hS (Nat.le_of_ble_eq_true rfl) (Nat.le_of_ble_eq_true rfl) (mPost_k 2 (by unfold kLower; rw [cif_neg (by first | grind | (simp only [ix, ej_p0, mv, mw]; grind)), cif_pos (by first | grind | (simp only [ix, ej_p0, mv, mw]; grind))]) (by decide) rfl hR)
set_option maxHeartbeats 4000000 in
set_option maxRecDepth 100000 in
theorem c_X5_source {l : Launch} {E : gV} (hE : gOK l E) {β : Nat → Nat} {μ : F2} {K : Nat → Nat} {dp th : Int32} (hI : MI μ K) (p0 : Int32) : gM l E yX5_source cX5_source 2 (some .int) ({ frames := 2, cells := 0, slots := 0, locals := 43 } : Room) [.ref (β 19), .int p0] (fun H => RM E β μ K dp th H) (gQW (mA β) (gWi (fun r H => mPost E β μ K (kPow (K 1) p0) (μ) (K) (r = μ 8 (ix p0)) H))) (fun _ => False) (mA β) := by
  refine gM_body hE (by decide +kernel) (Nat.le_of_ble_eq_true rfl) ?_
  intro p_ e_ s m args below meth c hC ht hr hname hP ls hl
  have hx := hC.2.2.1
  have hb := hC.2.2.2.1
  have hl : lv_has ls 2 [(0, .ref (β 19)), (1, .int p0)] := hl
  have hS : va_S ((mA β)) s.heap s.heap [] := va_S.rf
  have hR : RM E β μ K dp th s.heap := hP
  obtain ⟨hK0, hK1, hK2, hSr, hHo, hTd⟩ := hI
  refine lv_aload_n hx hb dX5_source_0 rfl (lv_at hl 0 rfl) ?_
  refine lv_iload_n hx hb dX5_source_1 rfl (lv_at hl 1 rfl) ?_
  refine g_cWi (k2 := 0) (n2 := 0) (g_runV (rest := []) hC (c_X5_isNoPower hE (β := β) (μ := μ) (K := K) (dp := dp) (th := th) (by omega) p0) Y_X5_isNoPower k_1131 I_X5_isNoPower V_X5_isNoPower hR.obj rfl hR rfl hl.1 dX5_source_2 ⟨Nat.le_of_ble_eq_true rfl, Nat.le_of_ble_eq_true rfl⟩ ⟨Nat.le_of_ble_eq_true rfl, Nat.le_of_ble_eq_true rfl⟩ rfl (Nat.le_of_ble_eq_true rfl)) hS (fun _ h => h) rfl rfl (fun r1 H lo h2 _ _ hS => ?_)
  obtain ⟨f3, hR⟩ := h2
  refine lv_if_eq (tgt := 12) hx hb dX5_source_5 (by decide) (fun c4 => ?_) (fun c4 => ?_)
  · have q5 := bz.f f3 c4
    rw [thr_0 c4] at hR
    refine lv_aload_n hx hb dX5_source_12 rfl (lv_at hl 0 rfl) ?_
    refine g_get (v := .ref (β 8)) hC hR.obj (C := RX5) (T := TX5) (N := 26) rfl u5_in 8 (by decide) k_1004 rfl dX5_source_13 ?_
    refine lv_iload_n hx hb dX5_source_16 rfl (lv_at hl 1 rfl) ?_
    obtain ⟨j_p0, hj_p0, rfl⟩ := isP_of (n := K 1) (p := p0) (by first | exact Classical.not_not.mp (by assumption) | assumption) (by omega)
    have ej_p0 : (nI j_p0).toNatClampNeg = j_p0 := nI_clamp (by omega)
    have ipj_p0 : isP (K 1) (nI j_p0) := isP_nI hj_p0 (by omega)
    refine g_iald (n := 20) (f := μ 8) (j := j_p0) hC (hR.arr 8 (by decide) rfl rfl) (by omega) (by decide) dX5_source_17 ?_
    exact g_iretW hC hr dX5_source_18 hS (Nat.le_of_ble_eq_true rfl) (Nat.le_of_ble_eq_true rfl) (mPost_0 (by unfold kPow; rw [cif_neg (by first | grind | (simp only [ix, ej_p0, mv, mw]; grind))]) hR rfl rfl (by simp only [ix, ej_p0]))
  · have q5 := bz.t f3 c4
    rw [thr_1 c4] at hR
    refine lv_iconst (v := 0) hx hb dX5_source_8 (by decide) ?_
    refine lv_goto (tgt := 18) hx hb dX5_source_9 (by decide) ?_
    exact g_iretW hC hr dX5_source_18 hS (Nat.le_of_ble_eq_true rfl) (Nat.le_of_ble_eq_true rfl) (mPost_k 1 (by unfold kPow; rw [cif_pos (by grind)]) (by decide) rfl hR)
set_option maxHeartbeats 4000000 in
set_option maxRecDepth 100000 in
theorem c_X5_limit {l : Launch} {E : gV} (hE : gOK l E) {β : Nat → Nat} {μ : F2} {K : Nat → Nat} {dp th : Int32} (hI : MI μ K) (p0 : Int32) : gM l E yX5_limit cX5_limit 2 (some .int) ({ frames := 2, cells := 0, slots := 0, locals := 43 } : Room) [.ref (β 19), .int p0] (fun H => RM E β μ K dp th H) (gQW (mA β) (gWi (fun r H => mPost E β μ K (kPow (K 1) p0) (μ) (K) (r = μ 5 (ix p0)) H))) (fun _ => False) (mA β) := by
  refine gM_body hE (by decide +kernel) (Nat.le_of_ble_eq_true rfl) ?_
  intro p_ e_ s m args below meth c hC ht hr hname hP ls hl
  have hx := hC.2.2.1
  have hb := hC.2.2.2.1
  have hl : lv_has ls 2 [(0, .ref (β 19)), (1, .int p0)] := hl
  have hS : va_S ((mA β)) s.heap s.heap [] := va_S.rf
  have hR : RM E β μ K dp th s.heap := hP
  obtain ⟨hK0, hK1, hK2, hSr, hHo, hTd⟩ := hI
  refine lv_aload_n hx hb dX5_limit_0 rfl (lv_at hl 0 rfl) ?_
  refine lv_iload_n hx hb dX5_limit_1 rfl (lv_at hl 1 rfl) ?_
  refine g_cWi (k2 := 0) (n2 := 0) (g_runV (rest := []) hC (c_X5_isNoPower hE (β := β) (μ := μ) (K := K) (dp := dp) (th := th) (by omega) p0) Y_X5_isNoPower k_1131 I_X5_isNoPower V_X5_isNoPower hR.obj rfl hR rfl hl.1 dX5_limit_2 ⟨Nat.le_of_ble_eq_true rfl, Nat.le_of_ble_eq_true rfl⟩ ⟨Nat.le_of_ble_eq_true rfl, Nat.le_of_ble_eq_true rfl⟩ rfl (Nat.le_of_ble_eq_true rfl)) hS (fun _ h => h) rfl rfl (fun r1 H lo h2 _ _ hS => ?_)
  obtain ⟨f3, hR⟩ := h2
  refine lv_if_eq (tgt := 12) hx hb dX5_limit_5 (by decide) (fun c4 => ?_) (fun c4 => ?_)
  · have q5 := bz.f f3 c4
    rw [thr_0 c4] at hR
    refine lv_aload_n hx hb dX5_limit_12 rfl (lv_at hl 0 rfl) ?_
    refine g_get (v := .ref (β 5)) hC hR.obj (C := RX5) (T := TX5) (N := 26) rfl u5_in 5 (by decide) k_1001 rfl dX5_limit_13 ?_
    refine lv_iload_n hx hb dX5_limit_16 rfl (lv_at hl 1 rfl) ?_
    obtain ⟨j_p0, hj_p0, rfl⟩ := isP_of (n := K 1) (p := p0) (by first | exact Classical.not_not.mp (by assumption) | assumption) (by omega)
    have ej_p0 : (nI j_p0).toNatClampNeg = j_p0 := nI_clamp (by omega)
    have ipj_p0 : isP (K 1) (nI j_p0) := isP_nI hj_p0 (by omega)
    refine g_iald (n := 20) (f := μ 5) (j := j_p0) hC (hR.arr 5 (by decide) rfl rfl) (by omega) (by decide) dX5_limit_17 ?_
    exact g_iretW hC hr dX5_limit_18 hS (Nat.le_of_ble_eq_true rfl) (Nat.le_of_ble_eq_true rfl) (mPost_0 (by unfold kPow; rw [cif_neg (by first | grind | (simp only [ix, ej_p0, mv, mw]; grind))]) hR rfl rfl (by simp only [ix, ej_p0]))
  · have q5 := bz.t f3 c4
    rw [thr_1 c4] at hR
    refine lv_iconst (v := 0) hx hb dX5_limit_8 (by decide) ?_
    refine lv_goto (tgt := 18) hx hb dX5_limit_9 (by decide) ?_
    exact g_iretW hC hr dX5_limit_18 hS (Nat.le_of_ble_eq_true rfl) (Nat.le_of_ble_eq_true rfl) (mPost_k 1 (by unfold kPow; rw [cif_pos (by grind)]) (by decide) rfl hR)
set_option maxHeartbeats 4000000 in
set_option maxRecDepth 100000 in
theorem c_X5_revoke {l : Launch} {E : gV} (hE : gOK l E) {β : Nat → Nat} {μ : F2} {K : Nat → Nat} {dp th : Int32} (hI : MI μ K) (p0 : Int32) (hb1 : ∀ i, narrow .boolean (.int (μ 1 i)) = .int (μ 1 i)) : gM l E yX5_revoke cX5_revoke 4 (some .int) ({ frames := 21, cells := 0, slots := 0, locals := 462 } : Room) [.ref (β 19), .int p0] (fun H => RM E β μ K dp th H) (gQW (mA β) (gWi (fun r H => mPost E β μ K (kRevoke (mv μ) (K 1) p0) (up2 μ 1 (ix p0) 1) (K) (r = nI (fCnt (fun t => fCome (mv μ) t (ix p0)) (K 1))) H))) (fun _ => False) (mA β) := by
  refine gM_body hE (by decide +kernel) (Nat.le_of_ble_eq_true rfl) ?_
  intro p_ e_ s m args below meth c hC ht hr hname hP ls hl
  have hx := hC.2.2.1
  have hb := hC.2.2.2.1
  have hl : lv_has ls 4 [(0, .ref (β 19)), (1, .int p0)] := hl
  have hS : va_S ((mA β)) s.heap s.heap [] := va_S.rf
  have hR : RM E β μ K dp th s.heap := hP
  obtain ⟨hK0, hK1, hK2, hSr, hHo, hTd⟩ := hI
  refine lv_aload_n hx hb dX5_revoke_0 rfl (lv_at hl 0 rfl) ?_
  refine lv_iload_n hx hb dX5_revoke_1 rfl (lv_at hl 1 rfl) ?_
  refine g_cWi (k2 := 0) (n2 := 0) (g_runV (rest := []) hC (c_X5_isNoPower hE (β := β) (μ := μ) (K := K) (dp := dp) (th := th) (by omega) p0) Y_X5_isNoPower k_1131 I_X5_isNoPower V_X5_isNoPower hR.obj rfl hR rfl hl.1 dX5_revoke_2 ⟨Nat.le_of_ble_eq_true rfl, Nat.le_of_ble_eq_true rfl⟩ ⟨Nat.le_of_ble_eq_true rfl, Nat.le_of_ble_eq_true rfl⟩ rfl (Nat.le_of_ble_eq_true rfl)) hS (fun _ h => h) rfl rfl (fun r1 H lo h2 _ _ hS => ?_)
  obtain ⟨f3, hR⟩ := h2
  refine lv_if_ne (tgt := 22) hx hb dX5_revoke_5 (by decide) (fun c4 => ?_) (fun c4 => ?_)
  · have q5 := bz.t f3 c4
    rw [thr_1 c4] at hR
    refine lv_iconst (v := 0) hx hb dX5_revoke_22 (by decide) ?_
    exact g_iretW hC hr dX5_revoke_23 hS (Nat.le_of_ble_eq_true rfl) (Nat.le_of_ble_eq_true rfl) (mPost_k 1 (by unfold kRevoke; rw [cif_pos (by grind)]) (by decide) rfl hR)
  · have q5 := bz.f f3 c4
    rw [thr_0 c4] at hR
    refine lv_aload_n hx hb dX5_revoke_8 rfl (lv_at hl 0 rfl) ?_
    refine lv_aload_n hx hb dX5_revoke_9 rfl (lv_at hl 0 rfl) ?_
    refine g_get (v := .ref (β 1)) hC hR.obj (C := RX5) (T := TX5) (N := 26) rfl u5_in 1 (by decide) k_997 rfl dX5_revoke_10 ?_
    refine lv_iload_n hx hb dX5_revoke_13 rfl (lv_at hl 1 rfl) ?_
    obtain ⟨j_p0, hj_p0, rfl⟩ := isP_of (n := K 1) (p := p0) (by first | exact Classical.not_not.mp (by assumption) | assumption) (by omega)
    have ej_p0 : (nI j_p0).toNatClampNeg = j_p0 := nI_clamp (by omega)
    have ipj_p0 : isP (K 1) (nI j_p0) := isP_nI hj_p0 (by omega)
    refine g_zald (n := 20) (f := μ 1) (j := j_p0) hC (hR.arr 1 (by decide) rfl rfl) (by omega) (by decide) dX5_revoke_14 ?_
    refine lv_iconst (v := 2) hx hb dX5_revoke_15 (by decide) ?_
    refine g_cWi (k2 := 0) (n2 := 0) (g_runV (rest := []) hC (c_X5_isThrown hE (β := β) (μ := μ) (K := K) (dp := dp) (th := 0) (μ 1 j_p0) 2 (by first | assumption | exact hb1 _)) Y_X5_isThrown k_1084 I_X5_isThrown V_X5_isThrown hR.obj rfl hR rfl hl.1 dX5_revoke_16 ⟨Nat.le_of_ble_eq_true rfl, Nat.le_of_ble_eq_true rfl⟩ ⟨Nat.le_of_ble_eq_true rfl, Nat.le_of_ble_eq_true rfl⟩ rfl (Nat.le_of_ble_eq_true rfl)) hS (fun _ h => h) rfl rfl (fun r6 H lo h7 _ _ hS => ?_)
    obtain ⟨rfl, hR⟩ := h7
    refine lv_if_eq (tgt := 24) hx hb dX5_revoke_19 (by decide) (fun c8 => ?_) (fun c8 => ?_)
    · rw [thr_0 c8] at hR
      refine lv_aload_n hx hb dX5_revoke_24 rfl (lv_at hl 0 rfl) ?_
      refine g_get (v := .ref (β 1)) hC hR.obj (C := RX5) (T := TX5) (N := 26) rfl u5_in 1 (by decide) k_997 rfl dX5_revoke_25 ?_
      refine lv_iload_n hx hb dX5_revoke_28 rfl (lv_at hl 1 rfl) ?_
      refine lv_iconst (v := 1) hx hb dX5_revoke_29 (by decide) ?_
      refine m_zast (n := 20) (j := j_p0) 1 (by decide) rfl rfl hC hR hS (by omega) rfl dX5_revoke_30 (fun H lo hR hS => ?_)
      refine lv_iconst (v := 0) hx hb dX5_revoke_31 (by decide) ?_
      refine lv_istore_n (lv' := [(2, .int 0), (0, .ref (β 19)), (1, .int (nI j_p0))]) hx hb dX5_revoke_32 rfl hl (by decide) rfl (fun ls hl => ?_)
      refine lv_iconst (v := 0) hx hb dX5_revoke_33 (by decide) ?_
      refine lv_istore_n (lv' := [(3, .int 0), (2, .int 0), (0, .ref (β 19)), (1, .int (nI j_p0))]) hx hb dX5_revoke_34 rfl hl (by decide) rfl (fun ls hl => ?_)
      have loop : ∀ (n_ : Nat) (q : Nat) (r : Int32) (H : Heap) (lo : List Loc) (ls : Array Slot), K 1 - q < n_ → (q ≤ K 1) → (r = nI (fCnt (fun t => fCome (mv (up2 μ 1 j_p0 1)) t j_p0) q)) → RM E β (up2 μ 1 j_p0 1) K dp 0 H → va_S ((mA β)) s.heap H lo → lv_has ls 4 [(0, .ref (β 19)), (1, .int (nI j_p0)), (2, .int r), (3, .int (nI q))] → W p_ l e_ ({ frames := 21, cells := 0, slots := 0, locals := 462 } : Room) s m args below meth c H lo 0 0 (vx_MQ below (gQW (mA β) (gWi (fun r H => mPost E β μ K (kRevoke (mv μ) (K 1) (nI j_p0)) (up2 μ 1 (ix (nI j_p0)) 1) (K) (r = nI (fCnt (fun t => fCome (mv μ) t (ix (nI j_p0))) (K 1))) H))) (gX (fun _ => False)) args s 0 0 (mA β)) (F0 m 35 ls []) := by
        intro n_
        induction n_ with
        | zero => intro q r H lo ls h_; exact absurd h_ (Nat.not_lt_zero _)
        | succ n_ ih_loop =>
          intro q r H lo ls hn_ i1 i2 hR hS hl
          refine lv_iload_n hx hb dX5_revoke_35 rfl (lv_at hl 3 rfl) ?_
          refine lv_aload_n hx hb dX5_revoke_36 rfl (lv_at hl 0 rfl) ?_
          refine g_get (v := .int (nI (K 1))) hC hR.obj (C := RX5) (T := TX5) (N := 26) rfl u5_in 20 (by decide) k_1016 rfl dX5_revoke_37 ?_
          refine lv_icmp_ge (tgt := 66) hx hb dX5_revoke_40 (by decide) (fun c10 => ?_) (fun c10 => ?_)
          · have n11 : (K 1) ≤ q := le_nI (by omega) (by omega) c10
            refine lv_iload_n hx hb dX5_revoke_66 rfl (lv_at hl 2 rfl) ?_
            exact g_iretW hC hr dX5_revoke_67 hS (Nat.le_of_ble_eq_true rfl) (Nat.le_of_ble_eq_true rfl) (mPost_0 (by unfold kRevoke; rw [cif_neg (by first | grind | (simp only [ix, ej_p0, mv, mw]; grind)), cif_neg (by first | grind | (simp only [ix, ej_p0, mv, mw]; grind))]) hR (by simp only [ix, ej_p0]) rfl (by rw [i2, show q = K 1 by omega]; simp only [ix, ej_p0]; exact congrArg nI (fCnt_congr (fun t _ => fCome_congr (v := mv (up2 μ 1 j_p0 1)) (v' := mv μ) (fun _ => rfl) t _))))
          · have n11 : q < (K 1) := not_le_nI (by omega) (by omega) c10
            refine lv_iload_n hx hb dX5_revoke_43 rfl (lv_at hl 2 rfl) ?_
            refine lv_aload_n hx hb dX5_revoke_44 rfl (lv_at hl 0 rfl) ?_
            refine lv_iload_n hx hb dX5_revoke_45 rfl (lv_at hl 3 rfl) ?_
            refine lv_iload_n hx hb dX5_revoke_46 rfl (lv_at hl 1 rfl) ?_
            refine g_cRi (k2 := 0) (n2 := 0) (g_runV (rest := [.int r]) hC (c_X5_comesFrom hE (β := β) (μ := (up2 μ 1 j_p0 1)) (K := K) (dp := dp) (th := 0) ⟨hK0, hK1, hK2, hSr, hHo, hTd⟩ j_p0 (by omega) q (by omega)) Y_X5_comesFrom k_1139 I_X5_comesFrom V_X5_comesFrom hR.obj rfl hR rfl hl.1 dX5_revoke_47 ⟨by dsimp only; omega, by dsimp only; omega⟩ ⟨Nat.le_of_ble_eq_true rfl, Nat.le_of_ble_eq_true rfl⟩ rfl (Nat.le_of_ble_eq_true rfl)) rfl rfl g_no (fun r12 h13 => ?_)
            refine lv_if_eq (tgt := 57) hx hb dX5_revoke_50 (by decide) (fun c14 => ?_) (fun c14 => ?_)
            · have q15 := bz.f h13 c14
              refine lv_iconst (v := 0) hx hb dX5_revoke_57 (by decide) ?_
              refine lv_iadd hx hb dX5_revoke_58 ?_
              refine lv_istore_n (lv' := [(2, .int (r + 0)), (0, .ref (β 19)), (1, .int (nI j_p0)), (3, .int (nI q))]) hx hb dX5_revoke_59 rfl hl (by decide) rfl (fun ls hl => ?_)
              refine lv_iinc (v := nI (q + 1)) (lv' := [(3, .int (nI (q + 1))), (2, .int (r + 0)), (0, .ref (β 19)), (1, .int (nI j_p0))]) hx hb dX5_revoke_60 hl (k := 3) rfl (g_inc _) (by decide) rfl (fun ls hl => ?_)
              refine lv_goto (tgt := 35) hx hb dX5_revoke_63 (by decide) ?_
              exact ih_loop (q + 1) (r + 0) H lo ls (by omega) (by omega) (by rw [i2]; exact nI_cnt_f (by assumption)) hR hS (lv_sub hl [2, 3, 1, 0] rfl)
            · have q15 := bz.t h13 c14
              refine lv_iconst (v := 1) hx hb dX5_revoke_53 (by decide) ?_
              refine lv_goto (tgt := 58) hx hb dX5_revoke_54 (by decide) ?_
              refine lv_iadd hx hb dX5_revoke_58 ?_
              refine lv_istore_n (lv' := [(2, .int (r + 1)), (0, .ref (β 19)), (1, .int (nI j_p0)), (3, .int (nI q))]) hx hb dX5_revoke_59 rfl hl (by decide) rfl (fun ls hl => ?_)
              refine lv_iinc (v := nI (q + 1)) (lv' := [(3, .int (nI (q + 1))), (2, .int (r + 1)), (0, .ref (β 19)), (1, .int (nI j_p0))]) hx hb dX5_revoke_60 hl (k := 3) rfl (g_inc _) (by decide) rfl (fun ls hl => ?_)
              refine lv_goto (tgt := 35) hx hb dX5_revoke_63 (by decide) ?_
              exact ih_loop (q + 1) (r + 1) H lo ls (by omega) (by omega) (by rw [i2]; exact nI_cnt_t (by assumption)) hR hS (lv_sub hl [2, 3, 1, 0] rfl)
      exact loop ((K 1 - (0)) + 1) 0 0 H lo ls (by omega) (by omega) rfl hR hS (lv_sub hl [2, 3, 1, 0] rfl)
    · rw [thr_1 c8] at hR
      refine lv_iconst (v := 0) hx hb dX5_revoke_22 (by decide) ?_
      exact g_iretW hC hr dX5_revoke_23 hS (Nat.le_of_ble_eq_true rfl) (Nat.le_of_ble_eq_true rfl) (mPost_k 2 (by unfold kRevoke; rw [cif_neg (by first | grind | (simp only [ix, ej_p0, mv, mw]; grind)), cif_pos (by first | grind | (simp only [ix, ej_p0, mv, mw]; grind))]) (by decide) rfl hR)
set_option maxHeartbeats 4000000 in
set_option maxRecDepth 100000 in
theorem c_X5_fault {l : Launch} {E : gV} (hE : gOK l E) {β : Nat → Nat} {μ : F2} {K : Nat → Nat} {dp th : Int32} (hI : MI μ K) (p0 : Int32) (s0 : Int32) : gM l E yX5_fault cX5_fault 3 (some .char) ({ frames := 21, cells := 0, slots := 0, locals := 483 } : Room) [.ref (β 19), .int p0, .int s0] (fun H => RM E β μ K dp th H) (gQW (mA β) (gWi (fun r H => mPost E β μ K (kFault (K 1) p0 s0) (μ) (K) (r = fl (mv μ) (μ 22 0) s0 (ix p0)) H))) (fun _ => False) (mA β) := by
  refine gM_body hE (by decide +kernel) (Nat.le_of_ble_eq_true rfl) ?_
  intro p_ e_ s m args below meth c hC ht hr hname hP ls hl
  have hx := hC.2.2.1
  have hb := hC.2.2.2.1
  have hl : lv_has ls 3 [(0, .ref (β 19)), (1, .int p0), (2, .int s0)] := hl
  have hS : va_S ((mA β)) s.heap s.heap [] := va_S.rf
  have hR : RM E β μ K dp th s.heap := hP
  obtain ⟨hK0, hK1, hK2, hSr, hHo, hTd⟩ := hI
  refine lv_aload_n hx hb dX5_fault_0 rfl (lv_at hl 0 rfl) ?_
  refine lv_iload_n hx hb dX5_fault_1 rfl (lv_at hl 1 rfl) ?_
  refine g_cWi (k2 := 0) (n2 := 0) (g_runV (rest := []) hC (c_X5_isNoPower hE (β := β) (μ := μ) (K := K) (dp := dp) (th := th) (by omega) p0) Y_X5_isNoPower k_1131 I_X5_isNoPower V_X5_isNoPower hR.obj rfl hR rfl hl.1 dX5_fault_2 ⟨Nat.le_of_ble_eq_true rfl, Nat.le_of_ble_eq_true rfl⟩ ⟨Nat.le_of_ble_eq_true rfl, Nat.le_of_ble_eq_true rfl⟩ rfl (Nat.le_of_ble_eq_true rfl)) hS (fun _ h => h) rfl rfl (fun r1 H lo h2 _ _ hS => ?_)
  obtain ⟨f3, hR⟩ := h2
  refine lv_if_ne (tgt := 17) hx hb dX5_fault_5 (by decide) (fun c4 => ?_) (fun c4 => ?_)
  · have q5 := bz.t f3 c4
    rw [thr_1 c4] at hR
    refine lv_bipush (v := 45) hx hb dX5_fault_17 (by decide) ?_
    refine lv_goto (tgt := 28) hx hb dX5_fault_19 (by decide) ?_
    exact g_zretW hC hr rfl dX5_fault_28 hS (Nat.le_of_ble_eq_true rfl) (Nat.le_of_ble_eq_true rfl) (mPost_k 1 (by unfold kFault; rw [cif_pos (by grind)]) (by decide) rfl hR)
  · have q5 := bz.f f3 c4
    rw [thr_0 c4] at hR
    refine lv_aload_n hx hb dX5_fault_8 rfl (lv_at hl 0 rfl) ?_
    refine lv_iload_n hx hb dX5_fault_9 rfl (lv_at hl 2 rfl) ?_
    refine lv_iconst (v := 2) hx hb dX5_fault_10 (by decide) ?_
    refine g_cWi (k2 := 0) (n2 := 0) (g_runV (rest := []) hC (c_X5_isNoSum hE (β := β) (μ := μ) (K := K) (dp := dp) (th := 0) s0 2) Y_X5_isNoSum k_1155 I_X5_isNoSum V_X5_isNoSum hR.obj rfl hR rfl hl.1 dX5_fault_11 ⟨Nat.le_of_ble_eq_true rfl, Nat.le_of_ble_eq_true rfl⟩ ⟨Nat.le_of_ble_eq_true rfl, Nat.le_of_ble_eq_true rfl⟩ rfl (Nat.le_of_ble_eq_true rfl)) hS (fun _ h => h) rfl rfl (fun r6 H lo h7 _ _ hS => ?_)
    obtain ⟨f8, hR⟩ := h7
    refine lv_if_eq (tgt := 22) hx hb dX5_fault_14 (by decide) (fun c9 => ?_) (fun c9 => ?_)
    · have q10 := bz.f f8 c9
      rw [thr_0 c9] at hR
      refine lv_aload_n hx hb dX5_fault_22 rfl (lv_at hl 0 rfl) ?_
      refine lv_iload_n hx hb dX5_fault_23 rfl (lv_at hl 1 rfl) ?_
      refine lv_iload_n hx hb dX5_fault_24 rfl (lv_at hl 2 rfl) ?_
      obtain ⟨j_p0, hj_p0, rfl⟩ := isP_of (n := K 1) (p := p0) (by first | exact Classical.not_not.mp (by assumption) | assumption) (by omega)
      have ej_p0 : (nI j_p0).toNatClampNeg = j_p0 := nI_clamp (by omega)
      have ipj_p0 : isP (K 1) (nI j_p0) := isP_nI hj_p0 (by omega)
      refine g_cWi (k2 := 0) (n2 := 0) (g_runV (rest := []) hC (c_X5_faulty hE ⟨hK0, hK1, hK2, hSr, hHo, hTd⟩ s0 j_p0 _ (by omega)) Y_X5_faulty k_1159 I_X5_faulty V_X5_faulty hR.obj rfl hR rfl hl.1 dX5_fault_25 ⟨by dsimp only; omega, by dsimp only; omega⟩ ⟨Nat.le_of_ble_eq_true rfl, Nat.le_of_ble_eq_true rfl⟩ rfl (Nat.le_of_ble_eq_true rfl)) hS (fun _ h => h) rfl rfl (fun r11 H lo h12 _ _ hS => ?_)
      obtain ⟨ef13, hR⟩ := h12
      exact g_zretW hC hr (by rw [ef13]; exact fl_nar _ _ _ _) dX5_fault_28 hS (Nat.le_of_ble_eq_true rfl) (Nat.le_of_ble_eq_true rfl) (mPost_0 (by unfold kFault; rw [cif_neg (by first | grind | (simp only [ix, ej_p0, mv, mw]; grind)), cif_neg (by first | grind | (simp only [ix, ej_p0, mv, mw]; grind))]) hR rfl rfl (by simp only [ix, ej_p0]; assumption))
    · have q10 := bz.t f8 c9
      rw [thr_1 c9] at hR
      refine lv_bipush (v := 45) hx hb dX5_fault_17 (by decide) ?_
      refine lv_goto (tgt := 28) hx hb dX5_fault_19 (by decide) ?_
      exact g_zretW hC hr rfl dX5_fault_28 hS (Nat.le_of_ble_eq_true rfl) (Nat.le_of_ble_eq_true rfl) (mPost_k 2 (by unfold kFault; rw [cif_neg (by grind), cif_pos (by grind)]) (by decide) rfl hR)
set_option maxHeartbeats 4000000 in
set_option maxRecDepth 100000 in
theorem c_X5_faultDepth {l : Launch} {E : gV} (hE : gOK l E) {β : Nat → Nat} {μ : F2} {K : Nat → Nat} {dp th : Int32} (hI : MI μ K) (p0 : Int32) (s0 : Int32) : gM l E yX5_faultDepth cX5_faultDepth 3 (some .int) ({ frames := 21, cells := 0, slots := 0, locals := 483 } : Room) [.ref (β 19), .int p0, .int s0] (fun H => RM E β μ K dp th H) (gQW (mA β) (gWi (fun r H => mPost E β μ K (kDepth (mv μ) (μ 22 0) (K 1) p0 s0) (μ) (K) (r = nI (dpt (mv μ) (μ 22 0) s0 (ix p0))) H))) (fun _ => False) (mA β) := by
  refine gM_body hE (by decide +kernel) (Nat.le_of_ble_eq_true rfl) ?_
  intro p_ e_ s m args below meth c hC ht hr hname hP ls hl
  have hx := hC.2.2.1
  have hb := hC.2.2.2.1
  have hl : lv_has ls 3 [(0, .ref (β 19)), (1, .int p0), (2, .int s0)] := hl
  have hS : va_S ((mA β)) s.heap s.heap [] := va_S.rf
  have hR : RM E β μ K dp th s.heap := hP
  obtain ⟨hK0, hK1, hK2, hSr, hHo, hTd⟩ := hI
  refine lv_aload_n hx hb dX5_faultDepth_0 rfl (lv_at hl 0 rfl) ?_
  refine lv_iload_n hx hb dX5_faultDepth_1 rfl (lv_at hl 1 rfl) ?_
  refine g_cWi (k2 := 0) (n2 := 0) (g_runV (rest := []) hC (c_X5_isNoPower hE (β := β) (μ := μ) (K := K) (dp := dp) (th := th) (by omega) p0) Y_X5_isNoPower k_1131 I_X5_isNoPower V_X5_isNoPower hR.obj rfl hR rfl hl.1 dX5_faultDepth_2 ⟨Nat.le_of_ble_eq_true rfl, Nat.le_of_ble_eq_true rfl⟩ ⟨Nat.le_of_ble_eq_true rfl, Nat.le_of_ble_eq_true rfl⟩ rfl (Nat.le_of_ble_eq_true rfl)) hS (fun _ h => h) rfl rfl (fun r1 H lo h2 _ _ hS => ?_)
  obtain ⟨f3, hR⟩ := h2
  refine lv_if_ne (tgt := 17) hx hb dX5_faultDepth_5 (by decide) (fun c4 => ?_) (fun c4 => ?_)
  · have q5 := bz.t f3 c4
    rw [thr_1 c4] at hR
    refine lv_iconst (v := 0) hx hb dX5_faultDepth_17 (by decide) ?_
    exact g_iretW hC hr dX5_faultDepth_18 hS (Nat.le_of_ble_eq_true rfl) (Nat.le_of_ble_eq_true rfl) (mPost_k 1 (by unfold kDepth; rw [cif_pos (by grind)]) (by decide) rfl hR)
  · have q5 := bz.f f3 c4
    rw [thr_0 c4] at hR
    refine lv_aload_n hx hb dX5_faultDepth_8 rfl (lv_at hl 0 rfl) ?_
    refine lv_iload_n hx hb dX5_faultDepth_9 rfl (lv_at hl 2 rfl) ?_
    refine lv_iconst (v := 2) hx hb dX5_faultDepth_10 (by decide) ?_
    refine g_cWi (k2 := 0) (n2 := 0) (g_runV (rest := []) hC (c_X5_isNoSum hE (β := β) (μ := μ) (K := K) (dp := dp) (th := 0) s0 2) Y_X5_isNoSum k_1155 I_X5_isNoSum V_X5_isNoSum hR.obj rfl hR rfl hl.1 dX5_faultDepth_11 ⟨Nat.le_of_ble_eq_true rfl, Nat.le_of_ble_eq_true rfl⟩ ⟨Nat.le_of_ble_eq_true rfl, Nat.le_of_ble_eq_true rfl⟩ rfl (Nat.le_of_ble_eq_true rfl)) hS (fun _ h => h) rfl rfl (fun r6 H lo h7 _ _ hS => ?_)
    obtain ⟨f8, hR⟩ := h7
    refine lv_if_eq (tgt := 19) hx hb dX5_faultDepth_14 (by decide) (fun c9 => ?_) (fun c9 => ?_)
    · have q10 := bz.f f8 c9
      rw [thr_0 c9] at hR
      refine lv_aload_n hx hb dX5_faultDepth_19 rfl (lv_at hl 0 rfl) ?_
      refine lv_aload_n hx hb dX5_faultDepth_20 rfl (lv_at hl 0 rfl) ?_
      refine lv_iload_n hx hb dX5_faultDepth_21 rfl (lv_at hl 1 rfl) ?_
      refine lv_iload_n hx hb dX5_faultDepth_22 rfl (lv_at hl 2 rfl) ?_
      obtain ⟨j_p0, hj_p0, rfl⟩ := isP_of (n := K 1) (p := p0) (by first | exact Classical.not_not.mp (by assumption) | assumption) (by omega)
      have ej_p0 : (nI j_p0).toNatClampNeg = j_p0 := nI_clamp (by omega)
      have ipj_p0 : isP (K 1) (nI j_p0) := isP_nI hj_p0 (by omega)
      refine g_cWi (k2 := 0) (n2 := 0) (g_runV (rest := [.ref (β 19)]) hC (c_X5_faulty hE ⟨hK0, hK1, hK2, hSr, hHo, hTd⟩ s0 j_p0 _ (by omega)) Y_X5_faulty k_1159 I_X5_faulty V_X5_faulty hR.obj rfl hR rfl hl.1 dX5_faultDepth_23 ⟨by dsimp only; omega, by dsimp only; omega⟩ ⟨Nat.le_of_ble_eq_true rfl, Nat.le_of_ble_eq_true rfl⟩ rfl (Nat.le_of_ble_eq_true rfl)) hS (fun _ h => h) rfl rfl (fun r11 H lo h12 _ _ hS => ?_)
      obtain ⟨ef13, hR⟩ := h12
      refine lv_bipush (v := 45) hx hb dX5_faultDepth_26 (by decide) ?_
      refine lv_icmp_ne (tgt := 35) hx hb dX5_faultDepth_28 (by decide) (fun c14 => ?_) (fun c14 => ?_)
      · refine lv_iconst (v := 0) hx hb dX5_faultDepth_35 (by decide) ?_
        refine lv_iconst (v := 3) hx hb dX5_faultDepth_36 (by decide) ?_
        refine g_cWi (k2 := 0) (n2 := 0) (g_runV (rest := []) hC (c_X5_isThrown hE (β := β) (μ := μ) (K := K) (dp := nI (dpt (mv μ) (μ 22 0) s0 j_p0)) (th := 0) 0 3 rfl) Y_X5_isThrown k_1084 I_X5_isThrown V_X5_isThrown hR.obj rfl hR rfl hl.1 dX5_faultDepth_37 ⟨Nat.le_of_ble_eq_true rfl, Nat.le_of_ble_eq_true rfl⟩ ⟨Nat.le_of_ble_eq_true rfl, Nat.le_of_ble_eq_true rfl⟩ rfl (Nat.le_of_ble_eq_true rfl)) hS (fun _ h => h) rfl rfl (fun r15 H lo h16 _ _ hS => ?_)
        obtain ⟨rfl, hR⟩ := h16
        have hR : RM E β μ K (nI (dpt (mv μ) (μ 22 0) s0 j_p0)) 0 H := hR
        refine lv_if_eq (tgt := 47) hx hb dX5_faultDepth_40 (by decide) (fun c17 => ?_) (fun c17 => ?_)
        · refine lv_aload_n hx hb dX5_faultDepth_47 rfl (lv_at hl 0 rfl) ?_
          refine g_get (v := .int (nI (dpt (mv μ) (μ 22 0) s0 j_p0))) hC hR.obj (C := RX5) (T := TX5) (N := 26) rfl u5_in 24 (by decide) k_1020 rfl dX5_faultDepth_48 ?_
          exact g_iretW hC hr dX5_faultDepth_51 hS (Nat.le_of_ble_eq_true rfl) (Nat.le_of_ble_eq_true rfl) (mPost_0 (by unfold kDepth; rw [cif_neg (by first | grind | (simp only [ix, ej_p0, mv, mw]; grind)), cif_neg (by first | grind | (simp only [ix, ej_p0, mv, mw]; grind)), cif_neg (by first | grind | (simp only [ix, ej_p0, mv, mw]; grind))]) hR rfl rfl (by simp only [ix, ej_p0]))
        · exact absurd (by decide) c17
      · refine lv_iconst (v := 1) hx hb dX5_faultDepth_31 (by decide) ?_
        refine lv_goto (tgt := 36) hx hb dX5_faultDepth_32 (by decide) ?_
        refine lv_iconst (v := 3) hx hb dX5_faultDepth_36 (by decide) ?_
        refine g_cWi (k2 := 0) (n2 := 0) (g_runV (rest := []) hC (c_X5_isThrown hE (β := β) (μ := μ) (K := K) (dp := nI (dpt (mv μ) (μ 22 0) s0 j_p0)) (th := 0) 1 3 rfl) Y_X5_isThrown k_1084 I_X5_isThrown V_X5_isThrown hR.obj rfl hR rfl hl.1 dX5_faultDepth_37 ⟨Nat.le_of_ble_eq_true rfl, Nat.le_of_ble_eq_true rfl⟩ ⟨Nat.le_of_ble_eq_true rfl, Nat.le_of_ble_eq_true rfl⟩ rfl (Nat.le_of_ble_eq_true rfl)) hS (fun _ h => h) rfl rfl (fun r18 H lo h19 _ _ hS => ?_)
        obtain ⟨rfl, hR⟩ := h19
        have hR : RM E β μ K (nI (dpt (mv μ) (μ 22 0) s0 j_p0)) 3 H := hR
        refine lv_if_eq (tgt := 47) hx hb dX5_faultDepth_40 (by decide) (fun c20 => ?_) (fun c20 => ?_)
        · exact absurd c20 (by decide)
        · refine lv_iconst (v := 0) hx hb dX5_faultDepth_43 (by decide) ?_
          refine lv_goto (tgt := 51) hx hb dX5_faultDepth_44 (by decide) ?_
          exact g_iretW hC hr dX5_faultDepth_51 hS (Nat.le_of_ble_eq_true rfl) (Nat.le_of_ble_eq_true rfl) (mPost_k 3 (by unfold kDepth; rw [cif_neg (by first | grind | (simp only [ix, ej_p0, mv, mw]; grind)), cif_neg (by first | grind | (simp only [ix, ej_p0, mv, mw]; grind)), cif_pos (by first | grind | (simp only [ix, ej_p0, mv, mw]; grind))]) (by decide) rfl hR)
    · have q10 := bz.t f8 c9
      rw [thr_1 c9] at hR
      refine lv_iconst (v := 0) hx hb dX5_faultDepth_17 (by decide) ?_
      exact g_iretW hC hr dX5_faultDepth_18 hS (Nat.le_of_ble_eq_true rfl) (Nat.le_of_ble_eq_true rfl) (mPost_k 2 (by unfold kDepth; rw [cif_neg (by grind), cif_pos (by grind)]) (by decide) rfl hR)
