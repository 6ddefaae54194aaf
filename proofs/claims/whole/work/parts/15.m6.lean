set_option maxHeartbeats 4000000 in
set_option maxRecDepth 100000 in
theorem c_X5_standsByPapers {l : Launch} {E : gV} (hE : gOK l E) {β : Nat → Nat} {μ : F2} {K : Nat → Nat} {dp th : Int32} (hI : MI μ K) (d0 : Int32) : gM l E yX5_standsByPapers cX5_standsByPapers 2 (some .boolean) ({ frames := 3, cells := 0, slots := 0, locals := 64 } : Room) [.ref (β 19), .int d0] (fun H => RM E β μ K dp th H) (gQW (mA β) (gWi (fun r H => mPost E β μ K (kPow (K 2) d0) (μ) (K) (bz (μ 17 (ix d0) = 115 ∨ μ 17 (ix d0) = 114) r) H))) (fun _ => False) (mA β) := by
  refine gM_body hE (by decide +kernel) (Nat.le_of_ble_eq_true rfl) ?_
  intro p_ e_ s m args below meth c hC ht hr hname hP ls hl
  have hx := hC.2.2.1
  have hb := hC.2.2.2.1
  have hl : lv_has ls 2 [(0, .ref (β 19)), (1, .int d0)] := hl
  have hS : va_S ((mA β)) s.heap s.heap [] := va_S.rf
  have hR : RM E β μ K dp th s.heap := hP
  obtain ⟨hK0, hK1, hK2, hSr, hHo, hTd⟩ := hI
  refine lv_aload_n hx hb dX5_standsByPapers_0 rfl (lv_at hl 0 rfl) ?_
  refine lv_iload_n hx hb dX5_standsByPapers_1 rfl (lv_at hl 1 rfl) ?_
  refine g_cWi (k2 := 0) (n2 := 0) (g_runV (rest := []) hC (c_X5_stands hE (β := β) (μ := μ) (K := K) (dp := dp) (th := th) ⟨hK0, hK1, hK2, hSr, hHo, hTd⟩ d0) Y_X5_stands k_1269 I_X5_stands V_X5_stands hR.obj rfl hR rfl hl.1 dX5_standsByPapers_2 ⟨Nat.le_of_ble_eq_true rfl, Nat.le_of_ble_eq_true rfl⟩ ⟨Nat.le_of_ble_eq_true rfl, Nat.le_of_ble_eq_true rfl⟩ rfl (Nat.le_of_ble_eq_true rfl)) hS (fun _ h => h) rfl rfl (fun r1_ H lo h2_ _ _ hS => ?_)
  obtain ⟨h2_a, hnar⟩ := h2_
  exact g_zretW hC hr hnar dX5_standsByPapers_5 hS (Nat.le_of_ble_eq_true rfl) (Nat.le_of_ble_eq_true rfl) (by assumption)
set_option maxHeartbeats 4000000 in
set_option maxRecDepth 100000 in
theorem c_X5_signed {l : Launch} {E : gV} (hE : gOK l E) {β : Nat → Nat} {μ : F2} {K : Nat → Nat} {dp th : Int32} (hI : MI μ K) (i j k0 a0 pa0 : Int32) (hi : i ≠ -2) (hj : j ≠ -2) (hd : K 2 < 24) (h16_ : μ 16 (K 2) = 0) : gM l E yX5_signed cX5_signed 8 (some .int) ({ frames := 23, cells := 0, slots := 0, locals := 534 } : Room) [.ref (β 19), .int i, .int j, .int k0, .int a0, .int pa0] (fun H => RM E β μ K dp th H) (gQW (mA β) (gWi (fun r H => r = nI (K 2) ∧ ∃ dp, RM E β (mSig μ (K 1) (K 2) i j k0 a0 pa0 (mSum μ K k0 a0 pa0)) (updN K 2 (K 2 + 1)) dp th H))) (fun _ => False) (mA β) := by
  refine gM_body hE (by decide +kernel) (Nat.le_of_ble_eq_true rfl) ?_
  intro p_ e_ s m args below meth c hC ht hr hname hP ls hl
  have hx := hC.2.2.1
  have hb := hC.2.2.2.1
  have hl : lv_has ls 8 [(0, .ref (β 19)), (1, .int i), (2, .int j), (3, .int k0), (4, .int a0), (5, .int pa0)] := hl
  have hS : va_S ((mA β)) s.heap s.heap [] := va_S.rf
  have hR : RM E β μ K dp th s.heap := hP
  obtain ⟨hK0, hK1, hK2, hSr, hHo, hTd⟩ := hI
  refine lv_aload_n hx hb dX5_signed_0 rfl (lv_at hl 0 rfl) ?_
  refine g_get (v := .int (nI (K 2))) hC hR.obj (C := RX5) (T := TX5) (N := 26) rfl u5_in 21 (by decide) k_1017 rfl dX5_signed_1 ?_
  refine lv_istore (lv' := [(6, .int (nI (K 2))), (0, .ref (β 19)), (1, .int i), (2, .int j), (3, .int k0), (4, .int a0), (5, .int pa0)]) hx hb dX5_signed_4 hl (by decide) rfl (fun ls hl => ?_)
  refine lv_aload_n hx hb dX5_signed_6 rfl (lv_at hl 1 rfl) ?_
  refine g_get (v := .ref (β 10)) hC hR.obj (C := RX5) (T := TX5) (N := 26) rfl u5_in 10 (by decide) k_1006 rfl dX5_signed_7 ?_
  refine lv_iload hx hb dX5_signed_10 (lv_at hl 0 rfl) ?_
  refine lv_iload_n hx hb dX5_signed_12 rfl (lv_at hl 4 rfl) ?_
  refine m_iast (n := 24) (j := K 2) 10 (by decide) rfl rfl hC hR hS (by omega) dX5_signed_13 (fun H lo hR hS => ?_)
  refine lv_aload_n hx hb dX5_signed_14 rfl (lv_at hl 1 rfl) ?_
  refine g_get (v := .ref (β 11)) hC hR.obj (C := RX5) (T := TX5) (N := 26) rfl u5_in 11 (by decide) k_1007 rfl dX5_signed_15 ?_
  refine lv_iload hx hb dX5_signed_18 (lv_at hl 0 rfl) ?_
  refine lv_iload hx hb dX5_signed_20 (lv_at hl 5 rfl) ?_
  refine m_iast (n := 24) (j := K 2) 11 (by decide) rfl rfl hC hR hS (by omega) dX5_signed_22 (fun H lo hR hS => ?_)
  refine lv_aload_n hx hb dX5_signed_23 rfl (lv_at hl 1 rfl) ?_
  refine g_get (v := .ref (β 12)) hC hR.obj (C := RX5) (T := TX5) (N := 26) rfl u5_in 12 (by decide) k_1008 rfl dX5_signed_24 ?_
  refine lv_iload hx hb dX5_signed_27 (lv_at hl 0 rfl) ?_
  refine lv_iload hx hb dX5_signed_29 (lv_at hl 6 rfl) ?_
  refine m_iast (n := 24) (j := K 2) 12 (by decide) rfl rfl hC hR hS (by omega) dX5_signed_31 (fun H lo hR hS => ?_)
  refine lv_aload_n hx hb dX5_signed_32 rfl (lv_at hl 1 rfl) ?_
  refine g_get (v := .ref (β 13)) hC hR.obj (C := RX5) (T := TX5) (N := 26) rfl u5_in 13 (by decide) k_1009 rfl dX5_signed_33 ?_
  refine lv_iload hx hb dX5_signed_36 (lv_at hl 0 rfl) ?_
  refine lv_aload_n hx hb dX5_signed_38 rfl (lv_at hl 1 rfl) ?_
  refine g_get (v := .int (μ 22 0)) hC hR.obj (C := RX5) (T := TX5) (N := 26) rfl u5_in 22 (by decide) k_1018 rfl dX5_signed_39 ?_
  refine m_iast (n := 24) (j := K 2) 13 (by decide) rfl rfl hC hR hS (by omega) dX5_signed_42 (fun H lo hR hS => ?_)
  refine lv_aload_n hx hb dX5_signed_43 rfl (lv_at hl 1 rfl) ?_
  refine g_get (v := .ref (β 14)) hC hR.obj (C := RX5) (T := TX5) (N := 26) rfl u5_in 14 (by decide) k_1010 rfl dX5_signed_44 ?_
  refine lv_iload hx hb dX5_signed_47 (lv_at hl 0 rfl) ?_
  refine lv_aload_n hx hb dX5_signed_49 rfl (lv_at hl 1 rfl) ?_
  refine lv_iload_n hx hb dX5_signed_50 rfl (lv_at hl 4 rfl) ?_
  refine lv_iload hx hb dX5_signed_51 (lv_at hl 5 rfl) ?_
  refine lv_iload hx hb dX5_signed_53 (lv_at hl 6 rfl) ?_
  refine g_cRi (k2 := 0) (n2 := 0) (g_runV (rest := [.int (nI (K 2)), .ref (β 14)]) hC (c_X5_added hE (β := β) (μ := (up2 (up2 (up2 (up2 μ 10 (K 2) k0) 11 (K 2) a0) 12 (K 2) pa0) 13 (K 2) (μ 22 0))) (K := K) (dp := dp) (th := th) ⟨hK0, hK1, hK2, hSr, hHo, hTd⟩ k0 a0 pa0) Y_X5_added k_1217 I_X5_added V_X5_added hR.obj rfl hR rfl hl.1 dX5_signed_55 ⟨Nat.le_of_ble_eq_true rfl, Nat.le_of_ble_eq_true rfl⟩ ⟨Nat.le_of_ble_eq_true rfl, Nat.le_of_ble_eq_true rfl⟩ rfl (Nat.le_of_ble_eq_true rfl)) rfl rfl g_no (fun r1_ h2_ => ?_)
  have eS : r1_ = mSum μ K k0 a0 pa0 := by rw [h2_]; exact fAdd_congr (fun t ht => ⟨upd_n _ _ (by omega), upd_n _ _ (by omega), upd_n _ _ (by omega), upd_n _ _ (by omega), Iff.rfl⟩)
  refine m_iast (n := 24) (j := K 2) 14 (by decide) rfl rfl hC hR hS (by omega) dX5_signed_58 (fun H lo hR hS => ?_)
  have mvq : mv (up2 (up2 (up2 (up2 (up2 μ 10 (K 2) k0) 11 (K 2) a0) 12 (K 2) pa0) 13 (K 2) (μ 22 0)) 14 (K 2) r1_) = mv μ := mv_congr (fun k hk => by unfold up2; repeat rw [upA_n _ _ (by omega)])
  have t22 : (up2 (up2 (up2 (up2 (up2 μ 10 (K 2) k0) 11 (K 2) a0) 12 (K 2) pa0) 13 (K 2) (μ 22 0)) 14 (K 2) r1_) 22 0 = μ 22 0 := rfl
  refine lv_iload_n hx hb dX5_signed_59 rfl (lv_at hl 3 rfl) ?_
  refine lv_if_ge (tgt := 81) hx hb dX5_signed_60 (by decide) (fun c3_ => ?_) (fun c3_ => ?_)
  · refine lv_aload_n hx hb dX5_signed_81 rfl (lv_at hl 1 rfl) ?_
    refine lv_iload_n hx hb dX5_signed_82 rfl (lv_at hl 2 rfl) ?_
    refine lv_iload_n hx hb dX5_signed_83 rfl (lv_at hl 3 rfl) ?_
    refine lv_iload_n hx hb dX5_signed_84 rfl (lv_at hl 4 rfl) ?_
    refine lv_aload_n hx hb dX5_signed_85 rfl (lv_at hl 1 rfl) ?_
    refine g_get (v := .ref (β 14)) hC hR.obj (C := RX5) (T := TX5) (N := 26) rfl u5_in 14 (by decide) k_1010 rfl dX5_signed_86 ?_
    refine lv_iload hx hb dX5_signed_89 (lv_at hl 0 rfl) ?_
    refine g_iald (n := 24) (f := (upd (μ 14) (K 2) r1_)) (j := K 2) hC (hR.arr 14 (by decide) rfl rfl) (by omega) (by decide) dX5_signed_91 ?_
    rw [upd_s]
    refine g_cWi (k2 := 0) (n2 := 0) (g_runV (rest := []) hC (c_X5_canTogether hE (β := β) (μ := (up2 (up2 (up2 (up2 (up2 μ 10 (K 2) k0) 11 (K 2) a0) 12 (K 2) pa0) 13 (K 2) (μ 22 0)) 14 (K 2) r1_)) (K := K) (dp := dp) (th := th) ⟨hK0, hK1, hK2, hSr, hHo, hTd⟩ i j k0 r1_ (by first | assumption | exact nI_m2 _ (by omega)) (by first | assumption | exact nI_m2 _ (by omega))) Y_X5_canTogether k_1188 I_X5_canTogether V_X5_canTogether hR.obj rfl hR rfl hl.1 dX5_signed_92 ⟨Nat.le_of_ble_eq_true rfl, Nat.le_of_ble_eq_true rfl⟩ ⟨Nat.le_of_ble_eq_true rfl, Nat.le_of_ble_eq_true rfl⟩ rfl (Nat.le_of_ble_eq_true rfl)) hS (fun _ h => h) rfl rfl (fun r4_ H lo h5_ _ _ hS => ?_)
    obtain ⟨f7_, dp6_, hR⟩ := h5_
    have f8_ := f7_; rw [mvq, t22] at f8_
    refine lv_istore (lv' := [(7, .int r4_), (6, .int (nI (K 2))), (0, .ref (β 19)), (1, .int i), (2, .int j), (3, .int k0), (4, .int a0), (5, .int pa0)]) hx hb dX5_signed_95 hl (by decide) rfl (fun ls hl => ?_)
    refine lv_aload_n hx hb dX5_signed_97 rfl (lv_at hl 2 rfl) ?_
    refine g_get (v := .ref (β 17)) hC hR.obj (C := RX5) (T := TX5) (N := 26) rfl u5_in 17 (by decide) k_1013 rfl dX5_signed_98 ?_
    refine lv_iload hx hb dX5_signed_101 (lv_at hl 1 rfl) ?_
    refine lv_iload hx hb dX5_signed_103 (lv_at hl 0 rfl) ?_
    refine lv_if_eq (tgt := 113) hx hb dX5_signed_105 (by decide) (fun c9_ => ?_) (fun c9_ => ?_)
    · have q10_ := bz.f f8_ c9_
      refine lv_bipush (v := 119) hx hb dX5_signed_113 (by decide) ?_
      refine m_cast (n := 24) (j := K 2) 17 (by decide) rfl rfl hC hR hS (by omega) rfl dX5_signed_115 (fun H lo hR hS => ?_)
      refine lv_iload hx hb dX5_signed_116 (lv_at hl 0 rfl) ?_
      refine lv_if_ne (tgt := 129) hx hb dX5_signed_118 (by decide) (fun c11_ => ?_) (fun c11_ => ?_)
      · exact absurd (by assumption) c11_
      · refine lv_aload_n hx hb dX5_signed_121 rfl (lv_at hl 2 rfl) ?_
        refine lv_iload hx hb dX5_signed_122 (lv_at hl 1 rfl) ?_
        refine lv_iload_n hx hb dX5_signed_124 rfl (lv_at hl 3 rfl) ?_
        refine lv_iload_n hx hb dX5_signed_125 rfl (lv_at hl 4 rfl) ?_
        refine g_cWv (k2 := 0) (n2 := 0) (g_runV (rest := []) hC (c_X5_lacks hE (th := th) (μ := (up2 (up2 (up2 (up2 (up2 (up2 μ 10 (K 2) k0) 11 (K 2) a0) 12 (K 2) pa0) 13 (K 2) (μ 22 0)) 14 (K 2) r1_) 17 (K 2) 119)) (K := K) (dp := dp6_) ⟨hK0, hK1, hK2, hSr, hHo, hTd⟩ (K 2) i j hd hi hj h16_) Y_X5_lacks k_1221 I_X5_lacks V_X5_lacks hR.obj rfl hR rfl hl.1 dX5_signed_126 ⟨Nat.le_of_ble_eq_true rfl, Nat.le_of_ble_eq_true rfl⟩ ⟨Nat.le_of_ble_eq_true rfl, Nat.le_of_ble_eq_true rfl⟩ rfl (Nat.le_of_ble_eq_true rfl)) hS (fun _ h => h) rfl rfl (fun H lo h13_ _ _ hS => ?_)
        obtain ⟨dpl, hR⟩ := h13_
        have e10 : (up2 (up2 (up2 (up2 (up2 (up2 μ 10 (K 2) k0) 11 (K 2) a0) 12 (K 2) pa0) 13 (K 2) (μ 22 0)) 14 (K 2) r1_) 17 (K 2) 119) 10 (K 2) = k0 := upd_s _ _ _
        have e14 : (up2 (up2 (up2 (up2 (up2 (up2 μ 10 (K 2) k0) 11 (K 2) a0) 12 (K 2) pa0) 13 (K 2) (μ 22 0)) 14 (K 2) r1_) 17 (K 2) 119) 14 (K 2) = r1_ := upd_s _ _ _
        have mvl : mv (up2 (up2 (up2 (up2 (up2 (up2 μ 10 (K 2) k0) 11 (K 2) a0) 12 (K 2) pa0) 13 (K 2) (μ 22 0)) 14 (K 2) r1_) 17 (K 2) 119) = mv μ := mv_congr (fun k hk => by unfold up2; repeat rw [upA_n _ _ (by omega)])
        rw [e10, e14, mvl] at hR
        have hR : RM E β (mLack (up2 (up2 (up2 (up2 (up2 (up2 μ 10 (K 2) k0) 11 (K 2) a0) 12 (K 2) pa0) 13 (K 2) (μ 22 0)) 14 (K 2) r1_) 17 (K 2) 119) (K 2) (fLk (mv μ) (μ 22 0) i j k0 r1_ (K 1))) K dpl th H := hR
        refine lv_aload_n hx hb dX5_signed_129 rfl (lv_at hl 2 rfl) ?_
        refine lv_dup hx hb dX5_signed_130 rfl ?_
        refine g_get (v := .int (nI (K 2))) hC hR.obj (C := RX5) (T := TX5) (N := 26) rfl u5_in 21 (by decide) k_1017 rfl dX5_signed_131 ?_
        refine lv_iconst (v := 1) hx hb dX5_signed_134 (by decide) ?_
        refine g_iadd1 hx hb dX5_signed_135 ?_
        refine m_putN (μ' := (mLack (up2 (up2 (up2 (up2 (up2 (up2 μ 10 (K 2) k0) 11 (K 2) a0) 12 (K 2) pa0) 13 (K 2) (μ 22 0)) 14 (K 2) r1_) 17 (K 2) 119) (K 2) (fLk (mv μ) (μ 22 0) i j k0 r1_ (K 1)))) (K' := (updN K 2 ((K 2) + 1))) (dp' := dpl) (th' := th) 21 (by decide) hC hR hS k_1017 rfl rfl (fun _ _ => rfl) rfl dX5_signed_136 (fun H lo hR hS => ?_)
        refine lv_iload hx hb dX5_signed_139 (lv_at hl 1 rfl) ?_
        exact g_iretW hC hr dX5_signed_141 hS (Nat.le_of_ble_eq_true rfl) (Nat.le_of_ble_eq_true rfl) ⟨rfl, by unfold mSig; rw [← eS, cif_neg (by unfold mOk; grind)]; exact ⟨_, hR⟩⟩
    · have q10_ := bz.t f8_ c9_
      refine lv_bipush (v := 115) hx hb dX5_signed_108 (by decide) ?_
      refine lv_goto (tgt := 115) hx hb dX5_signed_110 (by decide) ?_
      refine m_cast (n := 24) (j := K 2) 17 (by decide) rfl rfl hC hR hS (by omega) rfl dX5_signed_115 (fun H lo hR hS => ?_)
      refine lv_iload hx hb dX5_signed_116 (lv_at hl 0 rfl) ?_
      refine lv_if_ne (tgt := 129) hx hb dX5_signed_118 (by decide) (fun c14_ => ?_) (fun c14_ => ?_)
      · refine lv_aload_n hx hb dX5_signed_129 rfl (lv_at hl 2 rfl) ?_
        refine lv_dup hx hb dX5_signed_130 rfl ?_
        refine g_get (v := .int (nI (K 2))) hC hR.obj (C := RX5) (T := TX5) (N := 26) rfl u5_in 21 (by decide) k_1017 rfl dX5_signed_131 ?_
        refine lv_iconst (v := 1) hx hb dX5_signed_134 (by decide) ?_
        refine g_iadd1 hx hb dX5_signed_135 ?_
        refine m_putN (μ' := (up2 (up2 (up2 (up2 (up2 (up2 μ 10 (K 2) k0) 11 (K 2) a0) 12 (K 2) pa0) 13 (K 2) (μ 22 0)) 14 (K 2) r1_) 17 (K 2) 115)) (K' := (updN K 2 ((K 2) + 1))) (dp' := dp6_) (th' := th) 21 (by decide) hC hR hS k_1017 rfl rfl (fun _ _ => rfl) rfl dX5_signed_136 (fun H lo hR hS => ?_)
        refine lv_iload hx hb dX5_signed_139 (lv_at hl 1 rfl) ?_
        exact g_iretW hC hr dX5_signed_141 hS (Nat.le_of_ble_eq_true rfl) (Nat.le_of_ble_eq_true rfl) ⟨rfl, by unfold mSig; rw [← eS, cif_pos (by unfold mOk; grind)]; exact ⟨_, hR⟩⟩
      · exact absurd c14_ (by assumption)
  · refine lv_aload_n hx hb dX5_signed_63 rfl (lv_at hl 1 rfl) ?_
    refine lv_iload_n hx hb dX5_signed_64 rfl (lv_at hl 2 rfl) ?_
    refine lv_iload_n hx hb dX5_signed_65 rfl (lv_at hl 4 rfl) ?_
    refine lv_bipush (v := 115) hx hb dX5_signed_66 (by decide) ?_
    refine lv_aload_n hx hb dX5_signed_68 rfl (lv_at hl 1 rfl) ?_
    refine g_get (v := .ref (β 14)) hC hR.obj (C := RX5) (T := TX5) (N := 26) rfl u5_in 14 (by decide) k_1010 rfl dX5_signed_69 ?_
    refine lv_iload hx hb dX5_signed_72 (lv_at hl 0 rfl) ?_
    refine g_iald (n := 24) (f := (upd (μ 14) (K 2) r1_)) (j := K 2) hC (hR.arr 14 (by decide) rfl rfl) (by omega) (by decide) dX5_signed_74 ?_
    rw [upd_s]
    refine g_cWi (k2 := 0) (n2 := 0) (g_runV (rest := []) hC (c_X5_has hE (β := β) (μ := (up2 (up2 (up2 (up2 (up2 μ 10 (K 2) k0) 11 (K 2) a0) 12 (K 2) pa0) 13 (K 2) (μ 22 0)) 14 (K 2) r1_)) (K := K) (dp := dp) (th := th) ⟨hK0, hK1, hK2, hSr, hHo, hTd⟩ i k0 115 r1_ (by first | assumption | exact nI_m2 _ (by omega))) Y_X5_has k_1180 I_X5_has V_X5_has hR.obj rfl hR rfl hl.1 dX5_signed_75 ⟨Nat.le_of_ble_eq_true rfl, Nat.le_of_ble_eq_true rfl⟩ ⟨Nat.le_of_ble_eq_true rfl, Nat.le_of_ble_eq_true rfl⟩ rfl (Nat.le_of_ble_eq_true rfl)) hS (fun _ h => h) rfl rfl (fun r15_ H lo h16_ _ _ hS => ?_)
    obtain ⟨f18_, dp17_, hR⟩ := h16_
    have f19_ := f18_; rw [mvq, t22] at f19_
    refine lv_goto (tgt := 95) hx hb dX5_signed_78 (by decide) ?_
    refine lv_istore (lv' := [(7, .int r15_), (6, .int (nI (K 2))), (0, .ref (β 19)), (1, .int i), (2, .int j), (3, .int k0), (4, .int a0), (5, .int pa0)]) hx hb dX5_signed_95 hl (by decide) rfl (fun ls hl => ?_)
    refine lv_aload_n hx hb dX5_signed_97 rfl (lv_at hl 2 rfl) ?_
    refine g_get (v := .ref (β 17)) hC hR.obj (C := RX5) (T := TX5) (N := 26) rfl u5_in 17 (by decide) k_1013 rfl dX5_signed_98 ?_
    refine lv_iload hx hb dX5_signed_101 (lv_at hl 1 rfl) ?_
    refine lv_iload hx hb dX5_signed_103 (lv_at hl 0 rfl) ?_
    refine lv_if_eq (tgt := 113) hx hb dX5_signed_105 (by decide) (fun c20_ => ?_) (fun c20_ => ?_)
    · have q21_ := bz.f f19_ c20_
      refine lv_bipush (v := 119) hx hb dX5_signed_113 (by decide) ?_
      refine m_cast (n := 24) (j := K 2) 17 (by decide) rfl rfl hC hR hS (by omega) rfl dX5_signed_115 (fun H lo hR hS => ?_)
      refine lv_iload hx hb dX5_signed_116 (lv_at hl 0 rfl) ?_
      refine lv_if_ne (tgt := 129) hx hb dX5_signed_118 (by decide) (fun c22_ => ?_) (fun c22_ => ?_)
      · exact absurd (by assumption) c22_
      · refine lv_aload_n hx hb dX5_signed_121 rfl (lv_at hl 2 rfl) ?_
        refine lv_iload hx hb dX5_signed_122 (lv_at hl 1 rfl) ?_
        refine lv_iload_n hx hb dX5_signed_124 rfl (lv_at hl 3 rfl) ?_
        refine lv_iload_n hx hb dX5_signed_125 rfl (lv_at hl 4 rfl) ?_
        refine g_cWv (k2 := 0) (n2 := 0) (g_runV (rest := []) hC (c_X5_lacks hE (th := th) (μ := (up2 (up2 (up2 (up2 (up2 (up2 μ 10 (K 2) k0) 11 (K 2) a0) 12 (K 2) pa0) 13 (K 2) (μ 22 0)) 14 (K 2) r1_) 17 (K 2) 119)) (K := K) (dp := dp17_) ⟨hK0, hK1, hK2, hSr, hHo, hTd⟩ (K 2) i j hd hi hj h16_) Y_X5_lacks k_1221 I_X5_lacks V_X5_lacks hR.obj rfl hR rfl hl.1 dX5_signed_126 ⟨Nat.le_of_ble_eq_true rfl, Nat.le_of_ble_eq_true rfl⟩ ⟨Nat.le_of_ble_eq_true rfl, Nat.le_of_ble_eq_true rfl⟩ rfl (Nat.le_of_ble_eq_true rfl)) hS (fun _ h => h) rfl rfl (fun H lo h24_ _ _ hS => ?_)
        obtain ⟨dpl, hR⟩ := h24_
        have e10 : (up2 (up2 (up2 (up2 (up2 (up2 μ 10 (K 2) k0) 11 (K 2) a0) 12 (K 2) pa0) 13 (K 2) (μ 22 0)) 14 (K 2) r1_) 17 (K 2) 119) 10 (K 2) = k0 := upd_s _ _ _
        have e14 : (up2 (up2 (up2 (up2 (up2 (up2 μ 10 (K 2) k0) 11 (K 2) a0) 12 (K 2) pa0) 13 (K 2) (μ 22 0)) 14 (K 2) r1_) 17 (K 2) 119) 14 (K 2) = r1_ := upd_s _ _ _
        have mvl : mv (up2 (up2 (up2 (up2 (up2 (up2 μ 10 (K 2) k0) 11 (K 2) a0) 12 (K 2) pa0) 13 (K 2) (μ 22 0)) 14 (K 2) r1_) 17 (K 2) 119) = mv μ := mv_congr (fun k hk => by unfold up2; repeat rw [upA_n _ _ (by omega)])
        rw [e10, e14, mvl] at hR
        have hR : RM E β (mLack (up2 (up2 (up2 (up2 (up2 (up2 μ 10 (K 2) k0) 11 (K 2) a0) 12 (K 2) pa0) 13 (K 2) (μ 22 0)) 14 (K 2) r1_) 17 (K 2) 119) (K 2) (fLk (mv μ) (μ 22 0) i j k0 r1_ (K 1))) K dpl th H := hR
        refine lv_aload_n hx hb dX5_signed_129 rfl (lv_at hl 2 rfl) ?_
        refine lv_dup hx hb dX5_signed_130 rfl ?_
        refine g_get (v := .int (nI (K 2))) hC hR.obj (C := RX5) (T := TX5) (N := 26) rfl u5_in 21 (by decide) k_1017 rfl dX5_signed_131 ?_
        refine lv_iconst (v := 1) hx hb dX5_signed_134 (by decide) ?_
        refine g_iadd1 hx hb dX5_signed_135 ?_
        refine m_putN (μ' := (mLack (up2 (up2 (up2 (up2 (up2 (up2 μ 10 (K 2) k0) 11 (K 2) a0) 12 (K 2) pa0) 13 (K 2) (μ 22 0)) 14 (K 2) r1_) 17 (K 2) 119) (K 2) (fLk (mv μ) (μ 22 0) i j k0 r1_ (K 1)))) (K' := (updN K 2 ((K 2) + 1))) (dp' := dpl) (th' := th) 21 (by decide) hC hR hS k_1017 rfl rfl (fun _ _ => rfl) rfl dX5_signed_136 (fun H lo hR hS => ?_)
        refine lv_iload hx hb dX5_signed_139 (lv_at hl 1 rfl) ?_
        exact g_iretW hC hr dX5_signed_141 hS (Nat.le_of_ble_eq_true rfl) (Nat.le_of_ble_eq_true rfl) ⟨rfl, by unfold mSig; rw [← eS, cif_neg (by unfold mOk; grind)]; exact ⟨_, hR⟩⟩
    · have q21_ := bz.t f19_ c20_
      refine lv_bipush (v := 115) hx hb dX5_signed_108 (by decide) ?_
      refine lv_goto (tgt := 115) hx hb dX5_signed_110 (by decide) ?_
      refine m_cast (n := 24) (j := K 2) 17 (by decide) rfl rfl hC hR hS (by omega) rfl dX5_signed_115 (fun H lo hR hS => ?_)
      refine lv_iload hx hb dX5_signed_116 (lv_at hl 0 rfl) ?_
      refine lv_if_ne (tgt := 129) hx hb dX5_signed_118 (by decide) (fun c25_ => ?_) (fun c25_ => ?_)
      · refine lv_aload_n hx hb dX5_signed_129 rfl (lv_at hl 2 rfl) ?_
        refine lv_dup hx hb dX5_signed_130 rfl ?_
        refine g_get (v := .int (nI (K 2))) hC hR.obj (C := RX5) (T := TX5) (N := 26) rfl u5_in 21 (by decide) k_1017 rfl dX5_signed_131 ?_
        refine lv_iconst (v := 1) hx hb dX5_signed_134 (by decide) ?_
        refine g_iadd1 hx hb dX5_signed_135 ?_
        refine m_putN (μ' := (up2 (up2 (up2 (up2 (up2 (up2 μ 10 (K 2) k0) 11 (K 2) a0) 12 (K 2) pa0) 13 (K 2) (μ 22 0)) 14 (K 2) r1_) 17 (K 2) 115)) (K' := (updN K 2 ((K 2) + 1))) (dp' := dp17_) (th' := th) 21 (by decide) hC hR hS k_1017 rfl rfl (fun _ _ => rfl) rfl dX5_signed_136 (fun H lo hR hS => ?_)
        refine lv_iload hx hb dX5_signed_139 (lv_at hl 1 rfl) ?_
        exact g_iretW hC hr dX5_signed_141 hS (Nat.le_of_ble_eq_true rfl) (Nat.le_of_ble_eq_true rfl) ⟨rfl, by unfold mSig; rw [← eS, cif_pos (by unfold mOk; grind)]; exact ⟨_, hR⟩⟩
      · exact absurd c25_ (by assumption)
set_option maxHeartbeats 4000000 in
set_option maxRecDepth 100000 in
theorem c_X5_sign {l : Launch} {E : gV} (hE : gOK l E) {β : Nat → Nat} {μ : F2} {K : Nat → Nat} {dp th : Int32} (hI : MI μ K) (p0 : Int32) (k0 : Int32) (a0 : Int32) (pa0 : Int32) (hz : ∀ d, K 2 ≤ d → μ 16 d = 0) : gM l E yX5_sign cX5_sign 5 (some .int) ({ frames := 24, cells := 0, slots := 0, locals := 561 } : Room) [.ref (β 19), .int p0, .int k0, .int a0, .int pa0] (fun H => RM E β μ K dp th H) (gQW (mA β) (gWi (fun r H => mPost E β μ K (kSign (K 0) (K 2) p0 k0 a0 pa0) (mSig μ (K 1) (K 2) p0 (-1) k0 a0 pa0 (mSum μ K k0 a0 pa0)) (updN K 2 (K 2 + 1)) (r = nI (K 2)) H))) (fun _ => False) (mA β) := by
  refine gM_body hE (by decide +kernel) (Nat.le_of_ble_eq_true rfl) ?_
  intro p_ e_ s m args below meth c hC ht hr hname hP ls hl
  have hx := hC.2.2.1
  have hb := hC.2.2.2.1
  have hl : lv_has ls 5 [(0, .ref (β 19)), (1, .int p0), (2, .int k0), (3, .int a0), (4, .int pa0)] := hl
  have hS : va_S ((mA β)) s.heap s.heap [] := va_S.rf
  have hR : RM E β μ K dp th s.heap := hP
  obtain ⟨hK0, hK1, hK2, hSr, hHo, hTd⟩ := hI
  refine lv_aload_n hx hb dX5_sign_0 rfl (lv_at hl 0 rfl) ?_
  refine lv_aload_n hx hb dX5_sign_1 rfl (lv_at hl 0 rfl) ?_
  refine lv_iload_n hx hb dX5_sign_2 rfl (lv_at hl 1 rfl) ?_
  refine g_cRi (k2 := 0) (n2 := 0) (g_runV (rest := [.ref (β 19)]) hC (c_X5_isNobody hE (β := β) (μ := μ) (K := K) (dp := dp) (th := th) (by omega) p0) Y_X5_isNobody k_1092 I_X5_isNobody V_X5_isNobody hR.obj rfl hR rfl hl.1 dX5_sign_3 ⟨Nat.le_of_ble_eq_true rfl, Nat.le_of_ble_eq_true rfl⟩ ⟨Nat.le_of_ble_eq_true rfl, Nat.le_of_ble_eq_true rfl⟩ rfl (Nat.le_of_ble_eq_true rfl)) rfl rfl g_no (fun r1_ h2_ => ?_)
  refine lv_iconst (v := 1) hx hb dX5_sign_6 (by decide) ?_
  refine g_cWi (k2 := 0) (n2 := 0) (g_runV (rest := []) hC (c_X5_isThrown hE (β := β) (μ := μ) (K := K) (dp := dp) (th := th) r1_ 1 (bz.nar h2_)) Y_X5_isThrown k_1084 I_X5_isThrown V_X5_isThrown hR.obj rfl hR rfl hl.1 dX5_sign_7 ⟨Nat.le_of_ble_eq_true rfl, Nat.le_of_ble_eq_true rfl⟩ ⟨Nat.le_of_ble_eq_true rfl, Nat.le_of_ble_eq_true rfl⟩ rfl (Nat.le_of_ble_eq_true rfl)) hS (fun _ h => h) rfl rfl (fun r3_ H lo h4_ _ _ hS => ?_)
  obtain ⟨rfl, hR⟩ := h4_
  refine lv_if_ne (tgt := 46) hx hb dX5_sign_10 (by decide) (fun c5_ => ?_) (fun c5_ => ?_)
  · have q6_ := bz.t h2_ c5_
    rw [thr_1 c5_] at hR
    refine lv_iconst (v := 0) hx hb dX5_sign_46 (by decide) ?_
    exact g_iretW hC hr dX5_sign_47 hS (Nat.le_of_ble_eq_true rfl) (Nat.le_of_ble_eq_true rfl) (mPost_k 1 (by unfold kSign; rw [cif_pos (by grind)]) (by decide) rfl hR)
  · have q6_ := bz.f h2_ c5_
    rw [thr_0 c5_] at hR
    refine lv_aload_n hx hb dX5_sign_13 rfl (lv_at hl 0 rfl) ?_
    refine lv_iload_n hx hb dX5_sign_14 rfl (lv_at hl 2 rfl) ?_
    refine lv_iload_n hx hb dX5_sign_15 rfl (lv_at hl 3 rfl) ?_
    refine lv_iload hx hb dX5_sign_16 (lv_at hl 4 rfl) ?_
    refine g_cWi (k2 := 0) (n2 := 0) (g_runV (rest := []) hC (c_X5_isNoDeed_ hE (β := β) (μ := μ) (K := K) (dp := dp) (th := 0) k0 a0 pa0) Y_X5_isNoDeed_ k_1209 I_X5_isNoDeed_ V_X5_isNoDeed_ hR.obj rfl hR rfl hl.1 dX5_sign_18 ⟨Nat.le_of_ble_eq_true rfl, Nat.le_of_ble_eq_true rfl⟩ ⟨Nat.le_of_ble_eq_true rfl, Nat.le_of_ble_eq_true rfl⟩ rfl (Nat.le_of_ble_eq_true rfl)) hS (fun _ h => h) rfl rfl (fun r7_ H lo h8_ _ _ hS => ?_)
    obtain ⟨f9_, hR⟩ := h8_
    refine lv_if_ne (tgt := 46) hx hb dX5_sign_21 (by decide) (fun c10_ => ?_) (fun c10_ => ?_)
    · have q11_ := bz.t f9_ c10_
      rw [thr_1 c10_] at hR
      refine lv_iconst (v := 0) hx hb dX5_sign_46 (by decide) ?_
      exact g_iretW hC hr dX5_sign_47 hS (Nat.le_of_ble_eq_true rfl) (Nat.le_of_ble_eq_true rfl) (mPost_k 2 (by unfold kSign; rw [cif_neg (by grind), cif_pos (by grind)]) (by decide) rfl hR)
    · have q11_ := bz.f f9_ c10_
      rw [thr_0 c10_] at hR
      refine lv_aload_n hx hb dX5_sign_24 rfl (lv_at hl 0 rfl) ?_
      refine lv_aload_n hx hb dX5_sign_25 rfl (lv_at hl 0 rfl) ?_
      refine g_get (v := .int (nI (K 2))) hC hR.obj (C := RX5) (T := TX5) (N := 26) rfl u5_in 21 (by decide) k_1017 rfl dX5_sign_26 ?_
      refine lv_bipush (v := 24) hx hb dX5_sign_29 (by decide) ?_
      refine lv_icmp_ne (tgt := 38) hx hb dX5_sign_31 (by decide) (fun c12_ => ?_) (fun c12_ => ?_)
      · have n13_ : ¬ (K 2) = 24 := fun z => c12_ (congrArg nI z)
        refine lv_iconst (v := 0) hx hb dX5_sign_38 (by decide) ?_
        refine lv_iconst (v := 3) hx hb dX5_sign_39 (by decide) ?_
        refine g_cWi (k2 := 0) (n2 := 0) (g_runV (rest := []) hC (c_X5_isThrown hE (β := β) (μ := μ) (K := K) (dp := dp) (th := 0) 0 3 rfl) Y_X5_isThrown k_1084 I_X5_isThrown V_X5_isThrown hR.obj rfl hR rfl hl.1 dX5_sign_40 ⟨Nat.le_of_ble_eq_true rfl, Nat.le_of_ble_eq_true rfl⟩ ⟨Nat.le_of_ble_eq_true rfl, Nat.le_of_ble_eq_true rfl⟩ rfl (Nat.le_of_ble_eq_true rfl)) hS (fun _ h => h) rfl rfl (fun r14_ H lo h15_ _ _ hS => ?_)
        obtain ⟨rfl, hR⟩ := h15_
        have hR : RM E β μ K dp 0 H := hR
        refine lv_if_eq (tgt := 48) hx hb dX5_sign_43 (by decide) (fun c16_ => ?_) (fun c16_ => ?_)
        · refine lv_aload_n hx hb dX5_sign_48 rfl (lv_at hl 0 rfl) ?_
          refine lv_iload_n hx hb dX5_sign_49 rfl (lv_at hl 1 rfl) ?_
          refine lv_iconst (v := (-1)) hx hb dX5_sign_50 (by decide) ?_
          refine lv_iload_n hx hb dX5_sign_51 rfl (lv_at hl 2 rfl) ?_
          refine lv_iload_n hx hb dX5_sign_52 rfl (lv_at hl 3 rfl) ?_
          refine lv_iload hx hb dX5_sign_53 (lv_at hl 4 rfl) ?_
          obtain ⟨j_p0, hj_p0, rfl⟩ := isP_of (n := K 0) (p := p0) (by first | exact Classical.not_not.mp (by assumption) | assumption) (by omega)
          have ej_p0 : (nI j_p0).toNatClampNeg = j_p0 := nI_clamp (by omega)
          have ipj_p0 : isP (K 0) (nI j_p0) := isP_nI hj_p0 (by omega)
          refine g_cWi (k2 := 0) (n2 := 0) (g_runV (rest := []) hC (c_X5_signed hE (β := β) (μ := μ) (K := K) (dp := dp) (th := 0) ⟨hK0, hK1, hK2, hSr, hHo, hTd⟩ (nI j_p0) (-1) k0 a0 pa0 (by first | decide | exact nI_m2 _ (by omega)) (by first | decide | exact nI_m2 _ (by omega)) (by omega) (hz _ (by omega))) Y_X5_signed k_1213 I_X5_signed V_X5_signed hR.obj rfl hR rfl hl.1 dX5_sign_55 ⟨Nat.le_of_ble_eq_true rfl, Nat.le_of_ble_eq_true rfl⟩ ⟨Nat.le_of_ble_eq_true rfl, Nat.le_of_ble_eq_true rfl⟩ rfl (Nat.le_of_ble_eq_true rfl)) hS (fun _ h => h) rfl rfl (fun r17_ H lo h18_ _ _ hS => ?_)
          obtain ⟨rfl, dps, hR⟩ := h18_
          exact g_iretW hC hr dX5_sign_58 hS (Nat.le_of_ble_eq_true rfl) (Nat.le_of_ble_eq_true rfl) (mPost_0 (by unfold kSign; rw [cif_neg (by first | grind | (simp only [ix, ej_p0, mv, mw]; grind)), cif_neg (by first | grind | (simp only [ix, ej_p0, mv, mw]; grind)), cif_neg (by first | grind | (simp only [ix, ej_p0, mv, mw]; grind))]) hR rfl rfl rfl)
        · exact absurd (by decide) c16_
      · have n13_ : (K 2) = 24 := (nI_eq (by omega) (by omega)).mp c12_
        refine lv_iconst (v := 1) hx hb dX5_sign_34 (by decide) ?_
        refine lv_goto (tgt := 39) hx hb dX5_sign_35 (by decide) ?_
        refine lv_iconst (v := 3) hx hb dX5_sign_39 (by decide) ?_
        refine g_cWi (k2 := 0) (n2 := 0) (g_runV (rest := []) hC (c_X5_isThrown hE (β := β) (μ := μ) (K := K) (dp := dp) (th := 0) 1 3 rfl) Y_X5_isThrown k_1084 I_X5_isThrown V_X5_isThrown hR.obj rfl hR rfl hl.1 dX5_sign_40 ⟨Nat.le_of_ble_eq_true rfl, Nat.le_of_ble_eq_true rfl⟩ ⟨Nat.le_of_ble_eq_true rfl, Nat.le_of_ble_eq_true rfl⟩ rfl (Nat.le_of_ble_eq_true rfl)) hS (fun _ h => h) rfl rfl (fun r19_ H lo h20_ _ _ hS => ?_)
        obtain ⟨rfl, hR⟩ := h20_
        have hR : RM E β μ K dp 3 H := hR
        refine lv_if_eq (tgt := 48) hx hb dX5_sign_43 (by decide) (fun c21_ => ?_) (fun c21_ => ?_)
        · exact absurd c21_ (by decide)
        · refine lv_iconst (v := 0) hx hb dX5_sign_46 (by decide) ?_
          exact g_iretW hC hr dX5_sign_47 hS (Nat.le_of_ble_eq_true rfl) (Nat.le_of_ble_eq_true rfl) (mPost_k 3 (by unfold kSign; rw [cif_neg (by grind), cif_neg (by grind), cif_pos (by grind)]) (by decide) rfl hR)
set_option maxHeartbeats 4000000 in
set_option maxRecDepth 100000 in
theorem c_X5_signTogether {l : Launch} {E : gV} (hE : gOK l E) {β : Nat → Nat} {μ : F2} {K : Nat → Nat} {dp th : Int32} (hI : MI μ K) (p0 : Int32) (o0 : Int32) (k0 : Int32) (a0 : Int32) (pa0 : Int32) (hz : ∀ d, K 2 ≤ d → μ 16 d = 0) : gM l E yX5_signTogether cX5_signTogether 6 (some .int) ({ frames := 24, cells := 0, slots := 0, locals := 561 } : Room) [.ref (β 19), .int p0, .int o0, .int k0, .int a0, .int pa0] (fun H => RM E β μ K dp th H) (gQW (mA β) (gWi (fun r H => mPost E β μ K (kSignT (K 0) (K 2) p0 o0 k0 a0 pa0) (mSig μ (K 1) (K 2) p0 o0 k0 a0 pa0 (mSum μ K k0 a0 pa0)) (updN K 2 (K 2 + 1)) (r = nI (K 2)) H))) (fun _ => False) (mA β) := by
  refine gM_body hE (by decide +kernel) (Nat.le_of_ble_eq_true rfl) ?_
  intro p_ e_ s m args below meth c hC ht hr hname hP ls hl
  have hx := hC.2.2.1
  have hb := hC.2.2.2.1
  have hl : lv_has ls 6 [(0, .ref (β 19)), (1, .int p0), (2, .int o0), (3, .int k0), (4, .int a0), (5, .int pa0)] := hl
  have hS : va_S ((mA β)) s.heap s.heap [] := va_S.rf
  have hR : RM E β μ K dp th s.heap := hP
  obtain ⟨hK0, hK1, hK2, hSr, hHo, hTd⟩ := hI
  refine lv_aload_n hx hb dX5_signTogether_0 rfl (lv_at hl 0 rfl) ?_
  refine lv_aload_n hx hb dX5_signTogether_1 rfl (lv_at hl 0 rfl) ?_
  refine lv_iload_n hx hb dX5_signTogether_2 rfl (lv_at hl 1 rfl) ?_
  refine g_cRi (k2 := 0) (n2 := 0) (g_runV (rest := [.ref (β 19)]) hC (c_X5_isNobody hE (β := β) (μ := μ) (K := K) (dp := dp) (th := th) (by omega) p0) Y_X5_isNobody k_1092 I_X5_isNobody V_X5_isNobody hR.obj rfl hR rfl hl.1 dX5_signTogether_3 ⟨Nat.le_of_ble_eq_true rfl, Nat.le_of_ble_eq_true rfl⟩ ⟨Nat.le_of_ble_eq_true rfl, Nat.le_of_ble_eq_true rfl⟩ rfl (Nat.le_of_ble_eq_true rfl)) rfl rfl g_no (fun r1_ h2_ => ?_)
  refine lv_if_ne (tgt := 17) hx hb dX5_signTogether_6 (by decide) (fun c3_ => ?_) (fun c3_ => ?_)
  · have q4_ := bz.t h2_ c3_
    refine lv_iconst (v := 1) hx hb dX5_signTogether_17 (by decide) ?_
    refine lv_goto (tgt := 22) hx hb dX5_signTogether_18 (by decide) ?_
    refine lv_iconst (v := 1) hx hb dX5_signTogether_22 (by decide) ?_
    refine g_cWi (k2 := 0) (n2 := 0) (g_runV (rest := []) hC (c_X5_isThrown hE (β := β) (μ := μ) (K := K) (dp := dp) (th := th) 1 1 rfl) Y_X5_isThrown k_1084 I_X5_isThrown V_X5_isThrown hR.obj rfl hR rfl hl.1 dX5_signTogether_23 ⟨Nat.le_of_ble_eq_true rfl, Nat.le_of_ble_eq_true rfl⟩ ⟨Nat.le_of_ble_eq_true rfl, Nat.le_of_ble_eq_true rfl⟩ rfl (Nat.le_of_ble_eq_true rfl)) hS (fun _ h => h) rfl rfl (fun r5_ H lo h6_ _ _ hS => ?_)
    obtain ⟨rfl, hR⟩ := h6_
    have hR : RM E β μ K dp 1 H := hR
    refine lv_if_ne (tgt := 81) hx hb dX5_signTogether_26 (by decide) (fun c7_ => ?_) (fun c7_ => ?_)
    · refine lv_iconst (v := 0) hx hb dX5_signTogether_81 (by decide) ?_
      exact g_iretW hC hr dX5_signTogether_82 hS (Nat.le_of_ble_eq_true rfl) (Nat.le_of_ble_eq_true rfl) (mPost_k 1 (by unfold kSignT; rw [cif_pos (by grind)]) (by decide) rfl hR)
    · exact absurd c7_ (by decide)
  · have q4_ := bz.f h2_ c3_
    refine lv_aload_n hx hb dX5_signTogether_9 rfl (lv_at hl 0 rfl) ?_
    refine lv_iload_n hx hb dX5_signTogether_10 rfl (lv_at hl 2 rfl) ?_
    refine g_cRi (k2 := 0) (n2 := 0) (g_runV (rest := [.ref (β 19)]) hC (c_X5_isNobody hE (β := β) (μ := μ) (K := K) (dp := dp) (th := th) (by omega) o0) Y_X5_isNobody k_1092 I_X5_isNobody V_X5_isNobody hR.obj rfl hR rfl hl.1 dX5_signTogether_11 ⟨Nat.le_of_ble_eq_true rfl, Nat.le_of_ble_eq_true rfl⟩ ⟨Nat.le_of_ble_eq_true rfl, Nat.le_of_ble_eq_true rfl⟩ rfl (Nat.le_of_ble_eq_true rfl)) rfl rfl g_no (fun r8_ h9_ => ?_)
    refine lv_if_eq (tgt := 21) hx hb dX5_signTogether_14 (by decide) (fun c10_ => ?_) (fun c10_ => ?_)
    · have q11_ := bz.f h9_ c10_
      refine lv_iconst (v := 0) hx hb dX5_signTogether_21 (by decide) ?_
      refine lv_iconst (v := 1) hx hb dX5_signTogether_22 (by decide) ?_
      refine g_cWi (k2 := 0) (n2 := 0) (g_runV (rest := []) hC (c_X5_isThrown hE (β := β) (μ := μ) (K := K) (dp := dp) (th := th) 0 1 rfl) Y_X5_isThrown k_1084 I_X5_isThrown V_X5_isThrown hR.obj rfl hR rfl hl.1 dX5_signTogether_23 ⟨Nat.le_of_ble_eq_true rfl, Nat.le_of_ble_eq_true rfl⟩ ⟨Nat.le_of_ble_eq_true rfl, Nat.le_of_ble_eq_true rfl⟩ rfl (Nat.le_of_ble_eq_true rfl)) hS (fun _ h => h) rfl rfl (fun r12_ H lo h13_ _ _ hS => ?_)
      obtain ⟨rfl, hR⟩ := h13_
      have hR : RM E β μ K dp 0 H := hR
      refine lv_if_ne (tgt := 81) hx hb dX5_signTogether_26 (by decide) (fun c14_ => ?_) (fun c14_ => ?_)
      · exact absurd c14_ (by decide)
      · refine lv_aload_n hx hb dX5_signTogether_29 rfl (lv_at hl 0 rfl) ?_
        refine lv_iload_n hx hb dX5_signTogether_30 rfl (lv_at hl 3 rfl) ?_
        refine lv_iload hx hb dX5_signTogether_31 (lv_at hl 4 rfl) ?_
        refine lv_iload hx hb dX5_signTogether_33 (lv_at hl 5 rfl) ?_
        refine g_cWi (k2 := 0) (n2 := 0) (g_runV (rest := []) hC (c_X5_isNoDeed_ hE (β := β) (μ := μ) (K := K) (dp := dp) (th := 0) k0 a0 pa0) Y_X5_isNoDeed_ k_1209 I_X5_isNoDeed_ V_X5_isNoDeed_ hR.obj rfl hR rfl hl.1 dX5_signTogether_35 ⟨Nat.le_of_ble_eq_true rfl, Nat.le_of_ble_eq_true rfl⟩ ⟨Nat.le_of_ble_eq_true rfl, Nat.le_of_ble_eq_true rfl⟩ rfl (Nat.le_of_ble_eq_true rfl)) hS (fun _ h => h) rfl rfl (fun r15_ H lo h16_ _ _ hS => ?_)
        obtain ⟨f17_, hR⟩ := h16_
        refine lv_if_ne (tgt := 81) hx hb dX5_signTogether_38 (by decide) (fun c18_ => ?_) (fun c18_ => ?_)
        · have q19_ := bz.t f17_ c18_
          rw [thr_1 c18_] at hR
          refine lv_iconst (v := 0) hx hb dX5_signTogether_81 (by decide) ?_
          exact g_iretW hC hr dX5_signTogether_82 hS (Nat.le_of_ble_eq_true rfl) (Nat.le_of_ble_eq_true rfl) (mPost_k 2 (by unfold kSignT; rw [cif_neg (by grind), cif_pos (by grind)]) (by decide) rfl hR)
        · have q19_ := bz.f f17_ c18_
          rw [thr_0 c18_] at hR
          refine lv_aload_n hx hb dX5_signTogether_41 rfl (lv_at hl 0 rfl) ?_
          refine lv_iload_n hx hb dX5_signTogether_42 rfl (lv_at hl 1 rfl) ?_
          refine lv_iload_n hx hb dX5_signTogether_43 rfl (lv_at hl 2 rfl) ?_
          refine lv_icmp_ne (tgt := 51) hx hb dX5_signTogether_44 (by decide) (fun c20_ => ?_) (fun c20_ => ?_)
          · refine lv_iconst (v := 0) hx hb dX5_signTogether_51 (by decide) ?_
            refine lv_iconst (v := 3) hx hb dX5_signTogether_52 (by decide) ?_
            refine g_cWi (k2 := 0) (n2 := 0) (g_runV (rest := []) hC (c_X5_isThrown hE (β := β) (μ := μ) (K := K) (dp := dp) (th := 0) 0 3 rfl) Y_X5_isThrown k_1084 I_X5_isThrown V_X5_isThrown hR.obj rfl hR rfl hl.1 dX5_signTogether_53 ⟨Nat.le_of_ble_eq_true rfl, Nat.le_of_ble_eq_true rfl⟩ ⟨Nat.le_of_ble_eq_true rfl, Nat.le_of_ble_eq_true rfl⟩ rfl (Nat.le_of_ble_eq_true rfl)) hS (fun _ h => h) rfl rfl (fun r21_ H lo h22_ _ _ hS => ?_)
            obtain ⟨rfl, hR⟩ := h22_
            have hR : RM E β μ K dp 0 H := hR
            refine lv_if_ne (tgt := 81) hx hb dX5_signTogether_56 (by decide) (fun c23_ => ?_) (fun c23_ => ?_)
            · exact absurd c23_ (by decide)
            · refine lv_aload_n hx hb dX5_signTogether_59 rfl (lv_at hl 0 rfl) ?_
              refine lv_aload_n hx hb dX5_signTogether_60 rfl (lv_at hl 0 rfl) ?_
              refine g_get (v := .int (nI (K 2))) hC hR.obj (C := RX5) (T := TX5) (N := 26) rfl u5_in 21 (by decide) k_1017 rfl dX5_signTogether_61 ?_
              refine lv_bipush (v := 24) hx hb dX5_signTogether_64 (by decide) ?_
              refine lv_icmp_ne (tgt := 73) hx hb dX5_signTogether_66 (by decide) (fun c24_ => ?_) (fun c24_ => ?_)
              · have n25_ : ¬ (K 2) = 24 := fun z => c24_ (congrArg nI z)
                refine lv_iconst (v := 0) hx hb dX5_signTogether_73 (by decide) ?_
                refine lv_iconst (v := 4) hx hb dX5_signTogether_74 (by decide) ?_
                refine g_cWi (k2 := 0) (n2 := 0) (g_runV (rest := []) hC (c_X5_isThrown hE (β := β) (μ := μ) (K := K) (dp := dp) (th := 0) 0 4 rfl) Y_X5_isThrown k_1084 I_X5_isThrown V_X5_isThrown hR.obj rfl hR rfl hl.1 dX5_signTogether_75 ⟨Nat.le_of_ble_eq_true rfl, Nat.le_of_ble_eq_true rfl⟩ ⟨Nat.le_of_ble_eq_true rfl, Nat.le_of_ble_eq_true rfl⟩ rfl (Nat.le_of_ble_eq_true rfl)) hS (fun _ h => h) rfl rfl (fun r26_ H lo h27_ _ _ hS => ?_)
                obtain ⟨rfl, hR⟩ := h27_
                have hR : RM E β μ K dp 0 H := hR
                refine lv_if_eq (tgt := 83) hx hb dX5_signTogether_78 (by decide) (fun c28_ => ?_) (fun c28_ => ?_)
                · refine lv_aload_n hx hb dX5_signTogether_83 rfl (lv_at hl 0 rfl) ?_
                  refine lv_iload_n hx hb dX5_signTogether_84 rfl (lv_at hl 1 rfl) ?_
                  refine lv_iload_n hx hb dX5_signTogether_85 rfl (lv_at hl 2 rfl) ?_
                  refine lv_iload_n hx hb dX5_signTogether_86 rfl (lv_at hl 3 rfl) ?_
                  refine lv_iload hx hb dX5_signTogether_87 (lv_at hl 4 rfl) ?_
                  refine lv_iload hx hb dX5_signTogether_89 (lv_at hl 5 rfl) ?_
                  obtain ⟨j_p0, hj_p0, rfl⟩ := isP_of (n := K 0) (p := p0) (by first | exact Classical.not_not.mp (by assumption) | assumption) (by omega)
                  have ej_p0 : (nI j_p0).toNatClampNeg = j_p0 := nI_clamp (by omega)
                  have ipj_p0 : isP (K 0) (nI j_p0) := isP_nI hj_p0 (by omega)
                  obtain ⟨j_o0, hj_o0, rfl⟩ := isP_of (n := K 0) (p := o0) (by first | exact Classical.not_not.mp (by assumption) | assumption) (by omega)
                  have ej_o0 : (nI j_o0).toNatClampNeg = j_o0 := nI_clamp (by omega)
                  have ipj_o0 : isP (K 0) (nI j_o0) := isP_nI hj_o0 (by omega)
                  refine g_cWi (k2 := 0) (n2 := 0) (g_runV (rest := []) hC (c_X5_signed hE (β := β) (μ := μ) (K := K) (dp := dp) (th := 0) ⟨hK0, hK1, hK2, hSr, hHo, hTd⟩ (nI j_p0) (nI j_o0) k0 a0 pa0 (by first | decide | exact nI_m2 _ (by omega)) (by first | decide | exact nI_m2 _ (by omega)) (by omega) (hz _ (by omega))) Y_X5_signed k_1213 I_X5_signed V_X5_signed hR.obj rfl hR rfl hl.1 dX5_signTogether_91 ⟨Nat.le_of_ble_eq_true rfl, Nat.le_of_ble_eq_true rfl⟩ ⟨Nat.le_of_ble_eq_true rfl, Nat.le_of_ble_eq_true rfl⟩ rfl (Nat.le_of_ble_eq_true rfl)) hS (fun _ h => h) rfl rfl (fun r29_ H lo h30_ _ _ hS => ?_)
                  obtain ⟨rfl, dps, hR⟩ := h30_
                  exact g_iretW hC hr dX5_signTogether_94 hS (Nat.le_of_ble_eq_true rfl) (Nat.le_of_ble_eq_true rfl) (mPost_0 (by unfold kSignT; rw [cif_neg (by first | grind | (simp only [ix, ej_p0, ej_o0, mv, mw]; grind)), cif_neg (by first | grind | (simp only [ix, ej_p0, ej_o0, mv, mw]; grind)), cif_neg (by first | grind | (simp only [ix, ej_p0, ej_o0, mv, mw]; grind)), cif_neg (by first | grind | (simp only [ix, ej_p0, ej_o0, mv, mw]; grind))]) hR rfl rfl rfl)
                · exact absurd (by decide) c28_
              · have n25_ : (K 2) = 24 := (nI_eq (by omega) (by omega)).mp c24_
                refine lv_iconst (v := 1) hx hb dX5_signTogether_69 (by decide) ?_
                refine lv_goto (tgt := 74) hx hb dX5_signTogether_70 (by decide) ?_
                refine lv_iconst (v := 4) hx hb dX5_signTogether_74 (by decide) ?_
                refine g_cWi (k2 := 0) (n2 := 0) (g_runV (rest := []) hC (c_X5_isThrown hE (β := β) (μ := μ) (K := K) (dp := dp) (th := 0) 1 4 rfl) Y_X5_isThrown k_1084 I_X5_isThrown V_X5_isThrown hR.obj rfl hR rfl hl.1 dX5_signTogether_75 ⟨Nat.le_of_ble_eq_true rfl, Nat.le_of_ble_eq_true rfl⟩ ⟨Nat.le_of_ble_eq_true rfl, Nat.le_of_ble_eq_true rfl⟩ rfl (Nat.le_of_ble_eq_true rfl)) hS (fun _ h => h) rfl rfl (fun r31_ H lo h32_ _ _ hS => ?_)
                obtain ⟨rfl, hR⟩ := h32_
                have hR : RM E β μ K dp 4 H := hR
                refine lv_if_eq (tgt := 83) hx hb dX5_signTogether_78 (by decide) (fun c33_ => ?_) (fun c33_ => ?_)
                · exact absurd c33_ (by decide)
                · refine lv_iconst (v := 0) hx hb dX5_signTogether_81 (by decide) ?_
                  exact g_iretW hC hr dX5_signTogether_82 hS (Nat.le_of_ble_eq_true rfl) (Nat.le_of_ble_eq_true rfl) (mPost_k 4 (by unfold kSignT; rw [cif_neg (by grind), cif_neg (by grind), cif_neg (by grind), cif_pos (by grind)]) (by decide) rfl hR)
          · refine lv_iconst (v := 1) hx hb dX5_signTogether_47 (by decide) ?_
            refine lv_goto (tgt := 52) hx hb dX5_signTogether_48 (by decide) ?_
            refine lv_iconst (v := 3) hx hb dX5_signTogether_52 (by decide) ?_
            refine g_cWi (k2 := 0) (n2 := 0) (g_runV (rest := []) hC (c_X5_isThrown hE (β := β) (μ := μ) (K := K) (dp := dp) (th := 0) 1 3 rfl) Y_X5_isThrown k_1084 I_X5_isThrown V_X5_isThrown hR.obj rfl hR rfl hl.1 dX5_signTogether_53 ⟨Nat.le_of_ble_eq_true rfl, Nat.le_of_ble_eq_true rfl⟩ ⟨Nat.le_of_ble_eq_true rfl, Nat.le_of_ble_eq_true rfl⟩ rfl (Nat.le_of_ble_eq_true rfl)) hS (fun _ h => h) rfl rfl (fun r34_ H lo h35_ _ _ hS => ?_)
            obtain ⟨rfl, hR⟩ := h35_
            have hR : RM E β μ K dp 3 H := hR
            refine lv_if_ne (tgt := 81) hx hb dX5_signTogether_56 (by decide) (fun c36_ => ?_) (fun c36_ => ?_)
            · refine lv_iconst (v := 0) hx hb dX5_signTogether_81 (by decide) ?_
              exact g_iretW hC hr dX5_signTogether_82 hS (Nat.le_of_ble_eq_true rfl) (Nat.le_of_ble_eq_true rfl) (mPost_k 3 (by unfold kSignT; rw [cif_neg (by grind), cif_neg (by grind), cif_pos (by grind)]) (by decide) rfl hR)
            · exact absurd c36_ (by decide)
    · have q11_ := bz.t h9_ c10_
      refine lv_iconst (v := 1) hx hb dX5_signTogether_17 (by decide) ?_
      refine lv_goto (tgt := 22) hx hb dX5_signTogether_18 (by decide) ?_
      refine lv_iconst (v := 1) hx hb dX5_signTogether_22 (by decide) ?_
      refine g_cWi (k2 := 0) (n2 := 0) (g_runV (rest := []) hC (c_X5_isThrown hE (β := β) (μ := μ) (K := K) (dp := dp) (th := th) 1 1 rfl) Y_X5_isThrown k_1084 I_X5_isThrown V_X5_isThrown hR.obj rfl hR rfl hl.1 dX5_signTogether_23 ⟨Nat.le_of_ble_eq_true rfl, Nat.le_of_ble_eq_true rfl⟩ ⟨Nat.le_of_ble_eq_true rfl, Nat.le_of_ble_eq_true rfl⟩ rfl (Nat.le_of_ble_eq_true rfl)) hS (fun _ h => h) rfl rfl (fun r37_ H lo h38_ _ _ hS => ?_)
      obtain ⟨rfl, hR⟩ := h38_
      have hR : RM E β μ K dp 1 H := hR
      refine lv_if_ne (tgt := 81) hx hb dX5_signTogether_26 (by decide) (fun c39_ => ?_) (fun c39_ => ?_)
      · refine lv_iconst (v := 0) hx hb dX5_signTogether_81 (by decide) ?_
        exact g_iretW hC hr dX5_signTogether_82 hS (Nat.le_of_ble_eq_true rfl) (Nat.le_of_ble_eq_true rfl) (mPost_k 1 (by unfold kSignT; rw [cif_pos (by grind)]) (by decide) rfl hR)
      · exact absurd c39_ (by decide)
set_option maxHeartbeats 4000000 in
set_option maxRecDepth 100000 in
theorem c_X5_ratify {l : Launch} {E : gV} (hE : gOK l E) {β : Nat → Nat} {μ : F2} {K : Nat → Nat} {dp th : Int32} (hI : MI μ K) (d0 : Int32) (p0 : Int32) : gM l E yX5_ratify cX5_ratify 3 (some .int) ({ frames := 22, cells := 0, slots := 0, locals := 509 } : Room) [.ref (β 19), .int d0, .int p0] (fun H => RM E β μ K dp th H) (gQW (mA β) (gWi (fun r H => mPost E β μ K (kRat (mv μ) (mw μ) (μ 22 0) (K 1) (K 2) (K 0) d0 p0) (up2 μ 17 (ix d0) 114) (K) (r = μ 14 (ix d0)) H))) (fun _ => False) (mA β) := by
  refine gM_body hE (by decide +kernel) (Nat.le_of_ble_eq_true rfl) ?_
  intro p_ e_ s m args below meth c hC ht hr hname hP ls hl
  have hx := hC.2.2.1
  have hb := hC.2.2.2.1
  have hl : lv_has ls 3 [(0, .ref (β 19)), (1, .int d0), (2, .int p0)] := hl
  have hS : va_S ((mA β)) s.heap s.heap [] := va_S.rf
  have hR : RM E β μ K dp th s.heap := hP
  obtain ⟨hK0, hK1, hK2, hSr, hHo, hTd⟩ := hI
  refine lv_aload_n hx hb dX5_ratify_0 rfl (lv_at hl 0 rfl) ?_
  refine lv_iload_n hx hb dX5_ratify_1 rfl (lv_at hl 1 rfl) ?_
  refine lv_iconst (v := 0) hx hb dX5_ratify_2 (by decide) ?_
  refine lv_aload_n hx hb dX5_ratify_3 rfl (lv_at hl 0 rfl) ?_
  refine g_get (v := .int (nI (K 2))) hC hR.obj (C := RX5) (T := TX5) (N := 26) rfl u5_in 21 (by decide) k_1017 rfl dX5_ratify_4 ?_
  refine lv_iconst (v := 1) hx hb dX5_ratify_7 (by decide) ?_
  refine lv_isub hx hb dX5_ratify_8 ?_
  refine g_cRi (k2 := 0) (n2 := 0) (g_runS (rest := [.ref (β 19)]) hC (c_X5_isIn hE d0 0 ((nI (K 2)) - 1)) Y_X5_isIn k_1096 S_X5_isIn trivial rfl hl.1 dX5_ratify_9 ⟨Nat.le_of_ble_eq_true rfl, Nat.le_of_ble_eq_true rfl⟩ ⟨Nat.le_of_ble_eq_true rfl, Nat.le_of_ble_eq_true rfl⟩ rfl (Nat.le_of_ble_eq_true rfl)) rfl rfl g_no (fun r1_ h2_ => ?_)
  have f3_ := h2_.iff (isIn_1 (by omega))
  refine lv_if_eq (tgt := 23) hx hb dX5_ratify_12 (by decide) (fun c4_ => ?_) (fun c4_ => ?_)
  · have q5_ := bz.f f3_ c4_
    refine lv_iconst (v := 1) hx hb dX5_ratify_23 (by decide) ?_
    refine lv_goto (tgt := 28) hx hb dX5_ratify_24 (by decide) ?_
    refine lv_iconst (v := 1) hx hb dX5_ratify_28 (by decide) ?_
    refine g_cWi (k2 := 0) (n2 := 0) (g_runV (rest := []) hC (c_X5_isThrown hE (β := β) (μ := μ) (K := K) (dp := dp) (th := th) 1 1 rfl) Y_X5_isThrown k_1084 I_X5_isThrown V_X5_isThrown hR.obj rfl hR rfl hl.1 dX5_ratify_29 ⟨Nat.le_of_ble_eq_true rfl, Nat.le_of_ble_eq_true rfl⟩ ⟨Nat.le_of_ble_eq_true rfl, Nat.le_of_ble_eq_true rfl⟩ rfl (Nat.le_of_ble_eq_true rfl)) hS (fun _ h => h) rfl rfl (fun r6_ H lo h7_ _ _ hS => ?_)
    obtain ⟨rfl, hR⟩ := h7_
    have hR : RM E β μ K dp 1 H := hR
    refine lv_if_ne (tgt := 94) hx hb dX5_ratify_32 (by decide) (fun c8_ => ?_) (fun c8_ => ?_)
    · refine lv_iconst (v := 0) hx hb dX5_ratify_94 (by decide) ?_
      exact g_iretW hC hr dX5_ratify_95 hS (Nat.le_of_ble_eq_true rfl) (Nat.le_of_ble_eq_true rfl) (mPost_k 1 (by unfold kRat; rw [cif_pos (by grind)]) (by decide) rfl hR)
    · exact absurd c8_ (by decide)
  · have q5_ := bz.t f3_ c4_
    refine lv_aload_n hx hb dX5_ratify_15 rfl (lv_at hl 0 rfl) ?_
    refine lv_iload_n hx hb dX5_ratify_16 rfl (lv_at hl 2 rfl) ?_
    refine g_cRi (k2 := 0) (n2 := 0) (g_runV (rest := [.ref (β 19)]) hC (c_X5_isNobody hE (β := β) (μ := μ) (K := K) (dp := dp) (th := th) (by omega) p0) Y_X5_isNobody k_1092 I_X5_isNobody V_X5_isNobody hR.obj rfl hR rfl hl.1 dX5_ratify_17 ⟨Nat.le_of_ble_eq_true rfl, Nat.le_of_ble_eq_true rfl⟩ ⟨Nat.le_of_ble_eq_true rfl, Nat.le_of_ble_eq_true rfl⟩ rfl (Nat.le_of_ble_eq_true rfl)) rfl rfl g_no (fun r9_ h10_ => ?_)
    refine lv_if_eq (tgt := 27) hx hb dX5_ratify_20 (by decide) (fun c11_ => ?_) (fun c11_ => ?_)
    · have q12_ := bz.f h10_ c11_
      refine lv_iconst (v := 0) hx hb dX5_ratify_27 (by decide) ?_
      refine lv_iconst (v := 1) hx hb dX5_ratify_28 (by decide) ?_
      refine g_cWi (k2 := 0) (n2 := 0) (g_runV (rest := []) hC (c_X5_isThrown hE (β := β) (μ := μ) (K := K) (dp := dp) (th := th) 0 1 rfl) Y_X5_isThrown k_1084 I_X5_isThrown V_X5_isThrown hR.obj rfl hR rfl hl.1 dX5_ratify_29 ⟨Nat.le_of_ble_eq_true rfl, Nat.le_of_ble_eq_true rfl⟩ ⟨Nat.le_of_ble_eq_true rfl, Nat.le_of_ble_eq_true rfl⟩ rfl (Nat.le_of_ble_eq_true rfl)) hS (fun _ h => h) rfl rfl (fun r13_ H lo h14_ _ _ hS => ?_)
      obtain ⟨rfl, hR⟩ := h14_
      have hR : RM E β μ K dp 0 H := hR
      refine lv_if_ne (tgt := 94) hx hb dX5_ratify_32 (by decide) (fun c15_ => ?_) (fun c15_ => ?_)
      · exact absurd c15_ (by decide)
      · refine lv_aload_n hx hb dX5_ratify_35 rfl (lv_at hl 0 rfl) ?_
        refine lv_aload_n hx hb dX5_ratify_36 rfl (lv_at hl 0 rfl) ?_
        refine g_get (v := .ref (β 17)) hC hR.obj (C := RX5) (T := TX5) (N := 26) rfl u5_in 17 (by decide) k_1013 rfl dX5_ratify_37 ?_
        refine lv_iload_n hx hb dX5_ratify_40 rfl (lv_at hl 1 rfl) ?_
        obtain ⟨j_d0, hj_d0, rfl⟩ := isP_of (n := K 2) (p := d0) (by first | exact Classical.not_not.mp (by assumption) | assumption) (by omega)
        have ej_d0 : (nI j_d0).toNatClampNeg = j_d0 := nI_clamp (by omega)
        have ipj_d0 : isP (K 2) (nI j_d0) := isP_nI hj_d0 (by omega)
        refine g_cald (n := 24) (f := μ 17) (j := j_d0) hC (hR.arr 17 (by decide) rfl rfl) (by omega) (by decide) dX5_ratify_41 ?_
        refine lv_bipush (v := 119) hx hb dX5_ratify_42 (by decide) ?_
        refine lv_icmp_eq (tgt := 51) hx hb dX5_ratify_44 (by decide) (fun c16_ => ?_) (fun c16_ => ?_)
        · refine lv_iconst (v := 0) hx hb dX5_ratify_51 (by decide) ?_
          refine lv_iconst (v := 2) hx hb dX5_ratify_52 (by decide) ?_
          refine g_cWi (k2 := 0) (n2 := 0) (g_runV (rest := []) hC (c_X5_isThrown hE (β := β) (μ := μ) (K := K) (dp := dp) (th := 0) 0 2 rfl) Y_X5_isThrown k_1084 I_X5_isThrown V_X5_isThrown hR.obj rfl hR rfl hl.1 dX5_ratify_53 ⟨Nat.le_of_ble_eq_true rfl, Nat.le_of_ble_eq_true rfl⟩ ⟨Nat.le_of_ble_eq_true rfl, Nat.le_of_ble_eq_true rfl⟩ rfl (Nat.le_of_ble_eq_true rfl)) hS (fun _ h => h) rfl rfl (fun r17_ H lo h18_ _ _ hS => ?_)
          obtain ⟨rfl, hR⟩ := h18_
          have hR : RM E β μ K dp 0 H := hR
          refine lv_if_ne (tgt := 94) hx hb dX5_ratify_56 (by decide) (fun c19_ => ?_) (fun c19_ => ?_)
          · exact absurd c19_ (by decide)
          · refine lv_aload_n hx hb dX5_ratify_59 rfl (lv_at hl 0 rfl) ?_
            refine lv_aload_n hx hb dX5_ratify_60 rfl (lv_at hl 0 rfl) ?_
            refine lv_iload_n hx hb dX5_ratify_61 rfl (lv_at hl 2 rfl) ?_
            refine lv_aload_n hx hb dX5_ratify_62 rfl (lv_at hl 0 rfl) ?_
            refine g_get (v := .ref (β 10)) hC hR.obj (C := RX5) (T := TX5) (N := 26) rfl u5_in 10 (by decide) k_1006 rfl dX5_ratify_63 ?_
            refine lv_iload_n hx hb dX5_ratify_66 rfl (lv_at hl 1 rfl) ?_
            refine g_iald (n := 24) (f := μ 10) (j := j_d0) hC (hR.arr 10 (by decide) rfl rfl) (by omega) (by decide) dX5_ratify_67 ?_
            refine lv_bipush (v := 115) hx hb dX5_ratify_68 (by decide) ?_
            refine lv_aload_n hx hb dX5_ratify_70 rfl (lv_at hl 0 rfl) ?_
            refine g_get (v := .ref (β 14)) hC hR.obj (C := RX5) (T := TX5) (N := 26) rfl u5_in 14 (by decide) k_1010 rfl dX5_ratify_71 ?_
            refine lv_iload_n hx hb dX5_ratify_74 rfl (lv_at hl 1 rfl) ?_
            refine g_iald (n := 24) (f := μ 14) (j := j_d0) hC (hR.arr 14 (by decide) rfl rfl) (by omega) (by decide) dX5_ratify_75 ?_
            obtain ⟨j_p0, hj_p0, rfl⟩ := isP_of (n := K 0) (p := p0) (by first | exact Classical.not_not.mp (by assumption) | assumption) (by omega)
            have ej_p0 : (nI j_p0).toNatClampNeg = j_p0 := nI_clamp (by omega)
            have ipj_p0 : isP (K 0) (nI j_p0) := isP_nI hj_p0 (by omega)
            refine g_cWi (k2 := 0) (n2 := 0) (g_runV (rest := [.ref (β 19)]) hC (c_X5_has hE (β := β) (μ := μ) (K := K) (dp := dp) (th := 0) ⟨hK0, hK1, hK2, hSr, hHo, hTd⟩ (nI j_p0) (μ 10 j_d0) 115 (μ 14 j_d0) (by first | assumption | exact nI_m2 _ (by omega))) Y_X5_has k_1180 I_X5_has V_X5_has hR.obj rfl hR rfl hl.1 dX5_ratify_76 ⟨Nat.le_of_ble_eq_true rfl, Nat.le_of_ble_eq_true rfl⟩ ⟨Nat.le_of_ble_eq_true rfl, Nat.le_of_ble_eq_true rfl⟩ rfl (Nat.le_of_ble_eq_true rfl)) hS (fun _ h => h) rfl rfl (fun r20_ H lo h21_ _ _ hS => ?_)
            obtain ⟨f23_, dp22_, hR⟩ := h21_
            refine lv_if_ne (tgt := 86) hx hb dX5_ratify_79 (by decide) (fun c24_ => ?_) (fun c24_ => ?_)
            · have q25_ := bz.t f23_ c24_
              refine lv_iconst (v := 0) hx hb dX5_ratify_86 (by decide) ?_
              refine lv_iconst (v := 3) hx hb dX5_ratify_87 (by decide) ?_
              refine g_cWi (k2 := 0) (n2 := 0) (g_runV (rest := []) hC (c_X5_isThrown hE (β := β) (μ := μ) (K := K) (dp := dp22_) (th := 0) 0 3 rfl) Y_X5_isThrown k_1084 I_X5_isThrown V_X5_isThrown hR.obj rfl hR rfl hl.1 dX5_ratify_88 ⟨Nat.le_of_ble_eq_true rfl, Nat.le_of_ble_eq_true rfl⟩ ⟨Nat.le_of_ble_eq_true rfl, Nat.le_of_ble_eq_true rfl⟩ rfl (Nat.le_of_ble_eq_true rfl)) hS (fun _ h => h) rfl rfl (fun r26_ H lo h27_ _ _ hS => ?_)
              obtain ⟨rfl, hR⟩ := h27_
              have hR : RM E β μ K dp22_ 0 H := hR
              refine lv_if_eq (tgt := 96) hx hb dX5_ratify_91 (by decide) (fun c28_ => ?_) (fun c28_ => ?_)
              · refine lv_aload_n hx hb dX5_ratify_96 rfl (lv_at hl 0 rfl) ?_
                refine g_get (v := .ref (β 17)) hC hR.obj (C := RX5) (T := TX5) (N := 26) rfl u5_in 17 (by decide) k_1013 rfl dX5_ratify_97 ?_
                refine lv_iload_n hx hb dX5_ratify_100 rfl (lv_at hl 1 rfl) ?_
                refine lv_bipush (v := 114) hx hb dX5_ratify_101 (by decide) ?_
                refine m_cast (n := 24) (j := j_d0) 17 (by decide) rfl rfl hC hR hS (by omega) rfl dX5_ratify_103 (fun H lo hR hS => ?_)
                refine lv_aload_n hx hb dX5_ratify_104 rfl (lv_at hl 0 rfl) ?_
                refine g_get (v := .ref (β 14)) hC hR.obj (C := RX5) (T := TX5) (N := 26) rfl u5_in 14 (by decide) k_1010 rfl dX5_ratify_105 ?_
                refine lv_iload_n hx hb dX5_ratify_108 rfl (lv_at hl 1 rfl) ?_
                refine g_iald (n := 24) (f := μ 14) (j := j_d0) hC (hR.arr 14 (by decide) rfl rfl) (by omega) (by decide) dX5_ratify_109 ?_
                exact g_iretW hC hr dX5_ratify_110 hS (Nat.le_of_ble_eq_true rfl) (Nat.le_of_ble_eq_true rfl) (mPost_0 (by unfold kRat; rw [cif_neg (by first | grind | (simp only [ix, ej_d0, ej_p0, mv, mw]; grind)), cif_neg (by first | grind | (simp only [ix, ej_d0, ej_p0, mv, mw]; grind)), cif_neg (by first | grind | (simp only [ix, ej_d0, ej_p0, mv, mw]; grind))]) hR (by simp only [ix, ej_d0, ej_p0]) rfl (by simp only [ix, ej_d0, ej_p0]))
              · exact absurd (by decide) c28_
            · have q25_ := bz.f f23_ c24_
              refine lv_iconst (v := 1) hx hb dX5_ratify_82 (by decide) ?_
              refine lv_goto (tgt := 87) hx hb dX5_ratify_83 (by decide) ?_
              refine lv_iconst (v := 3) hx hb dX5_ratify_87 (by decide) ?_
              refine g_cWi (k2 := 0) (n2 := 0) (g_runV (rest := []) hC (c_X5_isThrown hE (β := β) (μ := μ) (K := K) (dp := dp22_) (th := 0) 1 3 rfl) Y_X5_isThrown k_1084 I_X5_isThrown V_X5_isThrown hR.obj rfl hR rfl hl.1 dX5_ratify_88 ⟨Nat.le_of_ble_eq_true rfl, Nat.le_of_ble_eq_true rfl⟩ ⟨Nat.le_of_ble_eq_true rfl, Nat.le_of_ble_eq_true rfl⟩ rfl (Nat.le_of_ble_eq_true rfl)) hS (fun _ h => h) rfl rfl (fun r29_ H lo h30_ _ _ hS => ?_)
              obtain ⟨rfl, hR⟩ := h30_
              have hR : RM E β μ K dp22_ 3 H := hR
              refine lv_if_eq (tgt := 96) hx hb dX5_ratify_91 (by decide) (fun c31_ => ?_) (fun c31_ => ?_)
              · exact absurd c31_ (by decide)
              · refine lv_iconst (v := 0) hx hb dX5_ratify_94 (by decide) ?_
                exact g_iretW hC hr dX5_ratify_95 hS (Nat.le_of_ble_eq_true rfl) (Nat.le_of_ble_eq_true rfl) (mPost_k 3 (by unfold kRat; rw [cif_neg (by first | grind | (simp only [ix, ej_d0, ej_p0, mv, mw]; grind)), cif_neg (by first | grind | (simp only [ix, ej_d0, ej_p0, mv, mw]; grind)), cif_pos (by first | grind | (simp only [ix, ej_d0, ej_p0, mv, mw]; grind))]) (by decide) rfl hR)
        · refine lv_iconst (v := 1) hx hb dX5_ratify_47 (by decide) ?_
          refine lv_goto (tgt := 52) hx hb dX5_ratify_48 (by decide) ?_
          refine lv_iconst (v := 2) hx hb dX5_ratify_52 (by decide) ?_
          refine g_cWi (k2 := 0) (n2 := 0) (g_runV (rest := []) hC (c_X5_isThrown hE (β := β) (μ := μ) (K := K) (dp := dp) (th := 0) 1 2 rfl) Y_X5_isThrown k_1084 I_X5_isThrown V_X5_isThrown hR.obj rfl hR rfl hl.1 dX5_ratify_53 ⟨Nat.le_of_ble_eq_true rfl, Nat.le_of_ble_eq_true rfl⟩ ⟨Nat.le_of_ble_eq_true rfl, Nat.le_of_ble_eq_true rfl⟩ rfl (Nat.le_of_ble_eq_true rfl)) hS (fun _ h => h) rfl rfl (fun r32_ H lo h33_ _ _ hS => ?_)
          obtain ⟨rfl, hR⟩ := h33_
          have hR : RM E β μ K dp 2 H := hR
          refine lv_if_ne (tgt := 94) hx hb dX5_ratify_56 (by decide) (fun c34_ => ?_) (fun c34_ => ?_)
          · refine lv_iconst (v := 0) hx hb dX5_ratify_94 (by decide) ?_
            exact g_iretW hC hr dX5_ratify_95 hS (Nat.le_of_ble_eq_true rfl) (Nat.le_of_ble_eq_true rfl) (mPost_k 2 (by unfold kRat; rw [cif_neg (by first | grind | (simp only [ix, ej_d0, mv, mw]; grind)), cif_pos (by first | grind | (simp only [ix, ej_d0, mv, mw]; grind))]) (by decide) rfl hR)
          · exact absurd c34_ (by decide)
    · have q12_ := bz.t h10_ c11_
      refine lv_iconst (v := 1) hx hb dX5_ratify_23 (by decide) ?_
      refine lv_goto (tgt := 28) hx hb dX5_ratify_24 (by decide) ?_
      refine lv_iconst (v := 1) hx hb dX5_ratify_28 (by decide) ?_
      refine g_cWi (k2 := 0) (n2 := 0) (g_runV (rest := []) hC (c_X5_isThrown hE (β := β) (μ := μ) (K := K) (dp := dp) (th := th) 1 1 rfl) Y_X5_isThrown k_1084 I_X5_isThrown V_X5_isThrown hR.obj rfl hR rfl hl.1 dX5_ratify_29 ⟨Nat.le_of_ble_eq_true rfl, Nat.le_of_ble_eq_true rfl⟩ ⟨Nat.le_of_ble_eq_true rfl, Nat.le_of_ble_eq_true rfl⟩ rfl (Nat.le_of_ble_eq_true rfl)) hS (fun _ h => h) rfl rfl (fun r35_ H lo h36_ _ _ hS => ?_)
      obtain ⟨rfl, hR⟩ := h36_
      have hR : RM E β μ K dp 1 H := hR
      refine lv_if_ne (tgt := 94) hx hb dX5_ratify_32 (by decide) (fun c37_ => ?_) (fun c37_ => ?_)
      · refine lv_iconst (v := 0) hx hb dX5_ratify_94 (by decide) ?_
        exact g_iretW hC hr dX5_ratify_95 hS (Nat.le_of_ble_eq_true rfl) (Nat.le_of_ble_eq_true rfl) (mPost_k 1 (by unfold kRat; rw [cif_pos (by grind)]) (by decide) rfl hR)
      · exact absurd c37_ (by decide)
set_option maxHeartbeats 4000000 in
set_option maxRecDepth 100000 in
theorem c_X5_annul {l : Launch} {E : gV} (hE : gOK l E) {β : Nat → Nat} {μ : F2} {K : Nat → Nat} {dp th : Int32} (hI : MI μ K) (d0 : Int32) : gM l E yX5_annul cX5_annul 4 (some .int) ({ frames := 2, cells := 0, slots := 0, locals := 43 } : Room) [.ref (β 19), .int d0] (fun H => RM E β μ K dp th H) (gQW (mA β) (gWi (fun r H => mPost E β μ K (kAnnul (mw μ) (K 2) d0) (up2 μ 17 (ix d0) 110) (K) (r = nI (fCnt (fun t => upd (μ 17) (ix d0) 110 t = 119) (K 2))) H))) (fun _ => False) (mA β) := by
  refine gM_body hE (by decide +kernel) (Nat.le_of_ble_eq_true rfl) ?_
  intro p_ e_ s m args below meth c hC ht hr hname hP ls hl
  have hx := hC.2.2.1
  have hb := hC.2.2.2.1
  have hl : lv_has ls 4 [(0, .ref (β 19)), (1, .int d0)] := hl
  have hS : va_S ((mA β)) s.heap s.heap [] := va_S.rf
  have hR : RM E β μ K dp th s.heap := hP
  obtain ⟨hK0, hK1, hK2, hSr, hHo, hTd⟩ := hI
  refine lv_aload_n hx hb dX5_annul_0 rfl (lv_at hl 0 rfl) ?_
  refine lv_iload_n hx hb dX5_annul_1 rfl (lv_at hl 1 rfl) ?_
  refine g_cWi (k2 := 0) (n2 := 0) (g_runV (rest := []) hC (c_X5_isNoDeed hE (β := β) (μ := μ) (K := K) (dp := dp) (th := th) (by omega) d0) Y_X5_isNoDeed k_1240 I_X5_isNoDeed V_X5_isNoDeed hR.obj rfl hR rfl hl.1 dX5_annul_2 ⟨Nat.le_of_ble_eq_true rfl, Nat.le_of_ble_eq_true rfl⟩ ⟨Nat.le_of_ble_eq_true rfl, Nat.le_of_ble_eq_true rfl⟩ rfl (Nat.le_of_ble_eq_true rfl)) hS (fun _ h => h) rfl rfl (fun r1_ H lo h2_ _ _ hS => ?_)
  obtain ⟨f3_, hR⟩ := h2_
  refine lv_if_ne (tgt := 32) hx hb dX5_annul_5 (by decide) (fun c4_ => ?_) (fun c4_ => ?_)
  · have q5_ := bz.t f3_ c4_
    rw [thr_1 c4_] at hR
    refine lv_iconst (v := 0) hx hb dX5_annul_32 (by decide) ?_
    exact g_iretW hC hr dX5_annul_33 hS (Nat.le_of_ble_eq_true rfl) (Nat.le_of_ble_eq_true rfl) (mPost_k 1 (by unfold kAnnul; rw [cif_pos (by grind)]) (by decide) rfl hR)
  · have q5_ := bz.f f3_ c4_
    rw [thr_0 c4_] at hR
    refine lv_aload_n hx hb dX5_annul_8 rfl (lv_at hl 0 rfl) ?_
    refine lv_aload_n hx hb dX5_annul_9 rfl (lv_at hl 0 rfl) ?_
    refine g_get (v := .ref (β 17)) hC hR.obj (C := RX5) (T := TX5) (N := 26) rfl u5_in 17 (by decide) k_1013 rfl dX5_annul_10 ?_
    refine lv_iload_n hx hb dX5_annul_13 rfl (lv_at hl 1 rfl) ?_
    obtain ⟨j_d0, hj_d0, rfl⟩ := isP_of (n := K 2) (p := d0) (by first | exact Classical.not_not.mp (by assumption) | assumption) (by omega)
    have ej_d0 : (nI j_d0).toNatClampNeg = j_d0 := nI_clamp (by omega)
    have ipj_d0 : isP (K 2) (nI j_d0) := isP_nI hj_d0 (by omega)
    refine g_cald (n := 24) (f := μ 17) (j := j_d0) hC (hR.arr 17 (by decide) rfl rfl) (by omega) (by decide) dX5_annul_14 ?_
    refine lv_bipush (v := 119) hx hb dX5_annul_15 (by decide) ?_
    refine lv_icmp_eq (tgt := 24) hx hb dX5_annul_17 (by decide) (fun c6_ => ?_) (fun c6_ => ?_)
    · refine lv_iconst (v := 0) hx hb dX5_annul_24 (by decide) ?_
      refine lv_iconst (v := 2) hx hb dX5_annul_25 (by decide) ?_
      refine g_cWi (k2 := 0) (n2 := 0) (g_runV (rest := []) hC (c_X5_isThrown hE (β := β) (μ := μ) (K := K) (dp := dp) (th := 0) 0 2 rfl) Y_X5_isThrown k_1084 I_X5_isThrown V_X5_isThrown hR.obj rfl hR rfl hl.1 dX5_annul_26 ⟨Nat.le_of_ble_eq_true rfl, Nat.le_of_ble_eq_true rfl⟩ ⟨Nat.le_of_ble_eq_true rfl, Nat.le_of_ble_eq_true rfl⟩ rfl (Nat.le_of_ble_eq_true rfl)) hS (fun _ h => h) rfl rfl (fun r7_ H lo h8_ _ _ hS => ?_)
      obtain ⟨rfl, hR⟩ := h8_
      have hR : RM E β μ K dp 0 H := hR
      refine lv_if_eq (tgt := 34) hx hb dX5_annul_29 (by decide) (fun c9_ => ?_) (fun c9_ => ?_)
      · refine lv_aload_n hx hb dX5_annul_34 rfl (lv_at hl 0 rfl) ?_
        refine g_get (v := .ref (β 17)) hC hR.obj (C := RX5) (T := TX5) (N := 26) rfl u5_in 17 (by decide) k_1013 rfl dX5_annul_35 ?_
        refine lv_iload_n hx hb dX5_annul_38 rfl (lv_at hl 1 rfl) ?_
        refine lv_bipush (v := 110) hx hb dX5_annul_39 (by decide) ?_
        refine m_cast (n := 24) (j := j_d0) 17 (by decide) rfl rfl hC hR hS (by omega) rfl dX5_annul_41 (fun H lo hR hS => ?_)
        refine lv_iconst (v := 0) hx hb dX5_annul_42 (by decide) ?_
        refine lv_istore_n (lv' := [(2, .int 0), (0, .ref (β 19)), (1, .int (nI j_d0))]) hx hb dX5_annul_43 rfl hl (by decide) rfl (fun ls hl => ?_)
        refine lv_iconst (v := 0) hx hb dX5_annul_44 (by decide) ?_
        refine lv_istore_n (lv' := [(3, .int 0), (2, .int 0), (0, .ref (β 19)), (1, .int (nI j_d0))]) hx hb dX5_annul_45 rfl hl (by decide) rfl (fun ls hl => ?_)
        have loop : ∀ (n_ : Nat) (q : Nat) (r : Int32) (H : Heap) (lo : List Loc) (ls : Array Slot), K 2 - q < n_ → (q ≤ K 2) → (r = nI (fCnt (fun t => upd (μ 17) j_d0 110 t = 119) q)) → RM E β (up2 μ 17 j_d0 110) K dp 0 H → va_S ((mA β)) s.heap H lo → lv_has ls 4 [(0, .ref (β 19)), (1, .int (nI j_d0)), (2, .int r), (3, .int (nI q))] → W p_ l e_ ({ frames := 2, cells := 0, slots := 0, locals := 43 } : Room) s m args below meth c H lo 0 0 (vx_MQ below (gQW (mA β) (gWi (fun r H => mPost E β μ K (kAnnul (mw μ) (K 2) (nI j_d0)) (up2 μ 17 (ix (nI j_d0)) 110) (K) (r = nI (fCnt (fun t => upd (μ 17) (ix (nI j_d0)) 110 t = 119) (K 2))) H))) (gX (fun _ => False)) args s 0 0 (mA β)) (F0 m 46 ls []) := by
          intro n_
          induction n_ with
          | zero => intro q r H lo ls h_; exact absurd h_ (Nat.not_lt_zero _)
          | succ n_ ih_loop =>
            intro q r H lo ls hn_ i1 i2 hR hS hl
            refine lv_iload_n hx hb dX5_annul_46 rfl (lv_at hl 3 rfl) ?_
            refine lv_aload_n hx hb dX5_annul_47 rfl (lv_at hl 0 rfl) ?_
            refine g_get (v := .int (nI (K 2))) hC hR.obj (C := RX5) (T := TX5) (N := 26) rfl u5_in 21 (by decide) k_1017 rfl dX5_annul_48 ?_
            refine lv_icmp_ge (tgt := 79) hx hb dX5_annul_51 (by decide) (fun c10_ => ?_) (fun c10_ => ?_)
            · have n11_ : (K 2) ≤ q := le_nI (by omega) (by omega) c10_
              refine lv_iload_n hx hb dX5_annul_79 rfl (lv_at hl 2 rfl) ?_
              exact g_iretW hC hr dX5_annul_80 hS (Nat.le_of_ble_eq_true rfl) (Nat.le_of_ble_eq_true rfl) (mPost_0 (by unfold kAnnul; rw [cif_neg (by first | grind | (simp only [ix, ej_d0, mv, mw]; grind)), cif_neg (by first | grind | (simp only [ix, ej_d0, mv, mw]; grind))]) hR (by simp only [ix, ej_d0]) rfl (by rw [i2, show q = K 2 by omega]; simp only [ix, ej_d0]))
            · have n11_ : q < (K 2) := not_le_nI (by omega) (by omega) c10_
              refine lv_iload_n hx hb dX5_annul_54 rfl (lv_at hl 2 rfl) ?_
              refine lv_aload_n hx hb dX5_annul_55 rfl (lv_at hl 0 rfl) ?_
              refine g_get (v := .ref (β 17)) hC hR.obj (C := RX5) (T := TX5) (N := 26) rfl u5_in 17 (by decide) k_1013 rfl dX5_annul_56 ?_
              refine lv_iload_n hx hb dX5_annul_59 rfl (lv_at hl 3 rfl) ?_
              refine g_cald (n := 24) (f := (upd (μ 17) j_d0 110)) (j := q) hC (hR.arr 17 (by decide) rfl rfl) (by omega) (by decide) dX5_annul_60 ?_
              refine lv_bipush (v := 119) hx hb dX5_annul_61 (by decide) ?_
              refine lv_icmp_ne (tgt := 70) hx hb dX5_annul_63 (by decide) (fun c12_ => ?_) (fun c12_ => ?_)
              · refine lv_iconst (v := 0) hx hb dX5_annul_70 (by decide) ?_
                refine lv_iadd hx hb dX5_annul_71 ?_
                refine lv_istore_n (lv' := [(2, .int (r + 0)), (0, .ref (β 19)), (1, .int (nI j_d0)), (3, .int (nI q))]) hx hb dX5_annul_72 rfl hl (by decide) rfl (fun ls hl => ?_)
                refine lv_iinc (v := nI (q + 1)) (lv' := [(3, .int (nI (q + 1))), (2, .int (r + 0)), (0, .ref (β 19)), (1, .int (nI j_d0))]) hx hb dX5_annul_73 hl (k := 3) rfl (g_inc _) (by decide) rfl (fun ls hl => ?_)
                refine lv_goto (tgt := 46) hx hb dX5_annul_76 (by decide) ?_
                exact ih_loop (q + 1) (r + 0) H lo ls (by omega) (by omega) (by rw [i2]; exact nI_cnt_f (by assumption)) hR hS (lv_sub hl [2, 3, 1, 0] rfl)
              · refine lv_iconst (v := 1) hx hb dX5_annul_66 (by decide) ?_
                refine lv_goto (tgt := 71) hx hb dX5_annul_67 (by decide) ?_
                refine lv_iadd hx hb dX5_annul_71 ?_
                refine lv_istore_n (lv' := [(2, .int (r + 1)), (0, .ref (β 19)), (1, .int (nI j_d0)), (3, .int (nI q))]) hx hb dX5_annul_72 rfl hl (by decide) rfl (fun ls hl => ?_)
                refine lv_iinc (v := nI (q + 1)) (lv' := [(3, .int (nI (q + 1))), (2, .int (r + 1)), (0, .ref (β 19)), (1, .int (nI j_d0))]) hx hb dX5_annul_73 hl (k := 3) rfl (g_inc _) (by decide) rfl (fun ls hl => ?_)
                refine lv_goto (tgt := 46) hx hb dX5_annul_76 (by decide) ?_
                exact ih_loop (q + 1) (r + 1) H lo ls (by omega) (by omega) (by rw [i2]; exact nI_cnt_t (by assumption)) hR hS (lv_sub hl [2, 3, 1, 0] rfl)
        exact loop ((K 2 - (0)) + 1) 0 0 H lo ls (by omega) (by omega) rfl hR hS (lv_sub hl [2, 3, 1, 0] rfl)
      · exact absurd (by decide) c9_
    · refine lv_iconst (v := 1) hx hb dX5_annul_20 (by decide) ?_
      refine lv_goto (tgt := 25) hx hb dX5_annul_21 (by decide) ?_
      refine lv_iconst (v := 2) hx hb dX5_annul_25 (by decide) ?_
      refine g_cWi (k2 := 0) (n2 := 0) (g_runV (rest := []) hC (c_X5_isThrown hE (β := β) (μ := μ) (K := K) (dp := dp) (th := 0) 1 2 rfl) Y_X5_isThrown k_1084 I_X5_isThrown V_X5_isThrown hR.obj rfl hR rfl hl.1 dX5_annul_26 ⟨Nat.le_of_ble_eq_true rfl, Nat.le_of_ble_eq_true rfl⟩ ⟨Nat.le_of_ble_eq_true rfl, Nat.le_of_ble_eq_true rfl⟩ rfl (Nat.le_of_ble_eq_true rfl)) hS (fun _ h => h) rfl rfl (fun r13_ H lo h14_ _ _ hS => ?_)
      obtain ⟨rfl, hR⟩ := h14_
      have hR : RM E β μ K dp 2 H := hR
      refine lv_if_eq (tgt := 34) hx hb dX5_annul_29 (by decide) (fun c15_ => ?_) (fun c15_ => ?_)
      · exact absurd c15_ (by decide)
      · refine lv_iconst (v := 0) hx hb dX5_annul_32 (by decide) ?_
        exact g_iretW hC hr dX5_annul_33 hS (Nat.le_of_ble_eq_true rfl) (Nat.le_of_ble_eq_true rfl) (mPost_k 2 (by unfold kAnnul; rw [cif_neg (by first | grind | (simp only [ix, ej_d0, mv, mw]; grind)), cif_pos (by first | grind | (simp only [ix, ej_d0, mv, mw]; grind))]) (by decide) rfl hR)
set_option maxHeartbeats 4000000 in
set_option maxRecDepth 100000 in
theorem c_X5_lack {l : Launch} {E : gV} (hE : gOK l E) {β : Nat → Nat} {μ : F2} {K : Nat → Nat} {dp th : Int32} (hI : MI μ K) (d0 : Int32) (hch : ∀ i, i < K 2 → narrow .char (.int (μ 18 i)) = .int (μ 18 i)) : gM l E yX5_lack cX5_lack 2 (some .char) ({ frames := 2, cells := 0, slots := 0, locals := 43 } : Room) [.ref (β 19), .int d0] (fun H => RM E β μ K dp th H) (gQW (mA β) (gWi (fun r H => mPost E β μ K (kLack (mw μ) (K 2) d0) (μ) (K) (r = μ 18 (ix d0)) H))) (fun _ => False) (mA β) := by
  refine gM_body hE (by decide +kernel) (Nat.le_of_ble_eq_true rfl) ?_
  intro p_ e_ s m args below meth c hC ht hr hname hP ls hl
  have hx := hC.2.2.1
  have hb := hC.2.2.2.1
  have hl : lv_has ls 2 [(0, .ref (β 19)), (1, .int d0)] := hl
  have hS : va_S ((mA β)) s.heap s.heap [] := va_S.rf
  have hR : RM E β μ K dp th s.heap := hP
  obtain ⟨hK0, hK1, hK2, hSr, hHo, hTd⟩ := hI
  refine lv_aload_n hx hb dX5_lack_0 rfl (lv_at hl 0 rfl) ?_
  refine lv_iload_n hx hb dX5_lack_1 rfl (lv_at hl 1 rfl) ?_
  refine g_cWi (k2 := 0) (n2 := 0) (g_runV (rest := []) hC (c_X5_isNoDeed hE (β := β) (μ := μ) (K := K) (dp := dp) (th := th) (by omega) d0) Y_X5_isNoDeed k_1240 I_X5_isNoDeed V_X5_isNoDeed hR.obj rfl hR rfl hl.1 dX5_lack_2 ⟨Nat.le_of_ble_eq_true rfl, Nat.le_of_ble_eq_true rfl⟩ ⟨Nat.le_of_ble_eq_true rfl, Nat.le_of_ble_eq_true rfl⟩ rfl (Nat.le_of_ble_eq_true rfl)) hS (fun _ h => h) rfl rfl (fun r1_ H lo h2_ _ _ hS => ?_)
  obtain ⟨f3_, hR⟩ := h2_
  refine lv_if_ne (tgt := 32) hx hb dX5_lack_5 (by decide) (fun c4_ => ?_) (fun c4_ => ?_)
  · have q5_ := bz.t f3_ c4_
    rw [thr_1 c4_] at hR
    refine lv_bipush (v := 45) hx hb dX5_lack_32 (by decide) ?_
    refine lv_goto (tgt := 43) hx hb dX5_lack_34 (by decide) ?_
    exact g_zretW hC hr rfl dX5_lack_43 hS (Nat.le_of_ble_eq_true rfl) (Nat.le_of_ble_eq_true rfl) (mPost_k 1 (by unfold kLack; rw [cif_pos (by grind)]) (by decide) rfl hR)
  · have q5_ := bz.f f3_ c4_
    rw [thr_0 c4_] at hR
    refine lv_aload_n hx hb dX5_lack_8 rfl (lv_at hl 0 rfl) ?_
    refine lv_aload_n hx hb dX5_lack_9 rfl (lv_at hl 0 rfl) ?_
    refine g_get (v := .ref (β 17)) hC hR.obj (C := RX5) (T := TX5) (N := 26) rfl u5_in 17 (by decide) k_1013 rfl dX5_lack_10 ?_
    refine lv_iload_n hx hb dX5_lack_13 rfl (lv_at hl 1 rfl) ?_
    obtain ⟨j_d0, hj_d0, rfl⟩ := isP_of (n := K 2) (p := d0) (by first | exact Classical.not_not.mp (by assumption) | assumption) (by omega)
    have ej_d0 : (nI j_d0).toNatClampNeg = j_d0 := nI_clamp (by omega)
    have ipj_d0 : isP (K 2) (nI j_d0) := isP_nI hj_d0 (by omega)
    refine g_cald (n := 24) (f := μ 17) (j := j_d0) hC (hR.arr 17 (by decide) rfl rfl) (by omega) (by decide) dX5_lack_14 ?_
    refine lv_bipush (v := 115) hx hb dX5_lack_15 (by decide) ?_
    refine lv_icmp_ne (tgt := 24) hx hb dX5_lack_17 (by decide) (fun c6_ => ?_) (fun c6_ => ?_)
    · refine lv_iconst (v := 0) hx hb dX5_lack_24 (by decide) ?_
      refine lv_iconst (v := 2) hx hb dX5_lack_25 (by decide) ?_
      refine g_cWi (k2 := 0) (n2 := 0) (g_runV (rest := []) hC (c_X5_isThrown hE (β := β) (μ := μ) (K := K) (dp := dp) (th := 0) 0 2 rfl) Y_X5_isThrown k_1084 I_X5_isThrown V_X5_isThrown hR.obj rfl hR rfl hl.1 dX5_lack_26 ⟨Nat.le_of_ble_eq_true rfl, Nat.le_of_ble_eq_true rfl⟩ ⟨Nat.le_of_ble_eq_true rfl, Nat.le_of_ble_eq_true rfl⟩ rfl (Nat.le_of_ble_eq_true rfl)) hS (fun _ h => h) rfl rfl (fun r7_ H lo h8_ _ _ hS => ?_)
      obtain ⟨rfl, hR⟩ := h8_
      have hR : RM E β μ K dp 0 H := hR
      refine lv_if_eq (tgt := 37) hx hb dX5_lack_29 (by decide) (fun c9_ => ?_) (fun c9_ => ?_)
      · refine lv_aload_n hx hb dX5_lack_37 rfl (lv_at hl 0 rfl) ?_
        refine g_get (v := .ref (β 18)) hC hR.obj (C := RX5) (T := TX5) (N := 26) rfl u5_in 18 (by decide) k_1014 rfl dX5_lack_38 ?_
        refine lv_iload_n hx hb dX5_lack_41 rfl (lv_at hl 1 rfl) ?_
        refine g_cald (n := 24) (f := μ 18) (j := j_d0) hC (hR.arr 18 (by decide) rfl rfl) (by omega) (by decide) dX5_lack_42 ?_
        exact g_zretW hC hr (hch _ (by omega)) dX5_lack_43 hS (Nat.le_of_ble_eq_true rfl) (Nat.le_of_ble_eq_true rfl) (mPost_0 (by unfold kLack; rw [cif_neg (by first | grind | (simp only [ix, ej_d0, mv, mw]; grind)), cif_neg (by first | grind | (simp only [ix, ej_d0, mv, mw]; grind))]) hR rfl rfl (by simp only [ix, ej_d0]))
      · exact absurd (by decide) c9_
    · refine lv_iconst (v := 1) hx hb dX5_lack_20 (by decide) ?_
      refine lv_goto (tgt := 25) hx hb dX5_lack_21 (by decide) ?_
      refine lv_iconst (v := 2) hx hb dX5_lack_25 (by decide) ?_
      refine g_cWi (k2 := 0) (n2 := 0) (g_runV (rest := []) hC (c_X5_isThrown hE (β := β) (μ := μ) (K := K) (dp := dp) (th := 0) 1 2 rfl) Y_X5_isThrown k_1084 I_X5_isThrown V_X5_isThrown hR.obj rfl hR rfl hl.1 dX5_lack_26 ⟨Nat.le_of_ble_eq_true rfl, Nat.le_of_ble_eq_true rfl⟩ ⟨Nat.le_of_ble_eq_true rfl, Nat.le_of_ble_eq_true rfl⟩ rfl (Nat.le_of_ble_eq_true rfl)) hS (fun _ h => h) rfl rfl (fun r10_ H lo h11_ _ _ hS => ?_)
      obtain ⟨rfl, hR⟩ := h11_
      have hR : RM E β μ K dp 2 H := hR
      refine lv_if_eq (tgt := 37) hx hb dX5_lack_29 (by decide) (fun c12_ => ?_) (fun c12_ => ?_)
      · exact absurd c12_ (by decide)
      · refine lv_bipush (v := 45) hx hb dX5_lack_32 (by decide) ?_
        refine lv_goto (tgt := 43) hx hb dX5_lack_34 (by decide) ?_
        exact g_zretW hC hr rfl dX5_lack_43 hS (Nat.le_of_ble_eq_true rfl) (Nat.le_of_ble_eq_true rfl) (mPost_k 2 (by unfold kLack; rw [cif_neg (by first | grind | (simp only [ix, ej_d0, mv, mw]; grind)), cif_pos (by first | grind | (simp only [ix, ej_d0, mv, mw]; grind))]) (by decide) rfl hR)
set_option maxHeartbeats 4000000 in
set_option maxRecDepth 100000 in
theorem c_X5_lackPower {l : Launch} {E : gV} (hE : gOK l E) {β : Nat → Nat} {μ : F2} {K : Nat → Nat} {dp th : Int32} (hI : MI μ K) (d0 : Int32) : gM l E yX5_lackPower cX5_lackPower 2 (some .int) ({ frames := 2, cells := 0, slots := 0, locals := 43 } : Room) [.ref (β 19), .int d0] (fun H => RM E β μ K dp th H) (gQW (mA β) (gWi (fun r H => mPost E β μ K (kLackP (mw μ) (μ 15) (K 2) d0) (μ) (K) (r = μ 15 (ix d0)) H))) (fun _ => False) (mA β) := by
  refine gM_body hE (by decide +kernel) (Nat.le_of_ble_eq_true rfl) ?_
  intro p_ e_ s m args below meth c hC ht hr hname hP ls hl
  have hx := hC.2.2.1
  have hb := hC.2.2.2.1
  have hl : lv_has ls 2 [(0, .ref (β 19)), (1, .int d0)] := hl
  have hS : va_S ((mA β)) s.heap s.heap [] := va_S.rf
  have hR : RM E β μ K dp th s.heap := hP
  obtain ⟨hK0, hK1, hK2, hSr, hHo, hTd⟩ := hI
  refine lv_aload_n hx hb dX5_lackPower_0 rfl (lv_at hl 0 rfl) ?_
  refine lv_iload_n hx hb dX5_lackPower_1 rfl (lv_at hl 1 rfl) ?_
  refine g_cWi (k2 := 0) (n2 := 0) (g_runV (rest := []) hC (c_X5_isNoDeed hE (β := β) (μ := μ) (K := K) (dp := dp) (th := th) (by omega) d0) Y_X5_isNoDeed k_1240 I_X5_isNoDeed V_X5_isNoDeed hR.obj rfl hR rfl hl.1 dX5_lackPower_2 ⟨Nat.le_of_ble_eq_true rfl, Nat.le_of_ble_eq_true rfl⟩ ⟨Nat.le_of_ble_eq_true rfl, Nat.le_of_ble_eq_true rfl⟩ rfl (Nat.le_of_ble_eq_true rfl)) hS (fun _ h => h) rfl rfl (fun r1_ H lo h2_ _ _ hS => ?_)
  obtain ⟨f3_, hR⟩ := h2_
  refine lv_if_ne (tgt := 41) hx hb dX5_lackPower_5 (by decide) (fun c4_ => ?_) (fun c4_ => ?_)
  · have q5_ := bz.t f3_ c4_
    rw [thr_1 c4_] at hR
    refine lv_iconst (v := 0) hx hb dX5_lackPower_41 (by decide) ?_
    refine lv_goto (tgt := 51) hx hb dX5_lackPower_42 (by decide) ?_
    exact g_iretW hC hr dX5_lackPower_51 hS (Nat.le_of_ble_eq_true rfl) (Nat.le_of_ble_eq_true rfl) (mPost_k 1 (by unfold kLackP; rw [cif_pos (by grind)]) (by decide) rfl hR)
  · have q5_ := bz.f f3_ c4_
    rw [thr_0 c4_] at hR
    refine lv_aload_n hx hb dX5_lackPower_8 rfl (lv_at hl 0 rfl) ?_
    refine lv_aload_n hx hb dX5_lackPower_9 rfl (lv_at hl 0 rfl) ?_
    refine g_get (v := .ref (β 17)) hC hR.obj (C := RX5) (T := TX5) (N := 26) rfl u5_in 17 (by decide) k_1013 rfl dX5_lackPower_10 ?_
    refine lv_iload_n hx hb dX5_lackPower_13 rfl (lv_at hl 1 rfl) ?_
    obtain ⟨j_d0, hj_d0, rfl⟩ := isP_of (n := K 2) (p := d0) (by first | exact Classical.not_not.mp (by assumption) | assumption) (by omega)
    have ej_d0 : (nI j_d0).toNatClampNeg = j_d0 := nI_clamp (by omega)
    have ipj_d0 : isP (K 2) (nI j_d0) := isP_nI hj_d0 (by omega)
    refine g_cald (n := 24) (f := μ 17) (j := j_d0) hC (hR.arr 17 (by decide) rfl rfl) (by omega) (by decide) dX5_lackPower_14 ?_
    refine lv_bipush (v := 115) hx hb dX5_lackPower_15 (by decide) ?_
    refine lv_icmp_eq (tgt := 29) hx hb dX5_lackPower_17 (by decide) (fun c6_ => ?_) (fun c6_ => ?_)
    · refine lv_iconst (v := 1) hx hb dX5_lackPower_29 (by decide) ?_
      refine lv_goto (tgt := 34) hx hb dX5_lackPower_30 (by decide) ?_
      refine lv_iconst (v := 2) hx hb dX5_lackPower_34 (by decide) ?_
      refine g_cWi (k2 := 0) (n2 := 0) (g_runV (rest := []) hC (c_X5_isThrown hE (β := β) (μ := μ) (K := K) (dp := dp) (th := 0) 1 2 rfl) Y_X5_isThrown k_1084 I_X5_isThrown V_X5_isThrown hR.obj rfl hR rfl hl.1 dX5_lackPower_35 ⟨Nat.le_of_ble_eq_true rfl, Nat.le_of_ble_eq_true rfl⟩ ⟨Nat.le_of_ble_eq_true rfl, Nat.le_of_ble_eq_true rfl⟩ rfl (Nat.le_of_ble_eq_true rfl)) hS (fun _ h => h) rfl rfl (fun r7_ H lo h8_ _ _ hS => ?_)
      obtain ⟨rfl, hR⟩ := h8_
      have hR : RM E β μ K dp 2 H := hR
      refine lv_if_eq (tgt := 45) hx hb dX5_lackPower_38 (by decide) (fun c9_ => ?_) (fun c9_ => ?_)
      · exact absurd c9_ (by decide)
      · refine lv_iconst (v := 0) hx hb dX5_lackPower_41 (by decide) ?_
        refine lv_goto (tgt := 51) hx hb dX5_lackPower_42 (by decide) ?_
        exact g_iretW hC hr dX5_lackPower_51 hS (Nat.le_of_ble_eq_true rfl) (Nat.le_of_ble_eq_true rfl) (mPost_k 2 (by unfold kLackP; rw [cif_neg (by first | grind | (simp only [ix, ej_d0, mv, mw]; grind)), cif_pos (by first | grind | (simp only [ix, ej_d0, mv, mw]; grind))]) (by decide) rfl hR)
    · refine lv_aload_n hx hb dX5_lackPower_20 rfl (lv_at hl 0 rfl) ?_
      refine g_get (v := .ref (β 15)) hC hR.obj (C := RX5) (T := TX5) (N := 26) rfl u5_in 15 (by decide) k_1011 rfl dX5_lackPower_21 ?_
      refine lv_iload_n hx hb dX5_lackPower_24 rfl (lv_at hl 1 rfl) ?_
      refine g_iald (n := 24) (f := μ 15) (j := j_d0) hC (hR.arr 15 (by decide) rfl rfl) (by omega) (by decide) dX5_lackPower_25 ?_
      refine lv_if_ge (tgt := 33) hx hb dX5_lackPower_26 (by decide) (fun c10_ => ?_) (fun c10_ => ?_)
      · refine lv_iconst (v := 0) hx hb dX5_lackPower_33 (by decide) ?_
        refine lv_iconst (v := 2) hx hb dX5_lackPower_34 (by decide) ?_
        refine g_cWi (k2 := 0) (n2 := 0) (g_runV (rest := []) hC (c_X5_isThrown hE (β := β) (μ := μ) (K := K) (dp := dp) (th := 0) 0 2 rfl) Y_X5_isThrown k_1084 I_X5_isThrown V_X5_isThrown hR.obj rfl hR rfl hl.1 dX5_lackPower_35 ⟨Nat.le_of_ble_eq_true rfl, Nat.le_of_ble_eq_true rfl⟩ ⟨Nat.le_of_ble_eq_true rfl, Nat.le_of_ble_eq_true rfl⟩ rfl (Nat.le_of_ble_eq_true rfl)) hS (fun _ h => h) rfl rfl (fun r11_ H lo h12_ _ _ hS => ?_)
        obtain ⟨rfl, hR⟩ := h12_
        have hR : RM E β μ K dp 0 H := hR
        refine lv_if_eq (tgt := 45) hx hb dX5_lackPower_38 (by decide) (fun c13_ => ?_) (fun c13_ => ?_)
        · refine lv_aload_n hx hb dX5_lackPower_45 rfl (lv_at hl 0 rfl) ?_
          refine g_get (v := .ref (β 15)) hC hR.obj (C := RX5) (T := TX5) (N := 26) rfl u5_in 15 (by decide) k_1011 rfl dX5_lackPower_46 ?_
          refine lv_iload_n hx hb dX5_lackPower_49 rfl (lv_at hl 1 rfl) ?_
          refine g_iald (n := 24) (f := μ 15) (j := j_d0) hC (hR.arr 15 (by decide) rfl rfl) (by omega) (by decide) dX5_lackPower_50 ?_
          exact g_iretW hC hr dX5_lackPower_51 hS (Nat.le_of_ble_eq_true rfl) (Nat.le_of_ble_eq_true rfl) (mPost_0 (by unfold kLackP; rw [cif_neg (by first | grind | (simp only [ix, ej_d0, mv, mw]; grind)), cif_neg (by first | grind | (simp only [ix, ej_d0, mv, mw]; grind))]) hR rfl rfl (by simp only [ix, ej_d0]))
        · exact absurd (by decide) c13_
      · refine lv_iconst (v := 1) hx hb dX5_lackPower_29 (by decide) ?_
        refine lv_goto (tgt := 34) hx hb dX5_lackPower_30 (by decide) ?_
        refine lv_iconst (v := 2) hx hb dX5_lackPower_34 (by decide) ?_
        refine g_cWi (k2 := 0) (n2 := 0) (g_runV (rest := []) hC (c_X5_isThrown hE (β := β) (μ := μ) (K := K) (dp := dp) (th := 0) 1 2 rfl) Y_X5_isThrown k_1084 I_X5_isThrown V_X5_isThrown hR.obj rfl hR rfl hl.1 dX5_lackPower_35 ⟨Nat.le_of_ble_eq_true rfl, Nat.le_of_ble_eq_true rfl⟩ ⟨Nat.le_of_ble_eq_true rfl, Nat.le_of_ble_eq_true rfl⟩ rfl (Nat.le_of_ble_eq_true rfl)) hS (fun _ h => h) rfl rfl (fun r14_ H lo h15_ _ _ hS => ?_)
        obtain ⟨rfl, hR⟩ := h15_
        have hR : RM E β μ K dp 2 H := hR
        refine lv_if_eq (tgt := 45) hx hb dX5_lackPower_38 (by decide) (fun c16_ => ?_) (fun c16_ => ?_)
        · exact absurd c16_ (by decide)
        · refine lv_iconst (v := 0) hx hb dX5_lackPower_41 (by decide) ?_
          refine lv_goto (tgt := 51) hx hb dX5_lackPower_42 (by decide) ?_
          exact g_iretW hC hr dX5_lackPower_51 hS (Nat.le_of_ble_eq_true rfl) (Nat.le_of_ble_eq_true rfl) (mPost_k 2 (by unfold kLackP; rw [cif_neg (by first | grind | (simp only [ix, ej_d0, mv, mw]; grind)), cif_pos (by first | grind | (simp only [ix, ej_d0, mv, mw]; grind))]) (by decide) rfl hR)
set_option maxHeartbeats 4000000 in
set_option maxRecDepth 100000 in
theorem c_X5_lackDepth {l : Launch} {E : gV} (hE : gOK l E) {β : Nat → Nat} {μ : F2} {K : Nat → Nat} {dp th : Int32} (hI : MI μ K) (d0 : Int32) : gM l E yX5_lackDepth cX5_lackDepth 2 (some .int) ({ frames := 2, cells := 0, slots := 0, locals := 43 } : Room) [.ref (β 19), .int d0] (fun H => RM E β μ K dp th H) (gQW (mA β) (gWi (fun r H => mPost E β μ K (kLackP (mw μ) (μ 15) (K 2) d0) (μ) (K) (r = μ 16 (ix d0)) H))) (fun _ => False) (mA β) := by
  refine gM_body hE (by decide +kernel) (Nat.le_of_ble_eq_true rfl) ?_
  intro p_ e_ s m args below meth c hC ht hr hname hP ls hl
  have hx := hC.2.2.1
  have hb := hC.2.2.2.1
  have hl : lv_has ls 2 [(0, .ref (β 19)), (1, .int d0)] := hl
  have hS : va_S ((mA β)) s.heap s.heap [] := va_S.rf
  have hR : RM E β μ K dp th s.heap := hP
  obtain ⟨hK0, hK1, hK2, hSr, hHo, hTd⟩ := hI
  refine lv_aload_n hx hb dX5_lackDepth_0 rfl (lv_at hl 0 rfl) ?_
  refine lv_iload_n hx hb dX5_lackDepth_1 rfl (lv_at hl 1 rfl) ?_
  refine g_cWi (k2 := 0) (n2 := 0) (g_runV (rest := []) hC (c_X5_isNoDeed hE (β := β) (μ := μ) (K := K) (dp := dp) (th := th) (by omega) d0) Y_X5_isNoDeed k_1240 I_X5_isNoDeed V_X5_isNoDeed hR.obj rfl hR rfl hl.1 dX5_lackDepth_2 ⟨Nat.le_of_ble_eq_true rfl, Nat.le_of_ble_eq_true rfl⟩ ⟨Nat.le_of_ble_eq_true rfl, Nat.le_of_ble_eq_true rfl⟩ rfl (Nat.le_of_ble_eq_true rfl)) hS (fun _ h => h) rfl rfl (fun r1_ H lo h2_ _ _ hS => ?_)
  obtain ⟨f3_, hR⟩ := h2_
  refine lv_if_ne (tgt := 41) hx hb dX5_lackDepth_5 (by decide) (fun c4_ => ?_) (fun c4_ => ?_)
  · have q5_ := bz.t f3_ c4_
    rw [thr_1 c4_] at hR
    refine lv_iconst (v := 0) hx hb dX5_lackDepth_41 (by decide) ?_
    refine lv_goto (tgt := 51) hx hb dX5_lackDepth_42 (by decide) ?_
    exact g_iretW hC hr dX5_lackDepth_51 hS (Nat.le_of_ble_eq_true rfl) (Nat.le_of_ble_eq_true rfl) (mPost_k 1 (by unfold kLackP; rw [cif_pos (by grind)]) (by decide) rfl hR)
  · have q5_ := bz.f f3_ c4_
    rw [thr_0 c4_] at hR
    refine lv_aload_n hx hb dX5_lackDepth_8 rfl (lv_at hl 0 rfl) ?_
    refine lv_aload_n hx hb dX5_lackDepth_9 rfl (lv_at hl 0 rfl) ?_
    refine g_get (v := .ref (β 17)) hC hR.obj (C := RX5) (T := TX5) (N := 26) rfl u5_in 17 (by decide) k_1013 rfl dX5_lackDepth_10 ?_
    refine lv_iload_n hx hb dX5_lackDepth_13 rfl (lv_at hl 1 rfl) ?_
    obtain ⟨j_d0, hj_d0, rfl⟩ := isP_of (n := K 2) (p := d0) (by first | exact Classical.not_not.mp (by assumption) | assumption) (by omega)
    have ej_d0 : (nI j_d0).toNatClampNeg = j_d0 := nI_clamp (by omega)
    have ipj_d0 : isP (K 2) (nI j_d0) := isP_nI hj_d0 (by omega)
    refine g_cald (n := 24) (f := μ 17) (j := j_d0) hC (hR.arr 17 (by decide) rfl rfl) (by omega) (by decide) dX5_lackDepth_14 ?_
    refine lv_bipush (v := 115) hx hb dX5_lackDepth_15 (by decide) ?_
    refine lv_icmp_eq (tgt := 29) hx hb dX5_lackDepth_17 (by decide) (fun c6_ => ?_) (fun c6_ => ?_)
    · refine lv_iconst (v := 1) hx hb dX5_lackDepth_29 (by decide) ?_
      refine lv_goto (tgt := 34) hx hb dX5_lackDepth_30 (by decide) ?_
      refine lv_iconst (v := 2) hx hb dX5_lackDepth_34 (by decide) ?_
      refine g_cWi (k2 := 0) (n2 := 0) (g_runV (rest := []) hC (c_X5_isThrown hE (β := β) (μ := μ) (K := K) (dp := dp) (th := 0) 1 2 rfl) Y_X5_isThrown k_1084 I_X5_isThrown V_X5_isThrown hR.obj rfl hR rfl hl.1 dX5_lackDepth_35 ⟨Nat.le_of_ble_eq_true rfl, Nat.le_of_ble_eq_true rfl⟩ ⟨Nat.le_of_ble_eq_true rfl, Nat.le_of_ble_eq_true rfl⟩ rfl (Nat.le_of_ble_eq_true rfl)) hS (fun _ h => h) rfl rfl (fun r7_ H lo h8_ _ _ hS => ?_)
      obtain ⟨rfl, hR⟩ := h8_
      have hR : RM E β μ K dp 2 H := hR
      refine lv_if_eq (tgt := 45) hx hb dX5_lackDepth_38 (by decide) (fun c9_ => ?_) (fun c9_ => ?_)
      · exact absurd c9_ (by decide)
      · refine lv_iconst (v := 0) hx hb dX5_lackDepth_41 (by decide) ?_
        refine lv_goto (tgt := 51) hx hb dX5_lackDepth_42 (by decide) ?_
        exact g_iretW hC hr dX5_lackDepth_51 hS (Nat.le_of_ble_eq_true rfl) (Nat.le_of_ble_eq_true rfl) (mPost_k 2 (by unfold kLackP; rw [cif_neg (by first | grind | (simp only [ix, ej_d0, mv, mw]; grind)), cif_pos (by first | grind | (simp only [ix, ej_d0, mv, mw]; grind))]) (by decide) rfl hR)
    · refine lv_aload_n hx hb dX5_lackDepth_20 rfl (lv_at hl 0 rfl) ?_
      refine g_get (v := .ref (β 15)) hC hR.obj (C := RX5) (T := TX5) (N := 26) rfl u5_in 15 (by decide) k_1011 rfl dX5_lackDepth_21 ?_
      refine lv_iload_n hx hb dX5_lackDepth_24 rfl (lv_at hl 1 rfl) ?_
      refine g_iald (n := 24) (f := μ 15) (j := j_d0) hC (hR.arr 15 (by decide) rfl rfl) (by omega) (by decide) dX5_lackDepth_25 ?_
      refine lv_if_ge (tgt := 33) hx hb dX5_lackDepth_26 (by decide) (fun c10_ => ?_) (fun c10_ => ?_)
      · refine lv_iconst (v := 0) hx hb dX5_lackDepth_33 (by decide) ?_
        refine lv_iconst (v := 2) hx hb dX5_lackDepth_34 (by decide) ?_
        refine g_cWi (k2 := 0) (n2 := 0) (g_runV (rest := []) hC (c_X5_isThrown hE (β := β) (μ := μ) (K := K) (dp := dp) (th := 0) 0 2 rfl) Y_X5_isThrown k_1084 I_X5_isThrown V_X5_isThrown hR.obj rfl hR rfl hl.1 dX5_lackDepth_35 ⟨Nat.le_of_ble_eq_true rfl, Nat.le_of_ble_eq_true rfl⟩ ⟨Nat.le_of_ble_eq_true rfl, Nat.le_of_ble_eq_true rfl⟩ rfl (Nat.le_of_ble_eq_true rfl)) hS (fun _ h => h) rfl rfl (fun r11_ H lo h12_ _ _ hS => ?_)
        obtain ⟨rfl, hR⟩ := h12_
        have hR : RM E β μ K dp 0 H := hR
        refine lv_if_eq (tgt := 45) hx hb dX5_lackDepth_38 (by decide) (fun c13_ => ?_) (fun c13_ => ?_)
        · refine lv_aload_n hx hb dX5_lackDepth_45 rfl (lv_at hl 0 rfl) ?_
          refine g_get (v := .ref (β 16)) hC hR.obj (C := RX5) (T := TX5) (N := 26) rfl u5_in 16 (by decide) k_1012 rfl dX5_lackDepth_46 ?_
          refine lv_iload_n hx hb dX5_lackDepth_49 rfl (lv_at hl 1 rfl) ?_
          refine g_iald (n := 24) (f := μ 16) (j := j_d0) hC (hR.arr 16 (by decide) rfl rfl) (by omega) (by decide) dX5_lackDepth_50 ?_
          exact g_iretW hC hr dX5_lackDepth_51 hS (Nat.le_of_ble_eq_true rfl) (Nat.le_of_ble_eq_true rfl) (mPost_0 (by unfold kLackP; rw [cif_neg (by first | grind | (simp only [ix, ej_d0, mv, mw]; grind)), cif_neg (by first | grind | (simp only [ix, ej_d0, mv, mw]; grind))]) hR rfl rfl (by simp only [ix, ej_d0]))
        · exact absurd (by decide) c13_
      · refine lv_iconst (v := 1) hx hb dX5_lackDepth_29 (by decide) ?_
        refine lv_goto (tgt := 34) hx hb dX5_lackDepth_30 (by decide) ?_
        refine lv_iconst (v := 2) hx hb dX5_lackDepth_34 (by decide) ?_
        refine g_cWi (k2 := 0) (n2 := 0) (g_runV (rest := []) hC (c_X5_isThrown hE (β := β) (μ := μ) (K := K) (dp := dp) (th := 0) 1 2 rfl) Y_X5_isThrown k_1084 I_X5_isThrown V_X5_isThrown hR.obj rfl hR rfl hl.1 dX5_lackDepth_35 ⟨Nat.le_of_ble_eq_true rfl, Nat.le_of_ble_eq_true rfl⟩ ⟨Nat.le_of_ble_eq_true rfl, Nat.le_of_ble_eq_true rfl⟩ rfl (Nat.le_of_ble_eq_true rfl)) hS (fun _ h => h) rfl rfl (fun r14_ H lo h15_ _ _ hS => ?_)
        obtain ⟨rfl, hR⟩ := h15_
        have hR : RM E β μ K dp 2 H := hR
        refine lv_if_eq (tgt := 45) hx hb dX5_lackDepth_38 (by decide) (fun c16_ => ?_) (fun c16_ => ?_)
        · exact absurd c16_ (by decide)
        · refine lv_iconst (v := 0) hx hb dX5_lackDepth_41 (by decide) ?_
          refine lv_goto (tgt := 51) hx hb dX5_lackDepth_42 (by decide) ?_
          exact g_iretW hC hr dX5_lackDepth_51 hS (Nat.le_of_ble_eq_true rfl) (Nat.le_of_ble_eq_true rfl) (mPost_k 2 (by unfold kLackP; rw [cif_neg (by first | grind | (simp only [ix, ej_d0, mv, mw]; grind)), cif_pos (by first | grind | (simp only [ix, ej_d0, mv, mw]; grind))]) (by decide) rfl hR)
set_option maxHeartbeats 4000000 in
set_option maxRecDepth 100000 in
theorem c_X5_setWindow {l : Launch} {E : gV} (hE : gOK l E) {β : Nat → Nat} {μ : F2} {K : Nat → Nat} {dp th : Int32} (hI : MI μ K) (d0 : Int32) : gM l E yX5_setWindow cX5_setWindow 3 (some .int) ({ frames := 1, cells := 0, slots := 0, locals := 22 } : Room) [.ref (β 19), .int d0] (fun H => RM E β μ K dp th H) (gQW (mA β) (gWi (fun r H => mPost E β μ K (kWin d0) (up2 μ 23 0 d0) (K) (r = μ 23 0) H))) (fun _ => False) (mA β) := by
  refine gM_body hE (by decide +kernel) (Nat.le_of_ble_eq_true rfl) ?_
  intro p_ e_ s m args below meth c hC ht hr hname hP ls hl
  have hx := hC.2.2.1
  have hb := hC.2.2.2.1
  have hl : lv_has ls 3 [(0, .ref (β 19)), (1, .int d0)] := hl
  have hS : va_S ((mA β)) s.heap s.heap [] := va_S.rf
  have hR : RM E β μ K dp th s.heap := hP
  obtain ⟨hK0, hK1, hK2, hSr, hHo, hTd⟩ := hI
  refine lv_aload_n hx hb dX5_setWindow_0 rfl (lv_at hl 0 rfl) ?_
  refine lv_iload_n hx hb dX5_setWindow_1 rfl (lv_at hl 1 rfl) ?_
  refine lv_iconst (v := 1) hx hb dX5_setWindow_2 (by decide) ?_
  refine lv_bipush (v := 99) hx hb dX5_setWindow_3 (by decide) ?_
  refine g_cRi (k2 := 0) (n2 := 0) (g_runS (rest := [.ref (β 19)]) hC (c_X5_isIn hE d0 1 99) Y_X5_isIn k_1096 S_X5_isIn trivial rfl hl.1 dX5_setWindow_5 ⟨Nat.le_of_ble_eq_true rfl, Nat.le_of_ble_eq_true rfl⟩ ⟨Nat.le_of_ble_eq_true rfl, Nat.le_of_ble_eq_true rfl⟩ rfl (Nat.le_of_ble_eq_true rfl)) rfl rfl g_no (fun r1_ h2_ => ?_)
  refine lv_if_ne (tgt := 15) hx hb dX5_setWindow_8 (by decide) (fun c3_ => ?_) (fun c3_ => ?_)
  · have q4_ := bz.t h2_ c3_
    refine lv_iconst (v := 0) hx hb dX5_setWindow_15 (by decide) ?_
    refine lv_iconst (v := 1) hx hb dX5_setWindow_16 (by decide) ?_
    refine g_cWi (k2 := 0) (n2 := 0) (g_runV (rest := []) hC (c_X5_isThrown hE (β := β) (μ := μ) (K := K) (dp := dp) (th := th) 0 1 rfl) Y_X5_isThrown k_1084 I_X5_isThrown V_X5_isThrown hR.obj rfl hR rfl hl.1 dX5_setWindow_17 ⟨Nat.le_of_ble_eq_true rfl, Nat.le_of_ble_eq_true rfl⟩ ⟨Nat.le_of_ble_eq_true rfl, Nat.le_of_ble_eq_true rfl⟩ rfl (Nat.le_of_ble_eq_true rfl)) hS (fun _ h => h) rfl rfl (fun r5_ H lo h6_ _ _ hS => ?_)
    obtain ⟨rfl, hR⟩ := h6_
    have hR : RM E β μ K dp 0 H := hR
    refine lv_if_eq (tgt := 25) hx hb dX5_setWindow_20 (by decide) (fun c7_ => ?_) (fun c7_ => ?_)
    · refine lv_aload_n hx hb dX5_setWindow_25 rfl (lv_at hl 0 rfl) ?_
      refine g_get (v := .int (μ 23 0)) hC hR.obj (C := RX5) (T := TX5) (N := 26) rfl u5_in 23 (by decide) k_1019 rfl dX5_setWindow_26 ?_
      refine lv_istore_n (lv' := [(2, .int (μ 23 0)), (0, .ref (β 19)), (1, .int d0)]) hx hb dX5_setWindow_29 rfl hl (by decide) rfl (fun ls hl => ?_)
      refine lv_aload_n hx hb dX5_setWindow_30 rfl (lv_at hl 1 rfl) ?_
      refine lv_iload_n hx hb dX5_setWindow_31 rfl (lv_at hl 2 rfl) ?_
      refine m_putN (μ' := (up2 μ 23 0 d0)) (K' := K) (dp' := dp) (th' := 0) 23 (by decide) hC hR hS k_1019 rfl rfl (fun j hj => upA_n _ _ (by omega)) rfl dX5_setWindow_32 (fun H lo hR hS => ?_)
      refine lv_iload_n hx hb dX5_setWindow_35 rfl (lv_at hl 0 rfl) ?_
      exact g_iretW hC hr dX5_setWindow_36 hS (Nat.le_of_ble_eq_true rfl) (Nat.le_of_ble_eq_true rfl) (mPost_0 (by unfold kWin; rw [cif_neg (by grind)]) hR rfl rfl rfl)
    · exact absurd (by decide) c7_
  · have q4_ := bz.f h2_ c3_
    refine lv_iconst (v := 1) hx hb dX5_setWindow_11 (by decide) ?_
    refine lv_goto (tgt := 16) hx hb dX5_setWindow_12 (by decide) ?_
    refine lv_iconst (v := 1) hx hb dX5_setWindow_16 (by decide) ?_
    refine g_cWi (k2 := 0) (n2 := 0) (g_runV (rest := []) hC (c_X5_isThrown hE (β := β) (μ := μ) (K := K) (dp := dp) (th := th) 1 1 rfl) Y_X5_isThrown k_1084 I_X5_isThrown V_X5_isThrown hR.obj rfl hR rfl hl.1 dX5_setWindow_17 ⟨Nat.le_of_ble_eq_true rfl, Nat.le_of_ble_eq_true rfl⟩ ⟨Nat.le_of_ble_eq_true rfl, Nat.le_of_ble_eq_true rfl⟩ rfl (Nat.le_of_ble_eq_true rfl)) hS (fun _ h => h) rfl rfl (fun r8_ H lo h9_ _ _ hS => ?_)
    obtain ⟨rfl, hR⟩ := h9_
    have hR : RM E β μ K dp 1 H := hR
    refine lv_if_eq (tgt := 25) hx hb dX5_setWindow_20 (by decide) (fun c10_ => ?_) (fun c10_ => ?_)
    · exact absurd c10_ (by decide)
    · refine lv_iconst (v := 0) hx hb dX5_setWindow_23 (by decide) ?_
      exact g_iretW hC hr dX5_setWindow_24 hS (Nat.le_of_ble_eq_true rfl) (Nat.le_of_ble_eq_true rfl) (mPost_k 1 (by unfold kWin; rw [cif_pos (by grind)]) (by decide) rfl hR)
set_option maxHeartbeats 4000000 in
set_option maxRecDepth 100000 in
theorem c_X5_pass {l : Launch} {E : gV} (hE : gOK l E) {β : Nat → Nat} {μ : F2} {K : Nat → Nat} {dp th : Int32} (hI : MI μ K) (d0 : Int32) : gM l E yX5_pass cX5_pass 2 (some .int) ({ frames := 1, cells := 0, slots := 0, locals := 22 } : Room) [.ref (β 19), .int d0] (fun H => RM E β μ K dp th H) (gQW (mA β) (gWi (fun r H => mPost E β μ K (kPass (μ 22 0) d0) (up2 μ 22 0 (μ 22 0 + d0)) (K) (r = μ 22 0 + d0) H))) (fun _ => False) (mA β) := by
  refine gM_body hE (by decide +kernel) (Nat.le_of_ble_eq_true rfl) ?_
  intro p_ e_ s m args below meth c hC ht hr hname hP ls hl
  have hx := hC.2.2.1
  have hb := hC.2.2.2.1
  have hl : lv_has ls 2 [(0, .ref (β 19)), (1, .int d0)] := hl
  have hS : va_S ((mA β)) s.heap s.heap [] := va_S.rf
  have hR : RM E β μ K dp th s.heap := hP
  obtain ⟨hK0, hK1, hK2, hSr, hHo, hTd⟩ := hI
  refine lv_aload_n hx hb dX5_pass_0 rfl (lv_at hl 0 rfl) ?_
  refine lv_iload_n hx hb dX5_pass_1 rfl (lv_at hl 1 rfl) ?_
  refine lv_iconst (v := 1) hx hb dX5_pass_2 (by decide) ?_
  refine lv_bipush (v := 99) hx hb dX5_pass_3 (by decide) ?_
  refine g_cRi (k2 := 0) (n2 := 0) (g_runS (rest := [.ref (β 19)]) hC (c_X5_isIn hE d0 1 99) Y_X5_isIn k_1096 S_X5_isIn trivial rfl hl.1 dX5_pass_5 ⟨Nat.le_of_ble_eq_true rfl, Nat.le_of_ble_eq_true rfl⟩ ⟨Nat.le_of_ble_eq_true rfl, Nat.le_of_ble_eq_true rfl⟩ rfl (Nat.le_of_ble_eq_true rfl)) rfl rfl g_no (fun r1_ h2_ => ?_)
  refine lv_if_eq (tgt := 23) hx hb dX5_pass_8 (by decide) (fun c3_ => ?_) (fun c3_ => ?_)
  · have q4_ := bz.f h2_ c3_
    refine lv_iconst (v := 1) hx hb dX5_pass_23 (by decide) ?_
    refine lv_goto (tgt := 28) hx hb dX5_pass_24 (by decide) ?_
    refine lv_iconst (v := 1) hx hb dX5_pass_28 (by decide) ?_
    refine g_cWi (k2 := 0) (n2 := 0) (g_runV (rest := []) hC (c_X5_isThrown hE (β := β) (μ := μ) (K := K) (dp := dp) (th := th) 1 1 rfl) Y_X5_isThrown k_1084 I_X5_isThrown V_X5_isThrown hR.obj rfl hR rfl hl.1 dX5_pass_29 ⟨Nat.le_of_ble_eq_true rfl, Nat.le_of_ble_eq_true rfl⟩ ⟨Nat.le_of_ble_eq_true rfl, Nat.le_of_ble_eq_true rfl⟩ rfl (Nat.le_of_ble_eq_true rfl)) hS (fun _ h => h) rfl rfl (fun r5_ H lo h6_ _ _ hS => ?_)
    obtain ⟨rfl, hR⟩ := h6_
    have hR : RM E β μ K dp 1 H := hR
    refine lv_if_eq (tgt := 37) hx hb dX5_pass_32 (by decide) (fun c7_ => ?_) (fun c7_ => ?_)
    · exact absurd c7_ (by decide)
    · refine lv_iconst (v := 0) hx hb dX5_pass_35 (by decide) ?_
      exact g_iretW hC hr dX5_pass_36 hS (Nat.le_of_ble_eq_true rfl) (Nat.le_of_ble_eq_true rfl) (mPost_k 1 (by unfold kPass; rw [cif_pos (by grind)]) (by decide) rfl hR)
  · have q4_ := bz.t h2_ c3_
    refine lv_aload_n hx hb dX5_pass_11 rfl (lv_at hl 0 rfl) ?_
    refine g_get (v := .int (μ 22 0)) hC hR.obj (C := RX5) (T := TX5) (N := 26) rfl u5_in 22 (by decide) k_1018 rfl dX5_pass_12 ?_
    refine lv_iload_n hx hb dX5_pass_15 rfl (lv_at hl 1 rfl) ?_
    refine lv_iadd hx hb dX5_pass_16 ?_
    refine lv_sipush (v := 999) hx hb dX5_pass_17 (by decide) ?_
    refine lv_icmp_le (tgt := 27) hx hb dX5_pass_20 (by decide) (fun c8_ => ?_) (fun c8_ => ?_)
    · refine lv_iconst (v := 0) hx hb dX5_pass_27 (by decide) ?_
      refine lv_iconst (v := 1) hx hb dX5_pass_28 (by decide) ?_
      refine g_cWi (k2 := 0) (n2 := 0) (g_runV (rest := []) hC (c_X5_isThrown hE (β := β) (μ := μ) (K := K) (dp := dp) (th := th) 0 1 rfl) Y_X5_isThrown k_1084 I_X5_isThrown V_X5_isThrown hR.obj rfl hR rfl hl.1 dX5_pass_29 ⟨Nat.le_of_ble_eq_true rfl, Nat.le_of_ble_eq_true rfl⟩ ⟨Nat.le_of_ble_eq_true rfl, Nat.le_of_ble_eq_true rfl⟩ rfl (Nat.le_of_ble_eq_true rfl)) hS (fun _ h => h) rfl rfl (fun r9_ H lo h10_ _ _ hS => ?_)
      obtain ⟨rfl, hR⟩ := h10_
      have hR : RM E β μ K dp 0 H := hR
      refine lv_if_eq (tgt := 37) hx hb dX5_pass_32 (by decide) (fun c11_ => ?_) (fun c11_ => ?_)
      · refine lv_aload_n hx hb dX5_pass_37 rfl (lv_at hl 0 rfl) ?_
        refine lv_dup hx hb dX5_pass_38 rfl ?_
        refine g_get (v := .int (μ 22 0)) hC hR.obj (C := RX5) (T := TX5) (N := 26) rfl u5_in 22 (by decide) k_1018 rfl dX5_pass_39 ?_
        refine lv_iload_n hx hb dX5_pass_42 rfl (lv_at hl 1 rfl) ?_
        refine lv_iadd hx hb dX5_pass_43 ?_
        refine m_putN (μ' := (up2 μ 22 0 ((μ 22 0) + d0))) (K' := K) (dp' := dp) (th' := 0) 22 (by decide) hC hR hS k_1018 rfl rfl (fun j hj => upA_n _ _ (by omega)) rfl dX5_pass_44 (fun H lo hR hS => ?_)
        refine lv_aload_n hx hb dX5_pass_47 rfl (lv_at hl 0 rfl) ?_
        refine g_get (v := .int ((μ 22 0) + d0)) hC hR.obj (C := RX5) (T := TX5) (N := 26) rfl u5_in 22 (by decide) k_1018 rfl dX5_pass_48 ?_
        exact g_iretW hC hr dX5_pass_51 hS (Nat.le_of_ble_eq_true rfl) (Nat.le_of_ble_eq_true rfl) (mPost_0 (by unfold kPass; rw [cif_neg (by grind)]) hR rfl rfl rfl)
      · exact absurd (by decide) c11_
    · refine lv_iconst (v := 1) hx hb dX5_pass_23 (by decide) ?_
      refine lv_goto (tgt := 28) hx hb dX5_pass_24 (by decide) ?_
      refine lv_iconst (v := 1) hx hb dX5_pass_28 (by decide) ?_
      refine g_cWi (k2 := 0) (n2 := 0) (g_runV (rest := []) hC (c_X5_isThrown hE (β := β) (μ := μ) (K := K) (dp := dp) (th := th) 1 1 rfl) Y_X5_isThrown k_1084 I_X5_isThrown V_X5_isThrown hR.obj rfl hR rfl hl.1 dX5_pass_29 ⟨Nat.le_of_ble_eq_true rfl, Nat.le_of_ble_eq_true rfl⟩ ⟨Nat.le_of_ble_eq_true rfl, Nat.le_of_ble_eq_true rfl⟩ rfl (Nat.le_of_ble_eq_true rfl)) hS (fun _ h => h) rfl rfl (fun r12_ H lo h13_ _ _ hS => ?_)
      obtain ⟨rfl, hR⟩ := h13_
      have hR : RM E β μ K dp 1 H := hR
      refine lv_if_eq (tgt := 37) hx hb dX5_pass_32 (by decide) (fun c14_ => ?_) (fun c14_ => ?_)
      · exact absurd c14_ (by decide)
      · refine lv_iconst (v := 0) hx hb dX5_pass_35 (by decide) ?_
        exact g_iretW hC hr dX5_pass_36 hS (Nat.le_of_ble_eq_true rfl) (Nat.le_of_ble_eq_true rfl) (mPost_k 1 (by unfold kPass; rw [cif_pos (by grind)]) (by decide) rfl hR)
set_option maxHeartbeats 4000000 in
set_option maxRecDepth 100000 in
theorem c_X5_today {l : Launch} {E : gV} (hE : gOK l E) {β : Nat → Nat} {μ : F2} {K : Nat → Nat} {dp th : Int32} (hI : MI μ K) : gM l E yX5_today cX5_today 1 (some .int) ({ frames := 0, cells := 0, slots := 0, locals := 0 } : Room) [.ref (β 19)] (fun H => RM E β μ K dp th H) (gQW (mA β) (gWi (fun r H => mPost E β μ K (0) (μ) (K) (r = μ 22 0) H))) (fun _ => False) (mA β) := by
  refine gM_body hE (by decide +kernel) (Nat.le_of_ble_eq_true rfl) ?_
  intro p_ e_ s m args below meth c hC ht hr hname hP ls hl
  have hx := hC.2.2.1
  have hb := hC.2.2.2.1
  have hl : lv_has ls 1 [(0, .ref (β 19))] := hl
  have hS : va_S ((mA β)) s.heap s.heap [] := va_S.rf
  have hR : RM E β μ K dp th s.heap := hP
  obtain ⟨hK0, hK1, hK2, hSr, hHo, hTd⟩ := hI
  refine lv_aload_n hx hb dX5_today_0 rfl (lv_at hl 0 rfl) ?_
  refine lv_iconst (v := 0) hx hb dX5_today_1 (by decide) ?_
  refine m_putN (μ' := μ) (K' := K) (dp' := dp) (th' := 0) 25 (by decide) hC hR hS k_1021 rfl rfl (fun _ _ => rfl) rfl dX5_today_2 (fun H lo hR hS => ?_)
  refine lv_aload_n hx hb dX5_today_5 rfl (lv_at hl 0 rfl) ?_
  refine g_get (v := .int (μ 22 0)) hC hR.obj (C := RX5) (T := TX5) (N := 26) rfl u5_in 22 (by decide) k_1018 rfl dX5_today_6 ?_
  exact g_iretW hC hr dX5_today_9 hS (Nat.le_of_ble_eq_true rfl) (Nat.le_of_ble_eq_true rfl) (mPost_0 rfl hR rfl rfl rfl)
set_option maxHeartbeats 4000000 in
set_option maxRecDepth 100000 in
theorem c_X5_bound {l : Launch} {E : gV} (hE : gOK l E) {β : Nat → Nat} {μ : F2} {K : Nat → Nat} {dp th : Int32} (hI : MI μ K) : gM l E yX5_bound cX5_bound 4 (some .long) ({ frames := 1, cells := 0, slots := 0, locals := 21 } : Room) [.ref (β 19)] (fun H => RM E β μ K dp th H) (gQW (mA β) (gWl (fun r H => mPost E β μ K (0) (μ) (K) (r = fBd (mw μ) (K 2)) H))) (fun _ => False) (mA β) := by
  refine gM_body hE (by decide +kernel) (Nat.le_of_ble_eq_true rfl) ?_
  intro p_ e_ s m args below meth c hC ht hr hname hP ls hl
  have hx := hC.2.2.1
  have hb := hC.2.2.2.1
  have hl : lv_has ls 4 [(0, .ref (β 19))] := hl
  have hS : va_S ((mA β)) s.heap s.heap [] := va_S.rf
  have hR : RM E β μ K dp th s.heap := hP
  obtain ⟨hK0, hK1, hK2, hSr, hHo, hTd⟩ := hI
  refine lv_aload_n hx hb dX5_bound_0 rfl (lv_at hl 0 rfl) ?_
  refine lv_iconst (v := 0) hx hb dX5_bound_1 (by decide) ?_
  refine m_putN (μ' := μ) (K' := K) (dp' := dp) (th' := 0) 25 (by decide) hC hR hS k_1021 rfl rfl (fun _ _ => rfl) rfl dX5_bound_2 (fun H lo hR hS => ?_)
  refine lv_lconst (v := 0) hx hb dX5_bound_5 (by decide) ?_
  refine lv_lstore_n (lv' := [(1, .long 0), (0, .ref (β 19))]) hx hb dX5_bound_6 rfl hl (by decide) rfl (fun ls hl => ?_)
  refine lv_iconst (v := 0) hx hb dX5_bound_7 (by decide) ?_
  refine lv_istore_n (lv' := [(3, .int 0), (1, .long 0), (0, .ref (β 19))]) hx hb dX5_bound_8 rfl hl (by decide) rfl (fun ls hl => ?_)
  have loop : ∀ (n_ : Nat) (q : Nat) (r : Int64) (H : Heap) (lo : List Loc) (ls : Array Slot), K 2 - q < n_ → (q ≤ K 2) → (r = fBd (mw μ) q) → RM E β μ K dp 0 H → va_S ((mA β)) s.heap H lo → lv_has ls 4 [(0, .ref (β 19)), (1, .long r), (3, .int (nI q))] → W p_ l e_ ({ frames := 1, cells := 0, slots := 0, locals := 21 } : Room) s m args below meth c H lo 0 0 (vx_MQ below (gQW (mA β) (gWl (fun r H => mPost E β μ K (0) (μ) (K) (r = fBd (mw μ) (K 2)) H))) (gX (fun _ => False)) args s 0 0 (mA β)) (F0 m 9 ls []) := by
    intro n_
    induction n_ with
    | zero => intro q r H lo ls h_; exact absurd h_ (Nat.not_lt_zero _)
    | succ n_ ih_loop =>
      intro q r H lo ls hn_ i1 i2 hR hS hl
      refine lv_iload_n hx hb dX5_bound_9 rfl (lv_at hl 2 rfl) ?_
      refine lv_aload_n hx hb dX5_bound_10 rfl (lv_at hl 0 rfl) ?_
      refine g_get (v := .int (nI (K 2))) hC hR.obj (C := RX5) (T := TX5) (N := 26) rfl u5_in 21 (by decide) k_1017 rfl dX5_bound_11 ?_
      refine lv_icmp_ge (tgt := 45) hx hb dX5_bound_14 (by decide) (fun c1_ => ?_) (fun c1_ => ?_)
      · have n2_ : (K 2) ≤ q := le_nI (by omega) (by omega) c1_
        refine lv_lload_n hx hb dX5_bound_45 rfl (lv_at hl 1 rfl) ?_
        exact g_lretW hC hr dX5_bound_46 hS (Nat.le_of_ble_eq_true rfl) (Nat.le_of_ble_eq_true rfl) (mPost_0 rfl hR rfl rfl (by rw [i2, show q = K 2 by omega]))
      · have n2_ : q < (K 2) := not_le_nI (by omega) (by omega) c1_
        refine lv_lload_n hx hb dX5_bound_17 rfl (lv_at hl 1 rfl) ?_
        refine lv_aload_n hx hb dX5_bound_18 rfl (lv_at hl 0 rfl) ?_
        refine lv_iload_n hx hb dX5_bound_19 rfl (lv_at hl 2 rfl) ?_
        refine g_cRi (k2 := 0) (n2 := 0) (g_runV (rest := [.long r]) hC (c_X5_isGood hE (β := β) (μ := μ) (K := K) (dp := dp) (th := 0) q (by omega)) Y_X5_isGood k_1261 I_X5_isGood V_X5_isGood hR.obj rfl hR rfl hl.1 dX5_bound_20 ⟨Nat.le_of_ble_eq_true rfl, Nat.le_of_ble_eq_true rfl⟩ ⟨Nat.le_of_ble_eq_true rfl, Nat.le_of_ble_eq_true rfl⟩ rfl (Nat.le_of_ble_eq_true rfl)) rfl rfl g_no (fun r3_ h4_ => ?_)
        refine lv_if_eq (tgt := 36) hx hb dX5_bound_23 (by decide) (fun c5_ => ?_) (fun c5_ => ?_)
        · have q6_ := bz.f h4_ c5_
          refine lv_lconst (v := 0) hx hb dX5_bound_36 (by decide) ?_
          refine lv_ladd hx hb dX5_bound_37 ?_
          refine lv_lstore_n (lv' := [(1, .long ((r) + (0))), (0, .ref (β 19)), (3, .int (nI q))]) hx hb dX5_bound_38 rfl hl (by decide) rfl (fun ls hl => ?_)
          refine lv_iinc (v := nI (q + 1)) (lv' := [(3, .int (nI (q + 1))), (1, .long ((r) + (0))), (0, .ref (β 19))]) hx hb dX5_bound_39 hl (k := 2) rfl (g_inc _) (by decide) rfl (fun ls hl => ?_)
          refine lv_goto (tgt := 9) hx hb dX5_bound_42 (by decide) ?_
          exact ih_loop (q + 1) ((r) + (0)) H lo ls (by omega) (by omega) (by rw [i2, Int64.add_zero]; exact (cif_neg (by assumption)).symm) hR hS (lv_sub hl [2, 1, 0] rfl)
        · have q6_ := bz.t h4_ c5_
          refine lv_aload_n hx hb dX5_bound_26 rfl (lv_at hl 0 rfl) ?_
          refine g_get (v := .ref (β 11)) hC hR.obj (C := RX5) (T := TX5) (N := 26) rfl u5_in 11 (by decide) k_1007 rfl dX5_bound_27 ?_
          refine lv_iload_n hx hb dX5_bound_30 rfl (lv_at hl 2 rfl) ?_
          refine g_iald (n := 24) (f := μ 11) (j := q) hC (hR.arr 11 (by decide) rfl rfl) (by omega) (by decide) dX5_bound_31 ?_
          refine lv_i2l (v := (μ 11 q).toInt64) hx hb dX5_bound_32 rfl ?_
          refine lv_goto (tgt := 37) hx hb dX5_bound_33 (by decide) ?_
          refine lv_ladd hx hb dX5_bound_37 ?_
          refine lv_lstore_n (lv' := [(1, .long ((r) + ((μ 11 q).toInt64))), (0, .ref (β 19)), (3, .int (nI q))]) hx hb dX5_bound_38 rfl hl (by decide) rfl (fun ls hl => ?_)
          refine lv_iinc (v := nI (q + 1)) (lv' := [(3, .int (nI (q + 1))), (1, .long ((r) + ((μ 11 q).toInt64))), (0, .ref (β 19))]) hx hb dX5_bound_39 hl (k := 2) rfl (g_inc _) (by decide) rfl (fun ls hl => ?_)
          refine lv_goto (tgt := 9) hx hb dX5_bound_42 (by decide) ?_
          exact ih_loop (q + 1) ((r) + ((μ 11 q).toInt64)) H lo ls (by omega) (by omega) (by rw [i2]; exact (cif_pos (by assumption)).symm) hR hS (lv_sub hl [2, 1, 0] rfl)
  exact loop ((K 2 - (0)) + 1) 0 0 H lo ls (by omega) (by omega) rfl hR hS (lv_sub hl [2, 1, 0] rfl)
set_option maxHeartbeats 4000000 in
set_option maxRecDepth 100000 in
theorem c_X5_standingShare {l : Launch} {E : gV} (hE : gOK l E) {β : Nat → Nat} {μ : F2} {K : Nat → Nat} {dp th : Int32} (hI : MI μ K) : gM l E yX5_standingShare cX5_standingShare 3 (some .float) ({ frames := 1, cells := 0, slots := 0, locals := 22 } : Room) [.ref (β 19)] (fun H => RM E β μ K dp th H) (gQW (mA β) (gWf (fun r H => mPost E β μ K (kShare (K 2)) (μ) (K) (r = FP.fdiv (FP.i2f (nI (fCnt (fun t => μ 17 t = 115 ∨ μ 17 t = 114) (K 2)))) (FP.i2f (nI (K 2)))) H))) (fun _ => False) (mA β) := by
  refine gM_body hE (by decide +kernel) (Nat.le_of_ble_eq_true rfl) ?_
  intro p_ e_ s m args below meth c hC ht hr hname hP ls hl
  have hx := hC.2.2.1
  have hb := hC.2.2.2.1
  have hl : lv_has ls 3 [(0, .ref (β 19))] := hl
  have hS : va_S ((mA β)) s.heap s.heap [] := va_S.rf
  have hR : RM E β μ K dp th s.heap := hP
  obtain ⟨hK0, hK1, hK2, hSr, hHo, hTd⟩ := hI
  refine lv_iconst (v := 0) hx hb dX5_standingShare_0 (by decide) ?_
  refine lv_istore_n (lv' := [(1, .int 0), (0, .ref (β 19))]) hx hb dX5_standingShare_1 rfl hl (by decide) rfl (fun ls hl => ?_)
  refine lv_iconst (v := 0) hx hb dX5_standingShare_2 (by decide) ?_
  refine lv_istore_n (lv' := [(2, .int 0), (1, .int 0), (0, .ref (β 19))]) hx hb dX5_standingShare_3 rfl hl (by decide) rfl (fun ls hl => ?_)
  have loop : ∀ (n_ : Nat) (q : Nat) (r : Int32) (H : Heap) (lo : List Loc) (ls : Array Slot), K 2 - q < n_ → (q ≤ K 2) → (r = nI (fCnt (fun t => μ 17 t = 115 ∨ μ 17 t = 114) q)) → RM E β μ K dp th H → va_S ((mA β)) s.heap H lo → lv_has ls 3 [(0, .ref (β 19)), (1, .int r), (2, .int (nI q))] → W p_ l e_ ({ frames := 1, cells := 0, slots := 0, locals := 22 } : Room) s m args below meth c H lo 0 0 (vx_MQ below (gQW (mA β) (gWf (fun r H => mPost E β μ K (kShare (K 2)) (μ) (K) (r = FP.fdiv (FP.i2f (nI (fCnt (fun t => μ 17 t = 115 ∨ μ 17 t = 114) (K 2)))) (FP.i2f (nI (K 2)))) H))) (gX (fun _ => False)) args s 0 0 (mA β)) (F0 m 4 ls []) := by
    intro n_
    induction n_ with
    | zero => intro q r H lo ls h_; exact absurd h_ (Nat.not_lt_zero _)
    | succ n_ ih_loop =>
      intro q r H lo ls hn_ i1 i2 hR hS hl
      refine lv_iload_n hx hb dX5_standingShare_4 rfl (lv_at hl 2 rfl) ?_
      refine lv_aload_n hx hb dX5_standingShare_5 rfl (lv_at hl 0 rfl) ?_
      refine g_get (v := .int (nI (K 2))) hC hR.obj (C := RX5) (T := TX5) (N := 26) rfl u5_in 21 (by decide) k_1017 rfl dX5_standingShare_6 ?_
      refine lv_icmp_ge (tgt := 34) hx hb dX5_standingShare_9 (by decide) (fun c1_ => ?_) (fun c1_ => ?_)
      · have n2_ : (K 2) ≤ q := le_nI (by omega) (by omega) c1_
        have hq : q = K 2 := by omega
        subst i2
        rw [hq] at hl
        have hcl := fCnt_le (fun t => μ 17 t = 115 ∨ μ 17 t = 114) (K 2)
        refine lv_aload_n hx hb dX5_standingShare_34 rfl (lv_at hl 0 rfl) ?_
        refine lv_aload_n hx hb dX5_standingShare_35 rfl (lv_at hl 0 rfl) ?_
        refine g_get (v := .int (nI (K 2))) hC hR.obj (C := RX5) (T := TX5) (N := 26) rfl u5_in 21 (by decide) k_1017 rfl dX5_standingShare_36 ?_
        refine lv_if_ne (tgt := 46) hx hb dX5_standingShare_39 (by decide) (fun c3_ => ?_) (fun c3_ => ?_)
        · have q4_ : ¬ (K 2) = 0 := fun z => c3_ (congrArg nI z)
          refine lv_iconst (v := 0) hx hb dX5_standingShare_46 (by decide) ?_
          refine lv_iconst (v := 1) hx hb dX5_standingShare_47 (by decide) ?_
          refine g_cWi (k2 := 0) (n2 := 0) (g_runV (rest := []) hC (c_X5_isThrown hE (β := β) (μ := μ) (K := K) (dp := dp) (th := th) 0 1 rfl) Y_X5_isThrown k_1084 I_X5_isThrown V_X5_isThrown hR.obj rfl hR rfl hl.1 dX5_standingShare_48 ⟨Nat.le_of_ble_eq_true rfl, Nat.le_of_ble_eq_true rfl⟩ ⟨Nat.le_of_ble_eq_true rfl, Nat.le_of_ble_eq_true rfl⟩ rfl (Nat.le_of_ble_eq_true rfl)) hS (fun _ h => h) rfl rfl (fun r5_ H lo h6_ _ _ hS => ?_)
          obtain ⟨rfl, hR⟩ := h6_
          have hR : RM E β μ K dp 0 H := hR
          refine lv_if_eq (tgt := 58) hx hb dX5_standingShare_51 (by decide) (fun c7_ => ?_) (fun c7_ => ?_)
          · refine lv_iload_n hx hb dX5_standingShare_58 rfl (lv_at hl 1 rfl) ?_
            refine lv_i2f hx hb dX5_standingShare_59 ?_
            refine lv_aload_n hx hb dX5_standingShare_60 rfl (lv_at hl 0 rfl) ?_
            refine g_get (v := .int (nI (K 2))) hC hR.obj (C := RX5) (T := TX5) (N := 26) rfl u5_in 21 (by decide) k_1017 rfl dX5_standingShare_61 ?_
            refine lv_i2f hx hb dX5_standingShare_64 ?_
            refine lv_fdiv hx hb dX5_standingShare_65 (fp_ok (by omega) (by omega) (by omega)) ?_
            exact g_fretW hC hr dX5_standingShare_66 hS (Nat.le_of_ble_eq_true rfl) (Nat.le_of_ble_eq_true rfl) (mPost_0 (by unfold kShare; rw [cif_neg (by grind)]) hR rfl rfl rfl)
          · exact absurd (by decide) c7_
        · have q4_ : (K 2) = 0 := (nI_eq (by omega) (by omega)).mp c3_
          refine lv_iconst (v := 1) hx hb dX5_standingShare_42 (by decide) ?_
          refine lv_goto (tgt := 47) hx hb dX5_standingShare_43 (by decide) ?_
          refine lv_iconst (v := 1) hx hb dX5_standingShare_47 (by decide) ?_
          refine g_cWi (k2 := 0) (n2 := 0) (g_runV (rest := []) hC (c_X5_isThrown hE (β := β) (μ := μ) (K := K) (dp := dp) (th := th) 1 1 rfl) Y_X5_isThrown k_1084 I_X5_isThrown V_X5_isThrown hR.obj rfl hR rfl hl.1 dX5_standingShare_48 ⟨Nat.le_of_ble_eq_true rfl, Nat.le_of_ble_eq_true rfl⟩ ⟨Nat.le_of_ble_eq_true rfl, Nat.le_of_ble_eq_true rfl⟩ rfl (Nat.le_of_ble_eq_true rfl)) hS (fun _ h => h) rfl rfl (fun r8_ H lo h9_ _ _ hS => ?_)
          obtain ⟨rfl, hR⟩ := h9_
          have hR : RM E β μ K dp 1 H := hR
          refine lv_if_eq (tgt := 58) hx hb dX5_standingShare_51 (by decide) (fun c10_ => ?_) (fun c10_ => ?_)
          · exact absurd c10_ (by decide)
          · refine lv_fconst0 hx hb dX5_standingShare_54 ?_
            refine lv_goto (tgt := 66) hx hb dX5_standingShare_55 (by decide) ?_
            exact g_fretW hC hr dX5_standingShare_66 hS (Nat.le_of_ble_eq_true rfl) (Nat.le_of_ble_eq_true rfl) (mPost_k 1 (by unfold kShare; rw [cif_pos (by grind)]) (by decide) rfl hR)
      · have n2_ : q < (K 2) := not_le_nI (by omega) (by omega) c1_
        refine lv_iload_n hx hb dX5_standingShare_12 rfl (lv_at hl 1 rfl) ?_
        refine lv_aload_n hx hb dX5_standingShare_13 rfl (lv_at hl 0 rfl) ?_
        refine lv_iload_n hx hb dX5_standingShare_14 rfl (lv_at hl 2 rfl) ?_
        refine g_cRi (k2 := 0) (n2 := 0) (g_runV (rest := [.int r]) hC (c_X5_isGood hE (β := β) (μ := μ) (K := K) (dp := dp) (th := th) q (by omega)) Y_X5_isGood k_1261 I_X5_isGood V_X5_isGood hR.obj rfl hR rfl hl.1 dX5_standingShare_15 ⟨Nat.le_of_ble_eq_true rfl, Nat.le_of_ble_eq_true rfl⟩ ⟨Nat.le_of_ble_eq_true rfl, Nat.le_of_ble_eq_true rfl⟩ rfl (Nat.le_of_ble_eq_true rfl)) rfl rfl g_no (fun r11_ h12_ => ?_)
        refine lv_if_eq (tgt := 25) hx hb dX5_standingShare_18 (by decide) (fun c13_ => ?_) (fun c13_ => ?_)
        · have q14_ := bz.f h12_ c13_
          refine lv_iconst (v := 0) hx hb dX5_standingShare_25 (by decide) ?_
          refine lv_iadd hx hb dX5_standingShare_26 ?_
          refine lv_istore_n (lv' := [(1, .int (r + 0)), (0, .ref (β 19)), (2, .int (nI q))]) hx hb dX5_standingShare_27 rfl hl (by decide) rfl (fun ls hl => ?_)
          refine lv_iinc (v := nI (q + 1)) (lv' := [(2, .int (nI (q + 1))), (1, .int (r + 0)), (0, .ref (β 19))]) hx hb dX5_standingShare_28 hl (k := 2) rfl (g_inc _) (by decide) rfl (fun ls hl => ?_)
          refine lv_goto (tgt := 4) hx hb dX5_standingShare_31 (by decide) ?_
          exact ih_loop (q + 1) (r + 0) H lo ls (by omega) (by omega) (by rw [i2]; exact nI_cnt_f (by assumption)) hR hS (lv_sub hl [2, 1, 0] rfl)
        · have q14_ := bz.t h12_ c13_
          refine lv_iconst (v := 1) hx hb dX5_standingShare_21 (by decide) ?_
          refine lv_goto (tgt := 26) hx hb dX5_standingShare_22 (by decide) ?_
          refine lv_iadd hx hb dX5_standingShare_26 ?_
          refine lv_istore_n (lv' := [(1, .int (r + 1)), (0, .ref (β 19)), (2, .int (nI q))]) hx hb dX5_standingShare_27 rfl hl (by decide) rfl (fun ls hl => ?_)
          refine lv_iinc (v := nI (q + 1)) (lv' := [(2, .int (nI (q + 1))), (1, .int (r + 1)), (0, .ref (β 19))]) hx hb dX5_standingShare_28 hl (k := 2) rfl (g_inc _) (by decide) rfl (fun ls hl => ?_)
          refine lv_goto (tgt := 4) hx hb dX5_standingShare_31 (by decide) ?_
          exact ih_loop (q + 1) (r + 1) H lo ls (by omega) (by omega) (by rw [i2]; exact nI_cnt_t (by assumption)) hR hS (lv_sub hl [2, 1, 0] rfl)
  exact loop ((K 2 - (0)) + 1) 0 0 s.heap [] ls (by omega) (by omega) rfl hR hS (lv_sub hl [2, 1, 0] rfl)
