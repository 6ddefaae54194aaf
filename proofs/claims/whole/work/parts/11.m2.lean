set_option maxHeartbeats 4000000 in
set_option maxRecDepth 100000 in
theorem c_X5_addPerson {l : Launch} {E : gV} (hE : gOK l E) {β : Nat → Nat} {μ : F2} {K : Nat → Nat} {dp th : Int32} (hI : MI μ K) : gM l E yX5_addPerson cX5_addPerson 1 (some .int) ({ frames := 1, cells := 0, slots := 0, locals := 22 } : Room) [.ref (β 19)] (fun H => RM E β μ K dp th H) (gQW (mA β) (gWi (fun r H => mPost E β μ K (kAdd (K 0)) (up2 μ 2 (K 0) (-1)) (updN K 0 (K 0 + 1)) (r = nI (K 0)) H))) (fun _ => False) (mA β) := by
  refine gM_body hE (by decide +kernel) (Nat.le_of_ble_eq_true rfl) ?_
  intro p_ e_ s m args below meth c hC ht hr hname hP ls hl
  have hx := hC.2.2.1
  have hb := hC.2.2.2.1
  have hl : lv_has ls 1 [(0, .ref (β 19))] := hl
  have hS : va_S ((mA β)) s.heap s.heap [] := va_S.rf
  have hR : RM E β μ K dp th s.heap := hP
  obtain ⟨hK0, hK1, hK2, hSr, hHo, hTd⟩ := hI
  refine lv_aload_n hx hb dX5_addPerson_0 rfl (lv_at hl 0 rfl) ?_
  refine lv_aload_n hx hb dX5_addPerson_1 rfl (lv_at hl 0 rfl) ?_
  refine g_get (v := .int (nI (K 0))) hC hR.obj (C := RX5) (T := TX5) (N := 26) rfl u5_in 19 (by decide) k_1015 rfl dX5_addPerson_2 ?_
  refine lv_bipush (v := 8) hx hb dX5_addPerson_5 (by decide) ?_
  refine lv_icmp_ne (tgt := 14) hx hb dX5_addPerson_7 (by decide) (fun c1_ => ?_) (fun c1_ => ?_)
  · have n2_ : ¬ (K 0) = 8 := fun z => c1_ (congrArg nI z)
    have hk8 : ¬ K 0 = 8 := fun z => c1_ (congrArg nI z)
    refine lv_iconst (v := 0) hx hb dX5_addPerson_14 (by decide) ?_
    refine lv_iconst (v := 1) hx hb dX5_addPerson_15 (by decide) ?_
    refine g_cWi (k2 := 0) (n2 := 0) (g_runV (rest := []) hC (c_X5_isThrown hE (β := β) (μ := μ) (K := K) (dp := dp) (th := th) 0 1 rfl) Y_X5_isThrown k_1084 I_X5_isThrown V_X5_isThrown hR.obj rfl hR rfl hl.1 dX5_addPerson_16 ⟨Nat.le_of_ble_eq_true rfl, Nat.le_of_ble_eq_true rfl⟩ ⟨Nat.le_of_ble_eq_true rfl, Nat.le_of_ble_eq_true rfl⟩ rfl (Nat.le_of_ble_eq_true rfl)) hS (fun _ h => h) rfl rfl (fun r3_ H lo h4_ _ _ hS => ?_)
    obtain ⟨rfl, hR⟩ := h4_
    have hR : RM E β μ K dp 0 H := hR
    refine lv_if_eq (tgt := 24) hx hb dX5_addPerson_19 (by decide) (fun c5_ => ?_) (fun c5_ => ?_)
    · refine lv_aload_n hx hb dX5_addPerson_24 rfl (lv_at hl 0 rfl) ?_
      refine g_get (v := .ref (β 2)) hC hR.obj (C := RX5) (T := TX5) (N := 26) rfl u5_in 2 (by decide) k_998 rfl dX5_addPerson_25 ?_
      refine lv_aload_n hx hb dX5_addPerson_28 rfl (lv_at hl 0 rfl) ?_
      refine g_get (v := .int (nI (K 0))) hC hR.obj (C := RX5) (T := TX5) (N := 26) rfl u5_in 19 (by decide) k_1015 rfl dX5_addPerson_29 ?_
      refine lv_iconst (v := (-1)) hx hb dX5_addPerson_32 (by decide) ?_
      refine m_iast (n := 8) (j := K 0) 2 (by decide) rfl rfl hC hR hS (by omega) dX5_addPerson_33 (fun H lo hR hS => ?_)
      refine lv_aload_n hx hb dX5_addPerson_34 rfl (lv_at hl 0 rfl) ?_
      refine lv_dup hx hb dX5_addPerson_35 rfl ?_
      refine g_get (v := .int (nI (K 0))) hC hR.obj (C := RX5) (T := TX5) (N := 26) rfl u5_in 19 (by decide) k_1015 rfl dX5_addPerson_36 ?_
      refine lv_iconst (v := 1) hx hb dX5_addPerson_39 (by decide) ?_
      refine g_iadd1 hx hb dX5_addPerson_40 ?_
      refine m_putN (μ' := (up2 μ 2 (K 0) (-1))) (K' := (updN K 0 ((K 0) + 1))) (dp' := dp) (th' := 0) 19 (by decide) hC hR hS k_1015 rfl rfl (fun _ _ => rfl) rfl dX5_addPerson_41 (fun H lo hR hS => ?_)
      refine lv_aload_n hx hb dX5_addPerson_44 rfl (lv_at hl 0 rfl) ?_
      refine g_get (v := .int (nI ((K 0) + 1))) hC hR.obj (C := RX5) (T := TX5) (N := 26) rfl u5_in 19 (by decide) k_1015 rfl dX5_addPerson_45 ?_
      refine lv_iconst (v := 1) hx hb dX5_addPerson_48 (by decide) ?_
      refine g_isub1 hx hb dX5_addPerson_49 ?_
      exact g_iretW hC hr dX5_addPerson_50 hS (Nat.le_of_ble_eq_true rfl) (Nat.le_of_ble_eq_true rfl) (mPost_0 (by unfold kAdd; rw [cif_neg (by grind)]) hR rfl rfl rfl)
    · exact absurd (by decide) c5_
  · have n2_ : (K 0) = 8 := (nI_eq (by omega) (by omega)).mp c1_
    have hk8 : K 0 = 8 := (nI_eq (by omega) (by omega)).mp c1_
    refine lv_iconst (v := 1) hx hb dX5_addPerson_10 (by decide) ?_
    refine lv_goto (tgt := 15) hx hb dX5_addPerson_11 (by decide) ?_
    refine lv_iconst (v := 1) hx hb dX5_addPerson_15 (by decide) ?_
    refine g_cWi (k2 := 0) (n2 := 0) (g_runV (rest := []) hC (c_X5_isThrown hE (β := β) (μ := μ) (K := K) (dp := dp) (th := th) 1 1 rfl) Y_X5_isThrown k_1084 I_X5_isThrown V_X5_isThrown hR.obj rfl hR rfl hl.1 dX5_addPerson_16 ⟨Nat.le_of_ble_eq_true rfl, Nat.le_of_ble_eq_true rfl⟩ ⟨Nat.le_of_ble_eq_true rfl, Nat.le_of_ble_eq_true rfl⟩ rfl (Nat.le_of_ble_eq_true rfl)) hS (fun _ h => h) rfl rfl (fun r6_ H lo h7_ _ _ hS => ?_)
    obtain ⟨rfl, hR⟩ := h7_
    have hR : RM E β μ K dp 1 H := hR
    refine lv_if_eq (tgt := 24) hx hb dX5_addPerson_19 (by decide) (fun c8_ => ?_) (fun c8_ => ?_)
    · exact absurd c8_ (by decide)
    · refine lv_iconst (v := 0) hx hb dX5_addPerson_22 (by decide) ?_
      exact g_iretW hC hr dX5_addPerson_23 hS (Nat.le_of_ble_eq_true rfl) (Nat.le_of_ble_eq_true rfl) (mPost_k 1 (by unfold kAdd; rw [cif_pos (by grind)]) (by decide) rfl hR)
set_option maxHeartbeats 4000000 in
set_option maxRecDepth 100000 in
theorem c_X5_leave {l : Launch} {E : gV} (hE : gOK l E) {β : Nat → Nat} {μ : F2} {K : Nat → Nat} {dp th : Int32} (hI : MI μ K) (p0 : Int32) (s0 : Int32) : gM l E yX5_leave cX5_leave 4 (some .int) ({ frames := 2, cells := 0, slots := 0, locals := 43 } : Room) [.ref (β 19), .int p0, .int s0] (fun H => RM E β μ K dp th H) (gQW (mA β) (gWi (fun r H => mPost E β μ K (kLeave (K 0) p0 s0) (up2 (up2 μ 0 (ix p0) 1) 2 (ix p0) s0) (K) (r = μ 2 (ix p0)) H))) (fun _ => False) (mA β) := by
  refine gM_body hE (by decide +kernel) (Nat.le_of_ble_eq_true rfl) ?_
  intro p_ e_ s m args below meth c hC ht hr hname hP ls hl
  have hx := hC.2.2.1
  have hb := hC.2.2.2.1
  have hl : lv_has ls 4 [(0, .ref (β 19)), (1, .int p0), (2, .int s0)] := hl
  have hS : va_S ((mA β)) s.heap s.heap [] := va_S.rf
  have hR : RM E β μ K dp th s.heap := hP
  obtain ⟨hK0, hK1, hK2, hSr, hHo, hTd⟩ := hI
  refine lv_aload_n hx hb dX5_leave_0 rfl (lv_at hl 0 rfl) ?_
  refine lv_aload_n hx hb dX5_leave_1 rfl (lv_at hl 0 rfl) ?_
  refine lv_iload_n hx hb dX5_leave_2 rfl (lv_at hl 1 rfl) ?_
  refine g_cRi (k2 := 0) (n2 := 0) (g_runV (rest := [.ref (β 19)]) hC (c_X5_isNobody hE (β := β) (μ := μ) (K := K) (dp := dp) (th := th) (by omega) p0) Y_X5_isNobody k_1092 I_X5_isNobody V_X5_isNobody hR.obj rfl hR rfl hl.1 dX5_leave_3 ⟨Nat.le_of_ble_eq_true rfl, Nat.le_of_ble_eq_true rfl⟩ ⟨Nat.le_of_ble_eq_true rfl, Nat.le_of_ble_eq_true rfl⟩ rfl (Nat.le_of_ble_eq_true rfl)) rfl rfl g_no (fun r1_ h2_ => ?_)
  refine lv_if_ne (tgt := 22) hx hb dX5_leave_6 (by decide) (fun c3_ => ?_) (fun c3_ => ?_)
  · have q4_ := bz.t h2_ c3_
    refine lv_iconst (v := 1) hx hb dX5_leave_22 (by decide) ?_
    refine lv_goto (tgt := 27) hx hb dX5_leave_23 (by decide) ?_
    refine lv_iconst (v := 1) hx hb dX5_leave_27 (by decide) ?_
    refine g_cWi (k2 := 0) (n2 := 0) (g_runV (rest := []) hC (c_X5_isThrown hE (β := β) (μ := μ) (K := K) (dp := dp) (th := th) 1 1 rfl) Y_X5_isThrown k_1084 I_X5_isThrown V_X5_isThrown hR.obj rfl hR rfl hl.1 dX5_leave_28 ⟨Nat.le_of_ble_eq_true rfl, Nat.le_of_ble_eq_true rfl⟩ ⟨Nat.le_of_ble_eq_true rfl, Nat.le_of_ble_eq_true rfl⟩ rfl (Nat.le_of_ble_eq_true rfl)) hS (fun _ h => h) rfl rfl (fun r5_ H lo h6_ _ _ hS => ?_)
    obtain ⟨rfl, hR⟩ := h6_
    have hR : RM E β μ K dp 1 H := hR
    refine lv_if_ne (tgt := 52) hx hb dX5_leave_31 (by decide) (fun c7_ => ?_) (fun c7_ => ?_)
    · refine lv_iconst (v := 0) hx hb dX5_leave_52 (by decide) ?_
      exact g_iretW hC hr dX5_leave_53 hS (Nat.le_of_ble_eq_true rfl) (Nat.le_of_ble_eq_true rfl) (mPost_k 1 (by unfold kLeave; rw [cif_pos (by grind)]) (by decide) rfl hR)
    · exact absurd c7_ (by decide)
  · have q4_ := bz.f h2_ c3_
    refine lv_iload_n hx hb dX5_leave_9 rfl (lv_at hl 2 rfl) ?_
    refine lv_iconst (v := (-1)) hx hb dX5_leave_10 (by decide) ?_
    refine lv_icmp_eq (tgt := 26) hx hb dX5_leave_11 (by decide) (fun c8_ => ?_) (fun c8_ => ?_)
    · refine lv_iconst (v := 0) hx hb dX5_leave_26 (by decide) ?_
      refine lv_iconst (v := 1) hx hb dX5_leave_27 (by decide) ?_
      refine g_cWi (k2 := 0) (n2 := 0) (g_runV (rest := []) hC (c_X5_isThrown hE (β := β) (μ := μ) (K := K) (dp := dp) (th := th) 0 1 rfl) Y_X5_isThrown k_1084 I_X5_isThrown V_X5_isThrown hR.obj rfl hR rfl hl.1 dX5_leave_28 ⟨Nat.le_of_ble_eq_true rfl, Nat.le_of_ble_eq_true rfl⟩ ⟨Nat.le_of_ble_eq_true rfl, Nat.le_of_ble_eq_true rfl⟩ rfl (Nat.le_of_ble_eq_true rfl)) hS (fun _ h => h) rfl rfl (fun r9_ H lo h10_ _ _ hS => ?_)
      obtain ⟨rfl, hR⟩ := h10_
      have hR : RM E β μ K dp 0 H := hR
      refine lv_if_ne (tgt := 52) hx hb dX5_leave_31 (by decide) (fun c11_ => ?_) (fun c11_ => ?_)
      · exact absurd c11_ (by decide)
      · refine lv_aload_n hx hb dX5_leave_34 rfl (lv_at hl 0 rfl) ?_
        refine lv_iload_n hx hb dX5_leave_35 rfl (lv_at hl 1 rfl) ?_
        refine lv_iload_n hx hb dX5_leave_36 rfl (lv_at hl 2 rfl) ?_
        refine lv_icmp_ne (tgt := 44) hx hb dX5_leave_37 (by decide) (fun c12_ => ?_) (fun c12_ => ?_)
        · refine lv_iconst (v := 0) hx hb dX5_leave_44 (by decide) ?_
          refine lv_iconst (v := 2) hx hb dX5_leave_45 (by decide) ?_
          refine g_cWi (k2 := 0) (n2 := 0) (g_runV (rest := []) hC (c_X5_isThrown hE (β := β) (μ := μ) (K := K) (dp := dp) (th := 0) 0 2 rfl) Y_X5_isThrown k_1084 I_X5_isThrown V_X5_isThrown hR.obj rfl hR rfl hl.1 dX5_leave_46 ⟨Nat.le_of_ble_eq_true rfl, Nat.le_of_ble_eq_true rfl⟩ ⟨Nat.le_of_ble_eq_true rfl, Nat.le_of_ble_eq_true rfl⟩ rfl (Nat.le_of_ble_eq_true rfl)) hS (fun _ h => h) rfl rfl (fun r13_ H lo h14_ _ _ hS => ?_)
          obtain ⟨rfl, hR⟩ := h14_
          have hR : RM E β μ K dp 0 H := hR
          refine lv_if_eq (tgt := 54) hx hb dX5_leave_49 (by decide) (fun c15_ => ?_) (fun c15_ => ?_)
          · refine lv_aload_n hx hb dX5_leave_54 rfl (lv_at hl 0 rfl) ?_
            refine g_get (v := .ref (β 2)) hC hR.obj (C := RX5) (T := TX5) (N := 26) rfl u5_in 2 (by decide) k_998 rfl dX5_leave_55 ?_
            refine lv_iload_n hx hb dX5_leave_58 rfl (lv_at hl 1 rfl) ?_
            obtain ⟨j_p0, hj_p0, rfl⟩ := isP_of (n := K 0) (p := p0) (by first | exact Classical.not_not.mp (by assumption) | assumption) (by omega)
            have ej_p0 : (nI j_p0).toNatClampNeg = j_p0 := nI_clamp (by omega)
            have ipj_p0 : isP (K 0) (nI j_p0) := isP_nI hj_p0 (by omega)
            refine g_iald (n := 8) (f := μ 2) (j := j_p0) hC (hR.arr 2 (by decide) rfl rfl) (by omega) (by decide) dX5_leave_59 ?_
            refine lv_istore_n (lv' := [(3, .int (μ 2 j_p0)), (0, .ref (β 19)), (1, .int (nI j_p0)), (2, .int s0)]) hx hb dX5_leave_60 rfl hl (by decide) rfl (fun ls hl => ?_)
            refine lv_aload_n hx hb dX5_leave_61 rfl (lv_at hl 1 rfl) ?_
            refine g_get (v := .ref (β 0)) hC hR.obj (C := RX5) (T := TX5) (N := 26) rfl u5_in 0 (by decide) k_996 rfl dX5_leave_62 ?_
            refine lv_iload_n hx hb dX5_leave_65 rfl (lv_at hl 2 rfl) ?_
            refine lv_iconst (v := 1) hx hb dX5_leave_66 (by decide) ?_
            refine m_zast (n := 8) (j := j_p0) 0 (by decide) rfl rfl hC hR hS (by omega) rfl dX5_leave_67 (fun H lo hR hS => ?_)
            refine lv_aload_n hx hb dX5_leave_68 rfl (lv_at hl 1 rfl) ?_
            refine g_get (v := .ref (β 2)) hC hR.obj (C := RX5) (T := TX5) (N := 26) rfl u5_in 2 (by decide) k_998 rfl dX5_leave_69 ?_
            refine lv_iload_n hx hb dX5_leave_72 rfl (lv_at hl 2 rfl) ?_
            refine lv_iload_n hx hb dX5_leave_73 rfl (lv_at hl 3 rfl) ?_
            refine m_iast (n := 8) (j := j_p0) 2 (by decide) rfl rfl hC hR hS (by omega) dX5_leave_74 (fun H lo hR hS => ?_)
            refine lv_iload_n hx hb dX5_leave_75 rfl (lv_at hl 0 rfl) ?_
            exact g_iretW hC hr dX5_leave_76 hS (Nat.le_of_ble_eq_true rfl) (Nat.le_of_ble_eq_true rfl) (mPost_0 (by unfold kLeave; rw [cif_neg (by first | grind | (simp only [ix, ej_p0, mv, mw]; grind)), cif_neg (by first | grind | (simp only [ix, ej_p0, mv, mw]; grind))]) hR (by simp only [ix, ej_p0]) rfl (by simp only [ix, ej_p0]))
          · exact absurd (by decide) c15_
        · refine lv_iconst (v := 1) hx hb dX5_leave_40 (by decide) ?_
          refine lv_goto (tgt := 45) hx hb dX5_leave_41 (by decide) ?_
          refine lv_iconst (v := 2) hx hb dX5_leave_45 (by decide) ?_
          refine g_cWi (k2 := 0) (n2 := 0) (g_runV (rest := []) hC (c_X5_isThrown hE (β := β) (μ := μ) (K := K) (dp := dp) (th := 0) 1 2 rfl) Y_X5_isThrown k_1084 I_X5_isThrown V_X5_isThrown hR.obj rfl hR rfl hl.1 dX5_leave_46 ⟨Nat.le_of_ble_eq_true rfl, Nat.le_of_ble_eq_true rfl⟩ ⟨Nat.le_of_ble_eq_true rfl, Nat.le_of_ble_eq_true rfl⟩ rfl (Nat.le_of_ble_eq_true rfl)) hS (fun _ h => h) rfl rfl (fun r16_ H lo h17_ _ _ hS => ?_)
          obtain ⟨rfl, hR⟩ := h17_
          have hR : RM E β μ K dp 2 H := hR
          refine lv_if_eq (tgt := 54) hx hb dX5_leave_49 (by decide) (fun c18_ => ?_) (fun c18_ => ?_)
          · exact absurd c18_ (by decide)
          · refine lv_iconst (v := 0) hx hb dX5_leave_52 (by decide) ?_
            exact g_iretW hC hr dX5_leave_53 hS (Nat.le_of_ble_eq_true rfl) (Nat.le_of_ble_eq_true rfl) (mPost_k 2 (by unfold kLeave; rw [cif_neg (by grind), cif_pos (by grind)]) (by decide) rfl hR)
    · refine lv_aload_n hx hb dX5_leave_14 rfl (lv_at hl 0 rfl) ?_
      refine lv_iload_n hx hb dX5_leave_15 rfl (lv_at hl 2 rfl) ?_
      refine g_cRi (k2 := 0) (n2 := 0) (g_runV (rest := [.ref (β 19)]) hC (c_X5_isNobody hE (β := β) (μ := μ) (K := K) (dp := dp) (th := th) (by omega) s0) Y_X5_isNobody k_1092 I_X5_isNobody V_X5_isNobody hR.obj rfl hR rfl hl.1 dX5_leave_16 ⟨Nat.le_of_ble_eq_true rfl, Nat.le_of_ble_eq_true rfl⟩ ⟨Nat.le_of_ble_eq_true rfl, Nat.le_of_ble_eq_true rfl⟩ rfl (Nat.le_of_ble_eq_true rfl)) rfl rfl g_no (fun r19_ h20_ => ?_)
      refine lv_if_eq (tgt := 26) hx hb dX5_leave_19 (by decide) (fun c21_ => ?_) (fun c21_ => ?_)
      · have q22_ := bz.f h20_ c21_
        refine lv_iconst (v := 0) hx hb dX5_leave_26 (by decide) ?_
        refine lv_iconst (v := 1) hx hb dX5_leave_27 (by decide) ?_
        refine g_cWi (k2 := 0) (n2 := 0) (g_runV (rest := []) hC (c_X5_isThrown hE (β := β) (μ := μ) (K := K) (dp := dp) (th := th) 0 1 rfl) Y_X5_isThrown k_1084 I_X5_isThrown V_X5_isThrown hR.obj rfl hR rfl hl.1 dX5_leave_28 ⟨Nat.le_of_ble_eq_true rfl, Nat.le_of_ble_eq_true rfl⟩ ⟨Nat.le_of_ble_eq_true rfl, Nat.le_of_ble_eq_true rfl⟩ rfl (Nat.le_of_ble_eq_true rfl)) hS (fun _ h => h) rfl rfl (fun r23_ H lo h24_ _ _ hS => ?_)
        obtain ⟨rfl, hR⟩ := h24_
        have hR : RM E β μ K dp 0 H := hR
        refine lv_if_ne (tgt := 52) hx hb dX5_leave_31 (by decide) (fun c25_ => ?_) (fun c25_ => ?_)
        · exact absurd c25_ (by decide)
        · refine lv_aload_n hx hb dX5_leave_34 rfl (lv_at hl 0 rfl) ?_
          refine lv_iload_n hx hb dX5_leave_35 rfl (lv_at hl 1 rfl) ?_
          refine lv_iload_n hx hb dX5_leave_36 rfl (lv_at hl 2 rfl) ?_
          refine lv_icmp_ne (tgt := 44) hx hb dX5_leave_37 (by decide) (fun c26_ => ?_) (fun c26_ => ?_)
          · refine lv_iconst (v := 0) hx hb dX5_leave_44 (by decide) ?_
            refine lv_iconst (v := 2) hx hb dX5_leave_45 (by decide) ?_
            refine g_cWi (k2 := 0) (n2 := 0) (g_runV (rest := []) hC (c_X5_isThrown hE (β := β) (μ := μ) (K := K) (dp := dp) (th := 0) 0 2 rfl) Y_X5_isThrown k_1084 I_X5_isThrown V_X5_isThrown hR.obj rfl hR rfl hl.1 dX5_leave_46 ⟨Nat.le_of_ble_eq_true rfl, Nat.le_of_ble_eq_true rfl⟩ ⟨Nat.le_of_ble_eq_true rfl, Nat.le_of_ble_eq_true rfl⟩ rfl (Nat.le_of_ble_eq_true rfl)) hS (fun _ h => h) rfl rfl (fun r27_ H lo h28_ _ _ hS => ?_)
            obtain ⟨rfl, hR⟩ := h28_
            have hR : RM E β μ K dp 0 H := hR
            refine lv_if_eq (tgt := 54) hx hb dX5_leave_49 (by decide) (fun c29_ => ?_) (fun c29_ => ?_)
            · refine lv_aload_n hx hb dX5_leave_54 rfl (lv_at hl 0 rfl) ?_
              refine g_get (v := .ref (β 2)) hC hR.obj (C := RX5) (T := TX5) (N := 26) rfl u5_in 2 (by decide) k_998 rfl dX5_leave_55 ?_
              refine lv_iload_n hx hb dX5_leave_58 rfl (lv_at hl 1 rfl) ?_
              obtain ⟨j_p0, hj_p0, rfl⟩ := isP_of (n := K 0) (p := p0) (by first | exact Classical.not_not.mp (by assumption) | assumption) (by omega)
              have ej_p0 : (nI j_p0).toNatClampNeg = j_p0 := nI_clamp (by omega)
              have ipj_p0 : isP (K 0) (nI j_p0) := isP_nI hj_p0 (by omega)
              refine g_iald (n := 8) (f := μ 2) (j := j_p0) hC (hR.arr 2 (by decide) rfl rfl) (by omega) (by decide) dX5_leave_59 ?_
              refine lv_istore_n (lv' := [(3, .int (μ 2 j_p0)), (0, .ref (β 19)), (1, .int (nI j_p0)), (2, .int s0)]) hx hb dX5_leave_60 rfl hl (by decide) rfl (fun ls hl => ?_)
              refine lv_aload_n hx hb dX5_leave_61 rfl (lv_at hl 1 rfl) ?_
              refine g_get (v := .ref (β 0)) hC hR.obj (C := RX5) (T := TX5) (N := 26) rfl u5_in 0 (by decide) k_996 rfl dX5_leave_62 ?_
              refine lv_iload_n hx hb dX5_leave_65 rfl (lv_at hl 2 rfl) ?_
              refine lv_iconst (v := 1) hx hb dX5_leave_66 (by decide) ?_
              refine m_zast (n := 8) (j := j_p0) 0 (by decide) rfl rfl hC hR hS (by omega) rfl dX5_leave_67 (fun H lo hR hS => ?_)
              refine lv_aload_n hx hb dX5_leave_68 rfl (lv_at hl 1 rfl) ?_
              refine g_get (v := .ref (β 2)) hC hR.obj (C := RX5) (T := TX5) (N := 26) rfl u5_in 2 (by decide) k_998 rfl dX5_leave_69 ?_
              refine lv_iload_n hx hb dX5_leave_72 rfl (lv_at hl 2 rfl) ?_
              refine lv_iload_n hx hb dX5_leave_73 rfl (lv_at hl 3 rfl) ?_
              refine m_iast (n := 8) (j := j_p0) 2 (by decide) rfl rfl hC hR hS (by omega) dX5_leave_74 (fun H lo hR hS => ?_)
              refine lv_iload_n hx hb dX5_leave_75 rfl (lv_at hl 0 rfl) ?_
              exact g_iretW hC hr dX5_leave_76 hS (Nat.le_of_ble_eq_true rfl) (Nat.le_of_ble_eq_true rfl) (mPost_0 (by unfold kLeave; rw [cif_neg (by first | grind | (simp only [ix, ej_p0, mv, mw]; grind)), cif_neg (by first | grind | (simp only [ix, ej_p0, mv, mw]; grind))]) hR (by simp only [ix, ej_p0]) rfl (by simp only [ix, ej_p0]))
            · exact absurd (by decide) c29_
          · refine lv_iconst (v := 1) hx hb dX5_leave_40 (by decide) ?_
            refine lv_goto (tgt := 45) hx hb dX5_leave_41 (by decide) ?_
            refine lv_iconst (v := 2) hx hb dX5_leave_45 (by decide) ?_
            refine g_cWi (k2 := 0) (n2 := 0) (g_runV (rest := []) hC (c_X5_isThrown hE (β := β) (μ := μ) (K := K) (dp := dp) (th := 0) 1 2 rfl) Y_X5_isThrown k_1084 I_X5_isThrown V_X5_isThrown hR.obj rfl hR rfl hl.1 dX5_leave_46 ⟨Nat.le_of_ble_eq_true rfl, Nat.le_of_ble_eq_true rfl⟩ ⟨Nat.le_of_ble_eq_true rfl, Nat.le_of_ble_eq_true rfl⟩ rfl (Nat.le_of_ble_eq_true rfl)) hS (fun _ h => h) rfl rfl (fun r30_ H lo h31_ _ _ hS => ?_)
            obtain ⟨rfl, hR⟩ := h31_
            have hR : RM E β μ K dp 2 H := hR
            refine lv_if_eq (tgt := 54) hx hb dX5_leave_49 (by decide) (fun c32_ => ?_) (fun c32_ => ?_)
            · exact absurd c32_ (by decide)
            · refine lv_iconst (v := 0) hx hb dX5_leave_52 (by decide) ?_
              exact g_iretW hC hr dX5_leave_53 hS (Nat.le_of_ble_eq_true rfl) (Nat.le_of_ble_eq_true rfl) (mPost_k 2 (by unfold kLeave; rw [cif_neg (by grind), cif_pos (by grind)]) (by decide) rfl hR)
      · have q22_ := bz.t h20_ c21_
        refine lv_iconst (v := 1) hx hb dX5_leave_22 (by decide) ?_
        refine lv_goto (tgt := 27) hx hb dX5_leave_23 (by decide) ?_
        refine lv_iconst (v := 1) hx hb dX5_leave_27 (by decide) ?_
        refine g_cWi (k2 := 0) (n2 := 0) (g_runV (rest := []) hC (c_X5_isThrown hE (β := β) (μ := μ) (K := K) (dp := dp) (th := th) 1 1 rfl) Y_X5_isThrown k_1084 I_X5_isThrown V_X5_isThrown hR.obj rfl hR rfl hl.1 dX5_leave_28 ⟨Nat.le_of_ble_eq_true rfl, Nat.le_of_ble_eq_true rfl⟩ ⟨Nat.le_of_ble_eq_true rfl, Nat.le_of_ble_eq_true rfl⟩ rfl (Nat.le_of_ble_eq_true rfl)) hS (fun _ h => h) rfl rfl (fun r33_ H lo h34_ _ _ hS => ?_)
        obtain ⟨rfl, hR⟩ := h34_
        have hR : RM E β μ K dp 1 H := hR
        refine lv_if_ne (tgt := 52) hx hb dX5_leave_31 (by decide) (fun c35_ => ?_) (fun c35_ => ?_)
        · refine lv_iconst (v := 0) hx hb dX5_leave_52 (by decide) ?_
          exact g_iretW hC hr dX5_leave_53 hS (Nat.le_of_ble_eq_true rfl) (Nat.le_of_ble_eq_true rfl) (mPost_k 1 (by unfold kLeave; rw [cif_pos (by grind)]) (by decide) rfl hR)
        · exact absurd c35_ (by decide)
set_option maxHeartbeats 4000000 in
set_option maxRecDepth 100000 in
theorem c_X5_comeBack {l : Launch} {E : gV} (hE : gOK l E) {β : Nat → Nat} {μ : F2} {K : Nat → Nat} {dp th : Int32} (hI : MI μ K) (p0 : Int32) : gM l E yX5_comeBack cX5_comeBack 3 (some .int) ({ frames := 2, cells := 0, slots := 0, locals := 43 } : Room) [.ref (β 19), .int p0] (fun H => RM E β μ K dp th H) (gQW (mA β) (gWi (fun r H => mPost E β μ K (kBack (μ 0 (ix p0) = 0) (K 0) p0) (up2 (up2 μ 0 (ix p0) 0) 2 (ix p0) (-1)) (K) (r = μ 2 (ix p0)) H))) (fun _ => False) (mA β) := by
  refine gM_body hE (by decide +kernel) (Nat.le_of_ble_eq_true rfl) ?_
  intro p_ e_ s m args below meth c hC ht hr hname hP ls hl
  have hx := hC.2.2.1
  have hb := hC.2.2.2.1
  have hl : lv_has ls 3 [(0, .ref (β 19)), (1, .int p0)] := hl
  have hS : va_S ((mA β)) s.heap s.heap [] := va_S.rf
  have hR : RM E β μ K dp th s.heap := hP
  obtain ⟨hK0, hK1, hK2, hSr, hHo, hTd⟩ := hI
  refine lv_aload_n hx hb dX5_comeBack_0 rfl (lv_at hl 0 rfl) ?_
  refine lv_aload_n hx hb dX5_comeBack_1 rfl (lv_at hl 0 rfl) ?_
  refine lv_iload_n hx hb dX5_comeBack_2 rfl (lv_at hl 1 rfl) ?_
  refine g_cRi (k2 := 0) (n2 := 0) (g_runV (rest := [.ref (β 19)]) hC (c_X5_isNobody hE (β := β) (μ := μ) (K := K) (dp := dp) (th := th) (by omega) p0) Y_X5_isNobody k_1092 I_X5_isNobody V_X5_isNobody hR.obj rfl hR rfl hl.1 dX5_comeBack_3 ⟨Nat.le_of_ble_eq_true rfl, Nat.le_of_ble_eq_true rfl⟩ ⟨Nat.le_of_ble_eq_true rfl, Nat.le_of_ble_eq_true rfl⟩ rfl (Nat.le_of_ble_eq_true rfl)) rfl rfl g_no (fun r1_ h2_ => ?_)
  refine lv_iconst (v := 1) hx hb dX5_comeBack_6 (by decide) ?_
  refine g_cWi (k2 := 0) (n2 := 0) (g_runV (rest := []) hC (c_X5_isThrown hE (β := β) (μ := μ) (K := K) (dp := dp) (th := th) r1_ 1 (bz.nar h2_)) Y_X5_isThrown k_1084 I_X5_isThrown V_X5_isThrown hR.obj rfl hR rfl hl.1 dX5_comeBack_7 ⟨Nat.le_of_ble_eq_true rfl, Nat.le_of_ble_eq_true rfl⟩ ⟨Nat.le_of_ble_eq_true rfl, Nat.le_of_ble_eq_true rfl⟩ rfl (Nat.le_of_ble_eq_true rfl)) hS (fun _ h => h) rfl rfl (fun r3_ H lo h4_ _ _ hS => ?_)
  obtain ⟨rfl, hR⟩ := h4_
  refine lv_if_ne (tgt := 35) hx hb dX5_comeBack_10 (by decide) (fun c5_ => ?_) (fun c5_ => ?_)
  · have q6_ := bz.t h2_ c5_
    rw [thr_1 c5_] at hR
    refine lv_iconst (v := 0) hx hb dX5_comeBack_35 (by decide) ?_
    exact g_iretW hC hr dX5_comeBack_36 hS (Nat.le_of_ble_eq_true rfl) (Nat.le_of_ble_eq_true rfl) (mPost_k 1 (by unfold kBack; rw [cif_pos (by grind)]) (by decide) rfl hR)
  · have q6_ := bz.f h2_ c5_
    rw [thr_0 c5_] at hR
    refine lv_aload_n hx hb dX5_comeBack_13 rfl (lv_at hl 0 rfl) ?_
    refine lv_aload_n hx hb dX5_comeBack_14 rfl (lv_at hl 0 rfl) ?_
    refine g_get (v := .ref (β 0)) hC hR.obj (C := RX5) (T := TX5) (N := 26) rfl u5_in 0 (by decide) k_996 rfl dX5_comeBack_15 ?_
    refine lv_iload_n hx hb dX5_comeBack_18 rfl (lv_at hl 1 rfl) ?_
    obtain ⟨j_p0, hj_p0, rfl⟩ := isP_of (n := K 0) (p := p0) (by first | exact Classical.not_not.mp (by assumption) | assumption) (by omega)
    have ej_p0 : (nI j_p0).toNatClampNeg = j_p0 := nI_clamp (by omega)
    have ipj_p0 : isP (K 0) (nI j_p0) := isP_nI hj_p0 (by omega)
    refine g_zald (n := 8) (f := μ 0) (j := j_p0) hC (hR.arr 0 (by decide) rfl rfl) (by omega) (by decide) dX5_comeBack_19 ?_
    refine lv_if_ne (tgt := 27) hx hb dX5_comeBack_20 (by decide) (fun c7_ => ?_) (fun c7_ => ?_)
    · refine lv_iconst (v := 0) hx hb dX5_comeBack_27 (by decide) ?_
      refine lv_iconst (v := 2) hx hb dX5_comeBack_28 (by decide) ?_
      refine g_cWi (k2 := 0) (n2 := 0) (g_runV (rest := []) hC (c_X5_isThrown hE (β := β) (μ := μ) (K := K) (dp := dp) (th := 0) 0 2 rfl) Y_X5_isThrown k_1084 I_X5_isThrown V_X5_isThrown hR.obj rfl hR rfl hl.1 dX5_comeBack_29 ⟨Nat.le_of_ble_eq_true rfl, Nat.le_of_ble_eq_true rfl⟩ ⟨Nat.le_of_ble_eq_true rfl, Nat.le_of_ble_eq_true rfl⟩ rfl (Nat.le_of_ble_eq_true rfl)) hS (fun _ h => h) rfl rfl (fun r9_ H lo h10_ _ _ hS => ?_)
      obtain ⟨rfl, hR⟩ := h10_
      have hR : RM E β μ K dp 0 H := hR
      refine lv_if_eq (tgt := 37) hx hb dX5_comeBack_32 (by decide) (fun c11_ => ?_) (fun c11_ => ?_)
      · refine lv_aload_n hx hb dX5_comeBack_37 rfl (lv_at hl 0 rfl) ?_
        refine g_get (v := .ref (β 2)) hC hR.obj (C := RX5) (T := TX5) (N := 26) rfl u5_in 2 (by decide) k_998 rfl dX5_comeBack_38 ?_
        refine lv_iload_n hx hb dX5_comeBack_41 rfl (lv_at hl 1 rfl) ?_
        refine g_iald (n := 8) (f := μ 2) (j := j_p0) hC (hR.arr 2 (by decide) rfl rfl) (by omega) (by decide) dX5_comeBack_42 ?_
        refine lv_istore_n (lv' := [(2, .int (μ 2 j_p0)), (0, .ref (β 19)), (1, .int (nI j_p0))]) hx hb dX5_comeBack_43 rfl hl (by decide) rfl (fun ls hl => ?_)
        refine lv_aload_n hx hb dX5_comeBack_44 rfl (lv_at hl 1 rfl) ?_
        refine g_get (v := .ref (β 0)) hC hR.obj (C := RX5) (T := TX5) (N := 26) rfl u5_in 0 (by decide) k_996 rfl dX5_comeBack_45 ?_
        refine lv_iload_n hx hb dX5_comeBack_48 rfl (lv_at hl 2 rfl) ?_
        refine lv_iconst (v := 0) hx hb dX5_comeBack_49 (by decide) ?_
        refine m_zast (n := 8) (j := j_p0) 0 (by decide) rfl rfl hC hR hS (by omega) rfl dX5_comeBack_50 (fun H lo hR hS => ?_)
        refine lv_aload_n hx hb dX5_comeBack_51 rfl (lv_at hl 1 rfl) ?_
        refine g_get (v := .ref (β 2)) hC hR.obj (C := RX5) (T := TX5) (N := 26) rfl u5_in 2 (by decide) k_998 rfl dX5_comeBack_52 ?_
        refine lv_iload_n hx hb dX5_comeBack_55 rfl (lv_at hl 2 rfl) ?_
        refine lv_iconst (v := (-1)) hx hb dX5_comeBack_56 (by decide) ?_
        refine m_iast (n := 8) (j := j_p0) 2 (by decide) rfl rfl hC hR hS (by omega) dX5_comeBack_57 (fun H lo hR hS => ?_)
        refine lv_iload_n hx hb dX5_comeBack_58 rfl (lv_at hl 0 rfl) ?_
        exact g_iretW hC hr dX5_comeBack_59 hS (Nat.le_of_ble_eq_true rfl) (Nat.le_of_ble_eq_true rfl) (mPost_0 (by unfold kBack; rw [cif_neg (by first | grind | (simp only [ix, ej_p0, mv, mw]; grind)), cif_neg (by first | grind | (simp only [ix, ej_p0, mv, mw]; grind))]) hR (by simp only [ix, ej_p0]) rfl (by simp only [ix, ej_p0]))
      · exact absurd (by decide) c11_
    · refine lv_iconst (v := 1) hx hb dX5_comeBack_23 (by decide) ?_
      refine lv_goto (tgt := 28) hx hb dX5_comeBack_24 (by decide) ?_
      refine lv_iconst (v := 2) hx hb dX5_comeBack_28 (by decide) ?_
      refine g_cWi (k2 := 0) (n2 := 0) (g_runV (rest := []) hC (c_X5_isThrown hE (β := β) (μ := μ) (K := K) (dp := dp) (th := 0) 1 2 rfl) Y_X5_isThrown k_1084 I_X5_isThrown V_X5_isThrown hR.obj rfl hR rfl hl.1 dX5_comeBack_29 ⟨Nat.le_of_ble_eq_true rfl, Nat.le_of_ble_eq_true rfl⟩ ⟨Nat.le_of_ble_eq_true rfl, Nat.le_of_ble_eq_true rfl⟩ rfl (Nat.le_of_ble_eq_true rfl)) hS (fun _ h => h) rfl rfl (fun r12_ H lo h13_ _ _ hS => ?_)
      obtain ⟨rfl, hR⟩ := h13_
      have hR : RM E β μ K dp 2 H := hR
      refine lv_if_eq (tgt := 37) hx hb dX5_comeBack_32 (by decide) (fun c14_ => ?_) (fun c14_ => ?_)
      · exact absurd c14_ (by decide)
      · refine lv_iconst (v := 0) hx hb dX5_comeBack_35 (by decide) ?_
        exact g_iretW hC hr dX5_comeBack_36 hS (Nat.le_of_ble_eq_true rfl) (Nat.le_of_ble_eq_true rfl) (mPost_k 2 (by unfold kBack; rw [cif_neg (by first | grind | (simp only [ix, ej_p0, mv, mw]; grind)), cif_pos (by first | grind | (simp only [ix, ej_p0, mv, mw]; grind))]) (by decide) rfl hR)
set_option maxHeartbeats 4000000 in
set_option maxRecDepth 100000 in
theorem c_X5_actsFor {l : Launch} {E : gV} (hE : gOK l E) {β : Nat → Nat} {μ : F2} {K : Nat → Nat} {dp th : Int32} (hI : MI μ K) (p0 : Int32) (o0 : Int32) : gM l E yX5_actsFor cX5_actsFor 3 (some .boolean) ({ frames := 2, cells := 0, slots := 0, locals := 43 } : Room) [.ref (β 19), .int p0, .int o0] (fun H => RM E β μ K dp th H) (gQW (mA β) (gWi (fun r H => mPost E β μ K (kActs (K 0) p0 o0) (μ) (K) (bz (fAct (mv μ) p0 o0) r) H))) (fun _ => False) (mA β) := by
  refine gM_body hE (by decide +kernel) (Nat.le_of_ble_eq_true rfl) ?_
  intro p_ e_ s m args below meth c hC ht hr hname hP ls hl
  have hx := hC.2.2.1
  have hb := hC.2.2.2.1
  have hl : lv_has ls 3 [(0, .ref (β 19)), (1, .int p0), (2, .int o0)] := hl
  have hS : va_S ((mA β)) s.heap s.heap [] := va_S.rf
  have hR : RM E β μ K dp th s.heap := hP
  obtain ⟨hK0, hK1, hK2, hSr, hHo, hTd⟩ := hI
  refine lv_aload_n hx hb dX5_actsFor_0 rfl (lv_at hl 0 rfl) ?_
  refine lv_aload_n hx hb dX5_actsFor_1 rfl (lv_at hl 0 rfl) ?_
  refine lv_iload_n hx hb dX5_actsFor_2 rfl (lv_at hl 1 rfl) ?_
  refine g_cRi (k2 := 0) (n2 := 0) (g_runV (rest := [.ref (β 19)]) hC (c_X5_isNobody hE (β := β) (μ := μ) (K := K) (dp := dp) (th := th) (by omega) p0) Y_X5_isNobody k_1092 I_X5_isNobody V_X5_isNobody hR.obj rfl hR rfl hl.1 dX5_actsFor_3 ⟨Nat.le_of_ble_eq_true rfl, Nat.le_of_ble_eq_true rfl⟩ ⟨Nat.le_of_ble_eq_true rfl, Nat.le_of_ble_eq_true rfl⟩ rfl (Nat.le_of_ble_eq_true rfl)) rfl rfl g_no (fun r1_ h2_ => ?_)
  refine lv_if_ne (tgt := 17) hx hb dX5_actsFor_6 (by decide) (fun c3_ => ?_) (fun c3_ => ?_)
  · have q4_ := bz.t h2_ c3_
    refine lv_iconst (v := 1) hx hb dX5_actsFor_17 (by decide) ?_
    refine lv_goto (tgt := 22) hx hb dX5_actsFor_18 (by decide) ?_
    refine lv_iconst (v := 1) hx hb dX5_actsFor_22 (by decide) ?_
    refine g_cWi (k2 := 0) (n2 := 0) (g_runV (rest := []) hC (c_X5_isThrown hE (β := β) (μ := μ) (K := K) (dp := dp) (th := th) 1 1 rfl) Y_X5_isThrown k_1084 I_X5_isThrown V_X5_isThrown hR.obj rfl hR rfl hl.1 dX5_actsFor_23 ⟨Nat.le_of_ble_eq_true rfl, Nat.le_of_ble_eq_true rfl⟩ ⟨Nat.le_of_ble_eq_true rfl, Nat.le_of_ble_eq_true rfl⟩ rfl (Nat.le_of_ble_eq_true rfl)) hS (fun _ h => h) rfl rfl (fun r5_ H lo h6_ _ _ hS => ?_)
    obtain ⟨rfl, hR⟩ := h6_
    have hR : RM E β μ K dp 1 H := hR
    refine lv_if_ne (tgt := 42) hx hb dX5_actsFor_26 (by decide) (fun c7_ => ?_) (fun c7_ => ?_)
    · refine lv_iconst (v := 0) hx hb dX5_actsFor_42 (by decide) ?_
      exact g_zretW hC hr rfl dX5_actsFor_43 hS (Nat.le_of_ble_eq_true rfl) (Nat.le_of_ble_eq_true rfl) (mPost_k 1 (by unfold kActs; rw [cif_pos (by grind)]) (by decide) rfl hR)
    · exact absurd c7_ (by decide)
  · have q4_ := bz.f h2_ c3_
    refine lv_aload_n hx hb dX5_actsFor_9 rfl (lv_at hl 0 rfl) ?_
    refine lv_iload_n hx hb dX5_actsFor_10 rfl (lv_at hl 2 rfl) ?_
    refine g_cRi (k2 := 0) (n2 := 0) (g_runV (rest := [.ref (β 19)]) hC (c_X5_isNobody hE (β := β) (μ := μ) (K := K) (dp := dp) (th := th) (by omega) o0) Y_X5_isNobody k_1092 I_X5_isNobody V_X5_isNobody hR.obj rfl hR rfl hl.1 dX5_actsFor_11 ⟨Nat.le_of_ble_eq_true rfl, Nat.le_of_ble_eq_true rfl⟩ ⟨Nat.le_of_ble_eq_true rfl, Nat.le_of_ble_eq_true rfl⟩ rfl (Nat.le_of_ble_eq_true rfl)) rfl rfl g_no (fun r8_ h9_ => ?_)
    refine lv_if_eq (tgt := 21) hx hb dX5_actsFor_14 (by decide) (fun c10_ => ?_) (fun c10_ => ?_)
    · have q11_ := bz.f h9_ c10_
      refine lv_iconst (v := 0) hx hb dX5_actsFor_21 (by decide) ?_
      refine lv_iconst (v := 1) hx hb dX5_actsFor_22 (by decide) ?_
      refine g_cWi (k2 := 0) (n2 := 0) (g_runV (rest := []) hC (c_X5_isThrown hE (β := β) (μ := μ) (K := K) (dp := dp) (th := th) 0 1 rfl) Y_X5_isThrown k_1084 I_X5_isThrown V_X5_isThrown hR.obj rfl hR rfl hl.1 dX5_actsFor_23 ⟨Nat.le_of_ble_eq_true rfl, Nat.le_of_ble_eq_true rfl⟩ ⟨Nat.le_of_ble_eq_true rfl, Nat.le_of_ble_eq_true rfl⟩ rfl (Nat.le_of_ble_eq_true rfl)) hS (fun _ h => h) rfl rfl (fun r12_ H lo h13_ _ _ hS => ?_)
      obtain ⟨rfl, hR⟩ := h13_
      have hR : RM E β μ K dp 0 H := hR
      refine lv_if_ne (tgt := 42) hx hb dX5_actsFor_26 (by decide) (fun c14_ => ?_) (fun c14_ => ?_)
      · exact absurd c14_ (by decide)
      · refine lv_aload_n hx hb dX5_actsFor_29 rfl (lv_at hl 0 rfl) ?_
        refine lv_iload_n hx hb dX5_actsFor_30 rfl (lv_at hl 1 rfl) ?_
        refine lv_iload_n hx hb dX5_actsFor_31 rfl (lv_at hl 2 rfl) ?_
        obtain ⟨j_p0, hj_p0, rfl⟩ := isP_of (n := K 0) (p := p0) (by first | exact Classical.not_not.mp (by assumption) | assumption) (by omega)
        have ej_p0 : (nI j_p0).toNatClampNeg = j_p0 := nI_clamp (by omega)
        have ipj_p0 : isP (K 0) (nI j_p0) := isP_nI hj_p0 (by omega)
        obtain ⟨j_o0, hj_o0, rfl⟩ := isP_of (n := K 0) (p := o0) (by first | exact Classical.not_not.mp (by assumption) | assumption) (by omega)
        have ej_o0 : (nI j_o0).toNatClampNeg = j_o0 := nI_clamp (by omega)
        have ipj_o0 : isP (K 0) (nI j_o0) := isP_nI hj_o0 (by omega)
        refine g_cRi (k2 := 0) (n2 := 0) (g_runV (rest := []) hC (c_X5_acts hE (β := β) (μ := μ) (K := K) (dp := dp) (th := 0) (nI j_p0) j_o0 (by omega) (by first | assumption | exact nI_m2 _ (by omega))) Y_X5_acts k_1107 I_X5_acts V_X5_acts hR.obj rfl hR rfl hl.1 dX5_actsFor_32 ⟨Nat.le_of_ble_eq_true rfl, Nat.le_of_ble_eq_true rfl⟩ ⟨Nat.le_of_ble_eq_true rfl, Nat.le_of_ble_eq_true rfl⟩ rfl (Nat.le_of_ble_eq_true rfl)) rfl rfl g_no (fun r15_ h16_ => ?_)
        refine lv_if_eq (tgt := 42) hx hb dX5_actsFor_35 (by decide) (fun c17_ => ?_) (fun c17_ => ?_)
        · have q18_ := bz.f h16_ c17_
          refine lv_iconst (v := 0) hx hb dX5_actsFor_42 (by decide) ?_
          exact g_zretW hC hr rfl dX5_actsFor_43 hS (Nat.le_of_ble_eq_true rfl) (Nat.le_of_ble_eq_true rfl) (mPost_0 (by unfold kActs; rw [cif_neg (by first | grind | (simp only [ix, ej_p0, ej_o0, mv, mw]; grind))]) hR rfl rfl (bz_0 (by assumption)))
        · have q18_ := bz.t h16_ c17_
          refine lv_iconst (v := 1) hx hb dX5_actsFor_38 (by decide) ?_
          refine lv_goto (tgt := 43) hx hb dX5_actsFor_39 (by decide) ?_
          exact g_zretW hC hr rfl dX5_actsFor_43 hS (Nat.le_of_ble_eq_true rfl) (Nat.le_of_ble_eq_true rfl) (mPost_0 (by unfold kActs; rw [cif_neg (by first | grind | (simp only [ix, ej_p0, ej_o0, mv, mw]; grind))]) hR rfl rfl (bz_1 (by assumption)))
    · have q11_ := bz.t h9_ c10_
      refine lv_iconst (v := 1) hx hb dX5_actsFor_17 (by decide) ?_
      refine lv_goto (tgt := 22) hx hb dX5_actsFor_18 (by decide) ?_
      refine lv_iconst (v := 1) hx hb dX5_actsFor_22 (by decide) ?_
      refine g_cWi (k2 := 0) (n2 := 0) (g_runV (rest := []) hC (c_X5_isThrown hE (β := β) (μ := μ) (K := K) (dp := dp) (th := th) 1 1 rfl) Y_X5_isThrown k_1084 I_X5_isThrown V_X5_isThrown hR.obj rfl hR rfl hl.1 dX5_actsFor_23 ⟨Nat.le_of_ble_eq_true rfl, Nat.le_of_ble_eq_true rfl⟩ ⟨Nat.le_of_ble_eq_true rfl, Nat.le_of_ble_eq_true rfl⟩ rfl (Nat.le_of_ble_eq_true rfl)) hS (fun _ h => h) rfl rfl (fun r19_ H lo h20_ _ _ hS => ?_)
      obtain ⟨rfl, hR⟩ := h20_
      have hR : RM E β μ K dp 1 H := hR
      refine lv_if_ne (tgt := 42) hx hb dX5_actsFor_26 (by decide) (fun c21_ => ?_) (fun c21_ => ?_)
      · refine lv_iconst (v := 0) hx hb dX5_actsFor_42 (by decide) ?_
        exact g_zretW hC hr rfl dX5_actsFor_43 hS (Nat.le_of_ble_eq_true rfl) (Nat.le_of_ble_eq_true rfl) (mPost_k 1 (by unfold kActs; rw [cif_pos (by grind)]) (by decide) rfl hR)
      · exact absurd c21_ (by decide)
