set_option maxHeartbeats 4000000 in
set_option maxRecDepth 100000 in
theorem c_X5_isIn {l : Launch} {E : gV} (hE : gOK l E) (v lo hi : Int32) : gM l E yX5_isIn cX5_isIn 3 (some .boolean) ({ frames := 0, cells := 0, slots := 0, locals := 0 } : Room) [.int v, .int lo, .int hi] (fun H => True) (gQR (gPi (bz (lo ≤ v ∧ v ≤ hi)))) (fun _ => False) gN := by
  refine gM_body hE (by decide +kernel) (Nat.le_of_ble_eq_true rfl) ?_
  intro p_ e_ s m args below meth c hC ht hr hname hP ls hl
  have hx := hC.2.2.1
  have hb := hC.2.2.2.1
  have hl : lv_has ls 3 [(0, .int v), (1, .int lo), (2, .int hi)] := hl
  refine lv_iload_n hx hb dX5_isIn_0 rfl (lv_at hl 0 rfl) ?_
  refine lv_iload_n hx hb dX5_isIn_1 rfl (lv_at hl 1 rfl) ?_
  refine lv_icmp_lt (tgt := 14) hx hb dX5_isIn_2 (by decide) (fun c1_ => ?_) (fun c1_ => ?_)
  · refine lv_iconst (v := 0) hx hb dX5_isIn_14 (by decide) ?_
    exact g_zret hC hr rfl dX5_isIn_15 (Nat.le_of_ble_eq_true rfl) (Nat.le_of_ble_eq_true rfl) (bz_0 (by grind))
  · refine lv_iload_n hx hb dX5_isIn_5 rfl (lv_at hl 0 rfl) ?_
    refine lv_iload_n hx hb dX5_isIn_6 rfl (lv_at hl 2 rfl) ?_
    refine lv_icmp_gt (tgt := 14) hx hb dX5_isIn_7 (by decide) (fun c2_ => ?_) (fun c2_ => ?_)
    · refine lv_iconst (v := 0) hx hb dX5_isIn_14 (by decide) ?_
      exact g_zret hC hr rfl dX5_isIn_15 (Nat.le_of_ble_eq_true rfl) (Nat.le_of_ble_eq_true rfl) (bz_0 (by grind))
    · refine lv_iconst (v := 1) hx hb dX5_isIn_10 (by decide) ?_
      refine lv_goto (tgt := 15) hx hb dX5_isIn_11 (by decide) ?_
      exact g_zret hC hr rfl dX5_isIn_15 (Nat.le_of_ble_eq_true rfl) (Nat.le_of_ble_eq_true rfl) (bz_1 (by grind))
set_option maxHeartbeats 4000000 in
set_option maxRecDepth 100000 in
theorem c_X5_isThrown {l : Launch} {E : gV} (hE : gOK l E) {β : Nat → Nat} {μ : F2} {K : Nat → Nat} {dp th : Int32} (is as : Int32) (hz : narrow .boolean (.int is) = .int is) : gM l E yX5_isThrown cX5_isThrown 3 (some .boolean) ({ frames := 0, cells := 0, slots := 0, locals := 0 } : Room) [.ref (β 19), .int is, .int as] (fun H => RM E β μ K dp th H) (gQW (mA β) (gWi (fun r H => r = is ∧ RM E β μ K dp (thr is as) H))) (fun _ => False) (mA β) := by
  refine gM_body hE (by decide +kernel) (Nat.le_of_ble_eq_true rfl) ?_
  intro p_ e_ s m args below meth c hC ht hr hname hP ls hl
  have hx := hC.2.2.1
  have hb := hC.2.2.2.1
  have hl : lv_has ls 3 [(0, .ref (β 19)), (1, .int is), (2, .int as)] := hl
  have hS : va_S ((mA β)) s.heap s.heap [] := va_S.rf
  have hR : RM E β μ K dp th s.heap := hP
  refine lv_aload_n hx hb dX5_isThrown_0 rfl (lv_at hl 0 rfl) ?_
  refine lv_iload_n hx hb dX5_isThrown_1 rfl (lv_at hl 1 rfl) ?_
  refine lv_if_eq (tgt := 9) hx hb dX5_isThrown_2 (by decide) (fun c1_ => ?_) (fun c1_ => ?_)
  · refine lv_iconst (v := 0) hx hb dX5_isThrown_9 (by decide) ?_
    refine m_putN (μ' := μ) (K' := K) (dp' := dp) (th' := 0) 25 (by decide) hC hR hS k_1021 rfl rfl (fun _ _ => rfl) rfl dX5_isThrown_10 (fun H lo hR hS => ?_)
    refine lv_iload_n hx hb dX5_isThrown_13 rfl (lv_at hl 1 rfl) ?_
    exact g_zretW hC hr hz dX5_isThrown_14 hS (Nat.le_of_ble_eq_true rfl) (Nat.le_of_ble_eq_true rfl) ⟨rfl, by rw [thr_0 (by assumption)]; exact hR⟩
  · refine lv_iload_n hx hb dX5_isThrown_5 rfl (lv_at hl 2 rfl) ?_
    refine lv_goto (tgt := 10) hx hb dX5_isThrown_6 (by decide) ?_
    refine m_putN (μ' := μ) (K' := K) (dp' := dp) (th' := as) 25 (by decide) hC hR hS k_1021 rfl rfl (fun _ _ => rfl) rfl dX5_isThrown_10 (fun H lo hR hS => ?_)
    refine lv_iload_n hx hb dX5_isThrown_13 rfl (lv_at hl 1 rfl) ?_
    exact g_zretW hC hr hz dX5_isThrown_14 hS (Nat.le_of_ble_eq_true rfl) (Nat.le_of_ble_eq_true rfl) ⟨rfl, by rw [thr_1 (by assumption)]; exact hR⟩
set_option maxHeartbeats 4000000 in
set_option maxRecDepth 100000 in
theorem c_X5_isNobody {l : Launch} {E : gV} (hE : gOK l E) {β : Nat → Nat} {μ : F2} {K : Nat → Nat} {dp th : Int32} (hK : K 0 ≤ 8) (p0 : Int32) : gM l E yX5_isNobody cX5_isNobody 2 (some .boolean) ({ frames := 1, cells := 0, slots := 0, locals := 22 } : Room) [.ref (β 19), .int p0] (fun H => RM E β μ K dp th H) (gQR (gPi (bz (¬ isP (K 0) p0)))) (fun _ => False) gN := by
  refine gM_body hE (by decide +kernel) (Nat.le_of_ble_eq_true rfl) ?_
  intro p_ e_ s m args below meth c hC ht hr hname hP ls hl
  have hx := hC.2.2.1
  have hb := hC.2.2.2.1
  have hl : lv_has ls 2 [(0, .ref (β 19)), (1, .int p0)] := hl
  have hR : RM E β μ K dp th s.heap := hP
  refine lv_iload_n hx hb dX5_isNobody_0 rfl (lv_at hl 1 rfl) ?_
  refine lv_iconst (v := 0) hx hb dX5_isNobody_1 (by decide) ?_
  refine lv_aload_n hx hb dX5_isNobody_2 rfl (lv_at hl 0 rfl) ?_
  refine g_get (v := .int (nI (K 0))) hC hR.obj (C := RX5) (T := TX5) (N := 26) rfl u5_in 19 (by decide) k_1015 rfl dX5_isNobody_3 ?_
  refine lv_iconst (v := 1) hx hb dX5_isNobody_6 (by decide) ?_
  refine lv_isub hx hb dX5_isNobody_7 ?_
  refine g_cRi (k2 := 0) (n2 := 0) (g_runS (rest := []) hC (c_X5_isIn hE p0 0 ((nI (K 0)) - 1)) Y_X5_isIn k_1096 S_X5_isIn trivial rfl hl.1 dX5_isNobody_8 ⟨Nat.le_of_ble_eq_true rfl, Nat.le_of_ble_eq_true rfl⟩ ⟨Nat.le_of_ble_eq_true rfl, Nat.le_of_ble_eq_true rfl⟩ rfl (Nat.le_of_ble_eq_true rfl)) rfl rfl g_no (fun r1_ h2_ => ?_)
  have f3_ := h2_.iff (isIn_1 (by omega))
  refine lv_if_ne (tgt := 18) hx hb dX5_isNobody_11 (by decide) (fun c4_ => ?_) (fun c4_ => ?_)
  · have q5_ := bz.t f3_ c4_
    refine lv_iconst (v := 0) hx hb dX5_isNobody_18 (by decide) ?_
    exact g_zret hC hr rfl dX5_isNobody_19 (Nat.le_of_ble_eq_true rfl) (Nat.le_of_ble_eq_true rfl) (bz_0 (fun q => q (by assumption)))
  · have q5_ := bz.f f3_ c4_
    refine lv_iconst (v := 1) hx hb dX5_isNobody_14 (by decide) ?_
    refine lv_goto (tgt := 19) hx hb dX5_isNobody_15 (by decide) ?_
    exact g_zret hC hr rfl dX5_isNobody_19 (Nat.le_of_ble_eq_true rfl) (Nat.le_of_ble_eq_true rfl) (bz_1 ((by assumption)))
set_option maxHeartbeats 4000000 in
set_option maxRecDepth 100000 in
theorem c_X5_acts {l : Launch} {E : gV} (hE : gOK l E) {β : Nat → Nat} {μ : F2} {K : Nat → Nat} {dp th : Int32} (i : Int32) (j : Nat) (hj : j < 8) (hi : i ≠ -2) : gM l E yX5_acts cX5_acts 3 (some .boolean) ({ frames := 0, cells := 0, slots := 0, locals := 0 } : Room) [.ref (β 19), .int i, .int (nI j)] (fun H => RM E β μ K dp th H) (gQR (gPi (bz (fAct (mv μ) i (nI j))))) (fun _ => False) gN := by
  refine gM_body hE (by decide +kernel) (Nat.le_of_ble_eq_true rfl) ?_
  intro p_ e_ s m args below meth c hC ht hr hname hP ls hl
  have hx := hC.2.2.1
  have hb := hC.2.2.2.1
  have hl : lv_has ls 3 [(0, .ref (β 19)), (1, .int i), (2, .int (nI j))] := hl
  have hR : RM E β μ K dp th s.heap := hP
  have ej : (nI j).toNatClampNeg = j := nI_clamp (by omega)
  refine lv_iload_n hx hb dX5_acts_0 rfl (lv_at hl 1 rfl) ?_
  refine lv_iload_n hx hb dX5_acts_1 rfl (lv_at hl 2 rfl) ?_
  refine lv_icmp_eq (tgt := 24) hx hb dX5_acts_2 (by decide) (fun c1_ => ?_) (fun c1_ => ?_)
  · refine lv_iconst (v := 1) hx hb dX5_acts_24 (by decide) ?_
    refine lv_goto (tgt := 29) hx hb dX5_acts_25 (by decide) ?_
    exact g_zret hC hr rfl dX5_acts_29 (Nat.le_of_ble_eq_true rfl) (Nat.le_of_ble_eq_true rfl) (by
      first
      | (refine bz_1 ?_; unfold fAct; first | exact Or.inl (by assumption) | (refine Or.inr ?_; rw [ej]; show (if μ 0 j ≠ 0 then μ 2 j else -2) = i; rw [if_pos (by assumption)]; first | assumption | exact Classical.not_not.mp (by assumption)))
      | (refine bz_0 ?_; unfold fAct; rw [ej]; show ¬ (i = nI j ∨ (if μ 0 j ≠ 0 then μ 2 j else -2) = i); intro q; grind))
  · refine lv_aload_n hx hb dX5_acts_5 rfl (lv_at hl 0 rfl) ?_
    refine g_get (v := .ref (β 0)) hC hR.obj (C := RX5) (T := TX5) (N := 26) rfl u5_in 0 (by decide) k_996 rfl dX5_acts_6 ?_
    refine lv_iload_n hx hb dX5_acts_9 rfl (lv_at hl 2 rfl) ?_
    refine g_zald (n := 8) (f := μ 0) (j := j) hC (hR.arr 0 (by decide) rfl rfl) (by omega) (by decide) dX5_acts_10 ?_
    refine lv_if_eq (tgt := 28) hx hb dX5_acts_11 (by decide) (fun c2_ => ?_) (fun c2_ => ?_)
    · refine lv_iconst (v := 0) hx hb dX5_acts_28 (by decide) ?_
      exact g_zret hC hr rfl dX5_acts_29 (Nat.le_of_ble_eq_true rfl) (Nat.le_of_ble_eq_true rfl) (by
      first
      | (refine bz_1 ?_; unfold fAct; first | exact Or.inl (by assumption) | (refine Or.inr ?_; rw [ej]; show (if μ 0 j ≠ 0 then μ 2 j else -2) = i; rw [if_pos (by assumption)]; first | assumption | exact Classical.not_not.mp (by assumption)))
      | (refine bz_0 ?_; unfold fAct; rw [ej]; show ¬ (i = nI j ∨ (if μ 0 j ≠ 0 then μ 2 j else -2) = i); intro q; grind))
    · refine lv_aload_n hx hb dX5_acts_14 rfl (lv_at hl 0 rfl) ?_
      refine g_get (v := .ref (β 2)) hC hR.obj (C := RX5) (T := TX5) (N := 26) rfl u5_in 2 (by decide) k_998 rfl dX5_acts_15 ?_
      refine lv_iload_n hx hb dX5_acts_18 rfl (lv_at hl 2 rfl) ?_
      refine g_iald (n := 8) (f := μ 2) (j := j) hC (hR.arr 2 (by decide) rfl rfl) (by omega) (by decide) dX5_acts_19 ?_
      refine lv_iload_n hx hb dX5_acts_20 rfl (lv_at hl 1 rfl) ?_
      refine lv_icmp_ne (tgt := 28) hx hb dX5_acts_21 (by decide) (fun c4_ => ?_) (fun c4_ => ?_)
      · refine lv_iconst (v := 0) hx hb dX5_acts_28 (by decide) ?_
        exact g_zret hC hr rfl dX5_acts_29 (Nat.le_of_ble_eq_true rfl) (Nat.le_of_ble_eq_true rfl) (by
      first
      | (refine bz_1 ?_; unfold fAct; first | exact Or.inl (by assumption) | (refine Or.inr ?_; rw [ej]; show (if μ 0 j ≠ 0 then μ 2 j else -2) = i; rw [if_pos (by assumption)]; first | assumption | exact Classical.not_not.mp (by assumption)))
      | (refine bz_0 ?_; unfold fAct; rw [ej]; show ¬ (i = nI j ∨ (if μ 0 j ≠ 0 then μ 2 j else -2) = i); intro q; grind))
      · refine lv_iconst (v := 1) hx hb dX5_acts_24 (by decide) ?_
        refine lv_goto (tgt := 29) hx hb dX5_acts_25 (by decide) ?_
        exact g_zret hC hr rfl dX5_acts_29 (Nat.le_of_ble_eq_true rfl) (Nat.le_of_ble_eq_true rfl) (by
      first
      | (refine bz_1 ?_; unfold fAct; first | exact Or.inl (by assumption) | (refine Or.inr ?_; rw [ej]; show (if μ 0 j ≠ 0 then μ 2 j else -2) = i; rw [if_pos (by assumption)]; first | assumption | exact Classical.not_not.mp (by assumption)))
      | (refine bz_0 ?_; unfold fAct; rw [ej]; show ¬ (i = nI j ∨ (if μ 0 j ≠ 0 then μ 2 j else -2) = i); intro q; grind))
set_option maxHeartbeats 4000000 in
set_option maxRecDepth 100000 in
theorem c_X5_faulty {l : Launch} {E : gV} (hE : gOK l E) {β : Nat → Nat} {μ : F2} {K : Nat → Nat} {th : Int32} (hI : MI μ K) (s0 : Int32) : ∀ (p : Nat) (dp : Int32), p < K 1 → gM l E yX5_faulty cX5_faulty 4 (some .char) ({ frames := p + 1, cells := 0, slots := 0, locals := 23 * (p + 1) } : Room) [.ref (β 19), .int (nI p), .int s0] (fun H => RM E β μ K dp th H) (gQW (mA β) (gWi (fun r H => r = fl (mv μ) (μ 22 0) s0 p ∧ RM E β μ K (nI (dpt (mv μ) (μ 22 0) s0 p)) th H))) (fun _ => False) (mA β) := by
  obtain ⟨hK0, hK1, hK2, hSr, hHo, hTd⟩ := hI
  intro p
  induction p using Nat.strongRecOn with
  | ind p ih =>
  intro dp hp
  refine gM_body hE (by decide +kernel) (Nat.le_of_ble_eq_true rfl) ?_
  intro p_ e_ s m args below meth c hC ht hr hname hP ls hl
  have hx := hC.2.2.1
  have hb := hC.2.2.2.1
  have hl : lv_has ls 4 [(0, .ref (β 19)), (1, .int (nI p)), (2, .int s0)] := hl
  have hS : va_S ((mA β)) s.heap s.heap [] := va_S.rf
  have hR : RM E β μ K dp th s.heap := hP
  refine lv_aload_n hx hb dX5_faulty_0 rfl (lv_at hl 0 rfl) ?_
  refine g_get (v := .ref (β 8)) hC hR.obj (C := RX5) (T := TX5) (N := 26) rfl u5_in 8 (by decide) k_1004 rfl dX5_faulty_1 ?_
  refine lv_iload_n hx hb dX5_faulty_4 rfl (lv_at hl 1 rfl) ?_
  refine g_iald (n := 20) (f := μ 8) (j := p) hC (hR.arr 8 (by decide) rfl rfl) (by omega) (by decide) dX5_faulty_5 ?_
  refine lv_if_lt (tgt := 39) hx hb dX5_faulty_6 (by decide) (fun c1_ => ?_) (fun c1_ => ?_)
  · have hfl : fl (mv μ) (μ 22 0) s0 p = fOwn (mv μ) (μ 22 0) s0 p := fl_0 c1_
    have hdp : dpt (mv μ) (μ 22 0) s0 p = 0 := dpt_0 c1_
    refine lv_aload_n hx hb dX5_faulty_39 rfl (lv_at hl 0 rfl) ?_
    refine lv_iconst (v := 0) hx hb dX5_faulty_40 (by decide) ?_
    refine m_putN (μ' := μ) (K' := K) (dp' := 0) (th' := th) 24 (by decide) hC hR hS k_1020 rfl rfl (fun _ _ => rfl) rfl dX5_faulty_41 (fun H lo hR hS => ?_)
    refine lv_aload_n hx hb dX5_faulty_44 rfl (lv_at hl 0 rfl) ?_
    refine g_get (v := .int (μ 22 0)) hC hR.obj (C := RX5) (T := TX5) (N := 26) rfl u5_in 22 (by decide) k_1018 rfl dX5_faulty_45 ?_
    refine lv_aload_n hx hb dX5_faulty_48 rfl (lv_at hl 0 rfl) ?_
    refine g_get (v := .ref (β 6)) hC hR.obj (C := RX5) (T := TX5) (N := 26) rfl u5_in 6 (by decide) k_1002 rfl dX5_faulty_49 ?_
    refine lv_iload_n hx hb dX5_faulty_52 rfl (lv_at hl 1 rfl) ?_
    refine g_iald (n := 20) (f := μ 6) (j := p) hC (hR.arr 6 (by decide) rfl rfl) (by omega) (by decide) dX5_faulty_53 ?_
    refine lv_aload_n hx hb dX5_faulty_54 rfl (lv_at hl 0 rfl) ?_
    refine g_get (v := .ref (β 7)) hC hR.obj (C := RX5) (T := TX5) (N := 26) rfl u5_in 7 (by decide) k_1003 rfl dX5_faulty_55 ?_
    refine lv_iload_n hx hb dX5_faulty_58 rfl (lv_at hl 1 rfl) ?_
    refine g_iald (n := 20) (f := μ 7) (j := p) hC (hR.arr 7 (by decide) rfl rfl) (by omega) (by decide) dX5_faulty_59 ?_
    refine g_cRi (k2 := 0) (n2 := 0) (g_runS (rest := []) hC (c_X5_isIn hE (μ 22 0) (μ 6 p) (μ 7 p)) Y_X5_isIn k_1096 S_X5_isIn trivial rfl hl.1 dX5_faulty_60 ⟨by dsimp only; omega, by dsimp only; omega⟩ ⟨Nat.le_of_ble_eq_true rfl, Nat.le_of_ble_eq_true rfl⟩ rfl (Nat.le_of_ble_eq_true rfl)) rfl rfl g_no (fun r2_ h3_ => ?_)
    refine lv_if_ne (tgt := 71) hx hb dX5_faulty_63 (by decide) (fun c4_ => ?_) (fun c4_ => ?_)
    · have q5_ := bz.t h3_ c4_
      refine lv_aload_n hx hb dX5_faulty_71 rfl (lv_at hl 0 rfl) ?_
      refine g_get (v := .ref (β 1)) hC hR.obj (C := RX5) (T := TX5) (N := 26) rfl u5_in 1 (by decide) k_997 rfl dX5_faulty_72 ?_
      refine lv_iload_n hx hb dX5_faulty_75 rfl (lv_at hl 1 rfl) ?_
      refine g_zald (n := 20) (f := μ 1) (j := p) hC (hR.arr 1 (by decide) rfl rfl) (by omega) (by decide) dX5_faulty_76 ?_
      refine lv_if_eq (tgt := 85) hx hb dX5_faulty_77 (by decide) (fun c6_ => ?_) (fun c6_ => ?_)
      · refine lv_iload_n hx hb dX5_faulty_85 rfl (lv_at hl 2 rfl) ?_
        refine lv_aload_n hx hb dX5_faulty_86 rfl (lv_at hl 0 rfl) ?_
        refine g_get (v := .ref (β 5)) hC hR.obj (C := RX5) (T := TX5) (N := 26) rfl u5_in 5 (by decide) k_1001 rfl dX5_faulty_87 ?_
        refine lv_iload_n hx hb dX5_faulty_90 rfl (lv_at hl 1 rfl) ?_
        refine g_iald (n := 20) (f := μ 5) (j := p) hC (hR.arr 5 (by decide) rfl rfl) (by omega) (by decide) dX5_faulty_91 ?_
        refine lv_icmp_le (tgt := 100) hx hb dX5_faulty_92 (by decide) (fun c8_ => ?_) (fun c8_ => ?_)
        · refine lv_bipush (v := 45) hx hb dX5_faulty_100 (by decide) ?_
          exact g_zretW hC hr rfl dX5_faulty_102 hS (Nat.le_of_ble_eq_true rfl) (Nat.le_of_ble_eq_true rfl) ⟨by rw [hfl]; unfold fOwn; rw [if_pos (by assumption), if_neg (fun z => z (by assumption)), if_neg (Int32.not_lt.mpr (by assumption))], by rw [hdp]; exact hR⟩
        · refine lv_bipush (v := 108) hx hb dX5_faulty_95 (by decide) ?_
          refine lv_goto (tgt := 102) hx hb dX5_faulty_97 (by decide) ?_
          exact g_zretW hC hr rfl dX5_faulty_102 hS (Nat.le_of_ble_eq_true rfl) (Nat.le_of_ble_eq_true rfl) ⟨by rw [hfl]; unfold fOwn; rw [if_pos (by assumption), if_neg (fun z => z (by assumption)), if_pos (Int32.not_le.mp (by assumption))], by rw [hdp]; exact hR⟩
      · refine lv_bipush (v := 118) hx hb dX5_faulty_80 (by decide) ?_
        refine lv_goto (tgt := 102) hx hb dX5_faulty_82 (by decide) ?_
        exact g_zretW hC hr rfl dX5_faulty_102 hS (Nat.le_of_ble_eq_true rfl) (Nat.le_of_ble_eq_true rfl) ⟨by rw [hfl]; unfold fOwn; rw [if_pos (by assumption), if_pos (by assumption)], by rw [hdp]; exact hR⟩
    · have q5_ := bz.f h3_ c4_
      refine lv_bipush (v := 100) hx hb dX5_faulty_66 (by decide) ?_
      refine lv_goto (tgt := 102) hx hb dX5_faulty_68 (by decide) ?_
      exact g_zretW hC hr rfl dX5_faulty_102 hS (Nat.le_of_ble_eq_true rfl) (Nat.le_of_ble_eq_true rfl) ⟨by rw [hfl]; exact (if_neg (by assumption)).symm, by rw [hdp]; exact hR⟩
  · obtain ⟨q, hq, eq⟩ := (hSr p hp).resolve_left c1_
    have eq8 : μ 8 p = nI q := eq
    refine lv_aload_n hx hb dX5_faulty_9 rfl (lv_at hl 0 rfl) ?_
    refine lv_aload_n hx hb dX5_faulty_10 rfl (lv_at hl 0 rfl) ?_
    refine g_get (v := .ref (β 8)) hC hR.obj (C := RX5) (T := TX5) (N := 26) rfl u5_in 8 (by decide) k_1004 rfl dX5_faulty_11 ?_
    refine lv_iload_n hx hb dX5_faulty_14 rfl (lv_at hl 1 rfl) ?_
    refine g_iald (n := 20) (f := μ 8) (j := p) hC (hR.arr 8 (by decide) rfl rfl) (by omega) (by decide) dX5_faulty_15 ?_
    refine lv_iload_n hx hb dX5_faulty_16 rfl (lv_at hl 2 rfl) ?_
    rw [eq8]
    refine g_cWi (k2 := 0) (n2 := 0) (g_runV (rest := []) hC (ih q hq _ (by omega)) Y_X5_faulty k_1159 I_X5_faulty V_X5_faulty hR.obj rfl hR rfl hl.1 dX5_faulty_17 ⟨by dsimp only; omega, by dsimp only; omega⟩ ⟨Nat.le_of_ble_eq_true rfl, Nat.le_of_ble_eq_true rfl⟩ rfl (Nat.le_of_ble_eq_true rfl)) hS (fun _ h => h) rfl rfl (fun r9_ H lo h10_ _ _ hS => ?_)
    obtain ⟨ef11_, hR⟩ := h10_
    refine lv_istore_n (lv' := [(3, .int r9_), (0, .ref (β 19)), (1, .int (nI p)), (2, .int s0)]) hx hb dX5_faulty_20 rfl hl (by decide) rfl (fun ls hl => ?_)
    refine lv_iload_n hx hb dX5_faulty_21 rfl (lv_at hl 0 rfl) ?_
    refine lv_bipush (v := 45) hx hb dX5_faulty_22 (by decide) ?_
    refine lv_icmp_eq (tgt := 39) hx hb dX5_faulty_24 (by decide) (fun c12_ => ?_) (fun c12_ => ?_)
    · have hfl : fl (mv μ) (μ 22 0) s0 p = fOwn (mv μ) (μ 22 0) s0 p := by rw [fl_s hSr (by omega) hp hq eq, ← ef11_, c12_]; rfl
      have hdp : dpt (mv μ) (μ 22 0) s0 p = 0 := by rw [dpt_s hSr (by omega) hp hq eq, ← ef11_, c12_]; rfl
      refine lv_aload_n hx hb dX5_faulty_39 rfl (lv_at hl 1 rfl) ?_
      refine lv_iconst (v := 0) hx hb dX5_faulty_40 (by decide) ?_
      refine m_putN (μ' := μ) (K' := K) (dp' := 0) (th' := th) 24 (by decide) hC hR hS k_1020 rfl rfl (fun _ _ => rfl) rfl dX5_faulty_41 (fun H lo hR hS => ?_)
      refine lv_aload_n hx hb dX5_faulty_44 rfl (lv_at hl 1 rfl) ?_
      refine g_get (v := .int (μ 22 0)) hC hR.obj (C := RX5) (T := TX5) (N := 26) rfl u5_in 22 (by decide) k_1018 rfl dX5_faulty_45 ?_
      refine lv_aload_n hx hb dX5_faulty_48 rfl (lv_at hl 1 rfl) ?_
      refine g_get (v := .ref (β 6)) hC hR.obj (C := RX5) (T := TX5) (N := 26) rfl u5_in 6 (by decide) k_1002 rfl dX5_faulty_49 ?_
      refine lv_iload_n hx hb dX5_faulty_52 rfl (lv_at hl 2 rfl) ?_
      refine g_iald (n := 20) (f := μ 6) (j := p) hC (hR.arr 6 (by decide) rfl rfl) (by omega) (by decide) dX5_faulty_53 ?_
      refine lv_aload_n hx hb dX5_faulty_54 rfl (lv_at hl 1 rfl) ?_
      refine g_get (v := .ref (β 7)) hC hR.obj (C := RX5) (T := TX5) (N := 26) rfl u5_in 7 (by decide) k_1003 rfl dX5_faulty_55 ?_
      refine lv_iload_n hx hb dX5_faulty_58 rfl (lv_at hl 2 rfl) ?_
      refine g_iald (n := 20) (f := μ 7) (j := p) hC (hR.arr 7 (by decide) rfl rfl) (by omega) (by decide) dX5_faulty_59 ?_
      refine g_cRi (k2 := 0) (n2 := 0) (g_runS (rest := []) hC (c_X5_isIn hE (μ 22 0) (μ 6 p) (μ 7 p)) Y_X5_isIn k_1096 S_X5_isIn trivial rfl hl.1 dX5_faulty_60 ⟨by dsimp only; omega, by dsimp only; omega⟩ ⟨Nat.le_of_ble_eq_true rfl, Nat.le_of_ble_eq_true rfl⟩ rfl (Nat.le_of_ble_eq_true rfl)) rfl rfl g_no (fun r13_ h14_ => ?_)
      refine lv_if_ne (tgt := 71) hx hb dX5_faulty_63 (by decide) (fun c15_ => ?_) (fun c15_ => ?_)
      · have q16_ := bz.t h14_ c15_
        refine lv_aload_n hx hb dX5_faulty_71 rfl (lv_at hl 1 rfl) ?_
        refine g_get (v := .ref (β 1)) hC hR.obj (C := RX5) (T := TX5) (N := 26) rfl u5_in 1 (by decide) k_997 rfl dX5_faulty_72 ?_
        refine lv_iload_n hx hb dX5_faulty_75 rfl (lv_at hl 2 rfl) ?_
        refine g_zald (n := 20) (f := μ 1) (j := p) hC (hR.arr 1 (by decide) rfl rfl) (by omega) (by decide) dX5_faulty_76 ?_
        refine lv_if_eq (tgt := 85) hx hb dX5_faulty_77 (by decide) (fun c17_ => ?_) (fun c17_ => ?_)
        · refine lv_iload_n hx hb dX5_faulty_85 rfl (lv_at hl 3 rfl) ?_
          refine lv_aload_n hx hb dX5_faulty_86 rfl (lv_at hl 1 rfl) ?_
          refine g_get (v := .ref (β 5)) hC hR.obj (C := RX5) (T := TX5) (N := 26) rfl u5_in 5 (by decide) k_1001 rfl dX5_faulty_87 ?_
          refine lv_iload_n hx hb dX5_faulty_90 rfl (lv_at hl 2 rfl) ?_
          refine g_iald (n := 20) (f := μ 5) (j := p) hC (hR.arr 5 (by decide) rfl rfl) (by omega) (by decide) dX5_faulty_91 ?_
          refine lv_icmp_le (tgt := 100) hx hb dX5_faulty_92 (by decide) (fun c19_ => ?_) (fun c19_ => ?_)
          · refine lv_bipush (v := 45) hx hb dX5_faulty_100 (by decide) ?_
            exact g_zretW hC hr rfl dX5_faulty_102 hS (Nat.le_of_ble_eq_true rfl) (Nat.le_of_ble_eq_true rfl) ⟨by rw [hfl]; unfold fOwn; rw [if_pos (by assumption), if_neg (fun z => z (by assumption)), if_neg (Int32.not_lt.mpr (by assumption))], by rw [hdp]; exact hR⟩
          · refine lv_bipush (v := 108) hx hb dX5_faulty_95 (by decide) ?_
            refine lv_goto (tgt := 102) hx hb dX5_faulty_97 (by decide) ?_
            exact g_zretW hC hr rfl dX5_faulty_102 hS (Nat.le_of_ble_eq_true rfl) (Nat.le_of_ble_eq_true rfl) ⟨by rw [hfl]; unfold fOwn; rw [if_pos (by assumption), if_neg (fun z => z (by assumption)), if_pos (Int32.not_le.mp (by assumption))], by rw [hdp]; exact hR⟩
        · refine lv_bipush (v := 118) hx hb dX5_faulty_80 (by decide) ?_
          refine lv_goto (tgt := 102) hx hb dX5_faulty_82 (by decide) ?_
          exact g_zretW hC hr rfl dX5_faulty_102 hS (Nat.le_of_ble_eq_true rfl) (Nat.le_of_ble_eq_true rfl) ⟨by rw [hfl]; unfold fOwn; rw [if_pos (by assumption), if_pos (by assumption)], by rw [hdp]; exact hR⟩
      · have q16_ := bz.f h14_ c15_
        refine lv_bipush (v := 100) hx hb dX5_faulty_66 (by decide) ?_
        refine lv_goto (tgt := 102) hx hb dX5_faulty_68 (by decide) ?_
        exact g_zretW hC hr rfl dX5_faulty_102 hS (Nat.le_of_ble_eq_true rfl) (Nat.le_of_ble_eq_true rfl) ⟨by rw [hfl]; exact (if_neg (by assumption)).symm, by rw [hdp]; exact hR⟩
    · have hfl : fl (mv μ) (μ 22 0) s0 p = r9_ := by rw [fl_s hSr (by omega) hp hq eq, ← ef11_, if_pos c12_]
      have hdp : dpt (mv μ) (μ 22 0) s0 p = dpt (mv μ) (μ 22 0) s0 q + 1 := by rw [dpt_s hSr (by omega) hp hq eq, ← ef11_, if_pos c12_]
      have hnar : narrow .char (.int r9_) = .int r9_ := by rw [ef11_]; exact fl_nar _ _ _ _
      refine lv_aload_n hx hb dX5_faulty_27 rfl (lv_at hl 1 rfl) ?_
      refine lv_dup hx hb dX5_faulty_28 rfl ?_
      refine g_get (v := .int (nI (dpt (mv μ) (μ 22 0) s0 q))) hC hR.obj (C := RX5) (T := TX5) (N := 26) rfl u5_in 24 (by decide) k_1020 rfl dX5_faulty_29 ?_
      refine lv_iconst (v := 1) hx hb dX5_faulty_32 (by decide) ?_
      refine g_iadd1 hx hb dX5_faulty_33 ?_
      refine m_putN (μ' := μ) (K' := K) (dp' := (nI ((dpt (mv μ) (μ 22 0) s0 q) + 1))) (th' := th) 24 (by decide) hC hR hS k_1020 rfl rfl (fun _ _ => rfl) rfl dX5_faulty_34 (fun H lo hR hS => ?_)
      refine lv_iload_n hx hb dX5_faulty_37 rfl (lv_at hl 0 rfl) ?_
      exact g_zretW hC hr hnar dX5_faulty_38 hS (Nat.le_of_ble_eq_true rfl) (Nat.le_of_ble_eq_true rfl) ⟨hfl.symm, by rw [hdp]; exact hR⟩
set_option maxHeartbeats 4000000 in
set_option maxRecDepth 100000 in
theorem c_X5_comesFrom {l : Launch} {E : gV} (hE : gOK l E) {β : Nat → Nat} {μ : F2} {K : Nat → Nat} {dp th : Int32} (hI : MI μ K) (o : Nat) (ho : o < K 1) : ∀ (p : Nat), p < K 1 → gM l E yX5_comesFrom cX5_comesFrom 3 (some .boolean) ({ frames := p + 1, cells := 0, slots := 0, locals := 22 * (p + 1) } : Room) [.ref (β 19), .int (nI p), .int (nI o)] (fun H => RM E β μ K dp th H) (gQR (gPi (bz (fCome (mv μ) p o)))) (fun _ => False) gN := by
  obtain ⟨hK0, hK1, hK2, hSr, hHo, hTd⟩ := hI
  intro p
  induction p using Nat.strongRecOn with
  | ind p ih =>
  intro hp
  refine gM_body hE (by decide +kernel) (Nat.le_of_ble_eq_true rfl) ?_
  intro p_ e_ s m args below meth c hC ht hr hname hP ls hl
  have hx := hC.2.2.1
  have hb := hC.2.2.2.1
  have hl : lv_has ls 3 [(0, .ref (β 19)), (1, .int (nI p)), (2, .int (nI o))] := hl
  have hR : RM E β μ K dp th s.heap := hP
  refine lv_iload_n hx hb dX5_comesFrom_0 rfl (lv_at hl 1 rfl) ?_
  refine lv_iload_n hx hb dX5_comesFrom_1 rfl (lv_at hl 2 rfl) ?_
  refine lv_icmp_eq (tgt := 28) hx hb dX5_comesFrom_2 (by decide) (fun c1_ => ?_) (fun c1_ => ?_)
  · have n2_ : p = o := (nI_eq (by omega) (by omega)).mp c1_
    have hg : fCome (mv μ) p o := fCome_r ((nI_eq (by omega) (by omega)).mp c1_)
    refine lv_iconst (v := 1) hx hb dX5_comesFrom_28 (by decide) ?_
    refine lv_goto (tgt := 33) hx hb dX5_comesFrom_29 (by decide) ?_
    exact g_zret hC hr rfl dX5_comesFrom_33 (Nat.le_of_ble_eq_true rfl) (Nat.le_of_ble_eq_true rfl) (bz_1 hg)
  · have n2_ : ¬ p = o := fun z => c1_ (congrArg nI z)
    have hne : ¬ p = o := fun z => c1_ (congrArg nI z)
    refine lv_aload_n hx hb dX5_comesFrom_5 rfl (lv_at hl 0 rfl) ?_
    refine g_get (v := .ref (β 8)) hC hR.obj (C := RX5) (T := TX5) (N := 26) rfl u5_in 8 (by decide) k_1004 rfl dX5_comesFrom_6 ?_
    refine lv_iload_n hx hb dX5_comesFrom_9 rfl (lv_at hl 1 rfl) ?_
    refine g_iald (n := 20) (f := μ 8) (j := p) hC (hR.arr 8 (by decide) rfl rfl) (by omega) (by decide) dX5_comesFrom_10 ?_
    refine lv_if_lt (tgt := 32) hx hb dX5_comesFrom_11 (by decide) (fun c3_ => ?_) (fun c3_ => ?_)
    · have hg : ¬ fCome (mv μ) p o := fun z => hne ((fCome_0 c3_).mp z)
      refine lv_iconst (v := 0) hx hb dX5_comesFrom_32 (by decide) ?_
      exact g_zret hC hr rfl dX5_comesFrom_33 (Nat.le_of_ble_eq_true rfl) (Nat.le_of_ble_eq_true rfl) (bz_0 hg)
    · obtain ⟨q, hq, eq⟩ := (hSr p hp).resolve_left c3_
      have eq8 : μ 8 p = nI q := eq
      refine lv_aload_n hx hb dX5_comesFrom_14 rfl (lv_at hl 0 rfl) ?_
      refine lv_aload_n hx hb dX5_comesFrom_15 rfl (lv_at hl 0 rfl) ?_
      refine g_get (v := .ref (β 8)) hC hR.obj (C := RX5) (T := TX5) (N := 26) rfl u5_in 8 (by decide) k_1004 rfl dX5_comesFrom_16 ?_
      refine lv_iload_n hx hb dX5_comesFrom_19 rfl (lv_at hl 1 rfl) ?_
      refine g_iald (n := 20) (f := μ 8) (j := p) hC (hR.arr 8 (by decide) rfl rfl) (by omega) (by decide) dX5_comesFrom_20 ?_
      rw [eq8]
      refine lv_iload_n hx hb dX5_comesFrom_21 rfl (lv_at hl 2 rfl) ?_
      refine g_cRi (k2 := 0) (n2 := 0) (g_runV (rest := []) hC (ih q hq (by omega)) Y_X5_comesFrom k_1139 I_X5_comesFrom V_X5_comesFrom hR.obj rfl hR rfl hl.1 dX5_comesFrom_22 ⟨by dsimp only; omega, by dsimp only; omega⟩ ⟨Nat.le_of_ble_eq_true rfl, Nat.le_of_ble_eq_true rfl⟩ rfl (Nat.le_of_ble_eq_true rfl)) rfl rfl g_no (fun r4_ h5_ => ?_)
      refine lv_if_eq (tgt := 32) hx hb dX5_comesFrom_25 (by decide) (fun c6_ => ?_) (fun c6_ => ?_)
      · have q7_ := bz.f h5_ c6_
        have hg : ¬ fCome (mv μ) p o := fun z => ((fCome_s hSr (by omega) hp hq eq).mp z).elim hne (by assumption)
        refine lv_iconst (v := 0) hx hb dX5_comesFrom_32 (by decide) ?_
        exact g_zret hC hr rfl dX5_comesFrom_33 (Nat.le_of_ble_eq_true rfl) (Nat.le_of_ble_eq_true rfl) (bz_0 hg)
      · have q7_ := bz.t h5_ c6_
        have hg : fCome (mv μ) p o := (fCome_s hSr (by omega) hp hq eq).mpr (Or.inr (by assumption))
        refine lv_iconst (v := 1) hx hb dX5_comesFrom_28 (by decide) ?_
        refine lv_goto (tgt := 33) hx hb dX5_comesFrom_29 (by decide) ?_
        exact g_zret hC hr rfl dX5_comesFrom_33 (Nat.le_of_ble_eq_true rfl) (Nat.le_of_ble_eq_true rfl) (bz_1 hg)
set_option maxHeartbeats 4000000 in
set_option maxRecDepth 100000 in
theorem c_X5_order {l : Launch} {E : gV} (hE : gOK l E) (x : Int32) : gM l E yX5_order cX5_order 1 (some .int) ({ frames := 0, cells := 0, slots := 0, locals := 0 } : Room) [.int x] (fun H => True) (gQR (gPi (fun r => r = fOrd x))) (fun _ => False) gN := by
  refine gM_body hE (by decide +kernel) (Nat.le_of_ble_eq_true rfl) ?_
  intro p_ e_ s m args below meth c hC ht hr hname hP ls hl
  have hx := hC.2.2.1
  have hb := hC.2.2.2.1
  have hl : lv_has ls 1 [(0, .int x)] := hl
  refine lv_iload_n hx hb dX5_order_0 rfl (lv_at hl 0 rfl) ?_
  refine lv_bipush (v := 107) hx hb dX5_order_1 (by decide) ?_
  refine lv_icmp_ne (tgt := 10) hx hb dX5_order_3 (by decide) (fun c1_ => ?_) (fun c1_ => ?_)
  · refine lv_iload_n hx hb dX5_order_10 rfl (lv_at hl 0 rfl) ?_
    refine lv_bipush (v := 100) hx hb dX5_order_11 (by decide) ?_
    refine lv_icmp_ne (tgt := 20) hx hb dX5_order_13 (by decide) (fun c2_ => ?_) (fun c2_ => ?_)
    · refine lv_iload_n hx hb dX5_order_20 rfl (lv_at hl 0 rfl) ?_
      refine lv_bipush (v := 118) hx hb dX5_order_21 (by decide) ?_
      refine lv_icmp_ne (tgt := 30) hx hb dX5_order_23 (by decide) (fun c3_ => ?_) (fun c3_ => ?_)
      · refine lv_iload_n hx hb dX5_order_30 rfl (lv_at hl 0 rfl) ?_
        refine lv_bipush (v := 108) hx hb dX5_order_31 (by decide) ?_
        refine lv_icmp_ne (tgt := 40) hx hb dX5_order_33 (by decide) (fun c4_ => ?_) (fun c4_ => ?_)
        · refine lv_iconst (v := 4) hx hb dX5_order_40 (by decide) ?_
          exact g_iret hC hr dX5_order_41 (Nat.le_of_ble_eq_true rfl) (Nat.le_of_ble_eq_true rfl) (by unfold fOrd; grind)
        · refine lv_iconst (v := 3) hx hb dX5_order_36 (by decide) ?_
          refine lv_goto (tgt := 41) hx hb dX5_order_37 (by decide) ?_
          exact g_iret hC hr dX5_order_41 (Nat.le_of_ble_eq_true rfl) (Nat.le_of_ble_eq_true rfl) (by unfold fOrd; grind)
      · refine lv_iconst (v := 2) hx hb dX5_order_26 (by decide) ?_
        refine lv_goto (tgt := 41) hx hb dX5_order_27 (by decide) ?_
        exact g_iret hC hr dX5_order_41 (Nat.le_of_ble_eq_true rfl) (Nat.le_of_ble_eq_true rfl) (by unfold fOrd; grind)
    · refine lv_iconst (v := 1) hx hb dX5_order_16 (by decide) ?_
      refine lv_goto (tgt := 41) hx hb dX5_order_17 (by decide) ?_
      exact g_iret hC hr dX5_order_41 (Nat.le_of_ble_eq_true rfl) (Nat.le_of_ble_eq_true rfl) (by unfold fOrd; grind)
  · refine lv_iconst (v := 0) hx hb dX5_order_6 (by decide) ?_
    refine lv_goto (tgt := 41) hx hb dX5_order_7 (by decide) ?_
    exact g_iret hC hr dX5_order_41 (Nat.le_of_ble_eq_true rfl) (Nat.le_of_ble_eq_true rfl) (by unfold fOrd; grind)
set_option maxHeartbeats 4000000 in
set_option maxRecDepth 100000 in
theorem c_X5_isPower {l : Launch} {E : gV} (hE : gOK l E) (li fi la : Int32) : gM l E yX5_isPower cX5_isPower 3 (some .boolean) ({ frames := 1, cells := 0, slots := 0, locals := 22 } : Room) [.int li, .int fi, .int la] (fun H => True) (gQR (gPi (bz (isPw li fi la)))) (fun _ => False) gN := by
  refine gM_body hE (by decide +kernel) (Nat.le_of_ble_eq_true rfl) ?_
  intro p_ e_ s m args below meth c hC ht hr hname hP ls hl
  have hx := hC.2.2.1
  have hb := hC.2.2.2.1
  have hl : lv_has ls 3 [(0, .int li), (1, .int fi), (2, .int la)] := hl
  refine lv_iload_n hx hb dX5_isPower_0 rfl (lv_at hl 0 rfl) ?_
  refine lv_iconst (v := 1) hx hb dX5_isPower_1 (by decide) ?_
  refine lv_ldc (own := "SignatoryModel") (v := 99999) hx hb hC.2.2.2.2.2.1 (gw hC.1 hC.2.1 k_1118 rfl) dX5_isPower_2 ?_
  refine g_cRi (k2 := 0) (n2 := 0) (g_runS (rest := []) hC (c_X5_isIn hE li 1 99999) Y_X5_isIn k_1096 S_X5_isIn trivial rfl hl.1 dX5_isPower_4 ⟨Nat.le_of_ble_eq_true rfl, Nat.le_of_ble_eq_true rfl⟩ ⟨Nat.le_of_ble_eq_true rfl, Nat.le_of_ble_eq_true rfl⟩ rfl (Nat.le_of_ble_eq_true rfl)) rfl rfl g_no (fun r1_ h2_ => ?_)
  refine lv_if_eq (tgt := 30) hx hb dX5_isPower_7 (by decide) (fun c3_ => ?_) (fun c3_ => ?_)
  · have q4_ := bz.f h2_ c3_
    refine lv_iconst (v := 0) hx hb dX5_isPower_30 (by decide) ?_
    exact g_zret hC hr rfl dX5_isPower_31 (Nat.le_of_ble_eq_true rfl) (Nat.le_of_ble_eq_true rfl) (bz_0 (by grind))
  · have q4_ := bz.t h2_ c3_
    refine lv_iload_n hx hb dX5_isPower_10 rfl (lv_at hl 1 rfl) ?_
    refine lv_if_lt (tgt := 30) hx hb dX5_isPower_11 (by decide) (fun c5_ => ?_) (fun c5_ => ?_)
    · refine lv_iconst (v := 0) hx hb dX5_isPower_30 (by decide) ?_
      exact g_zret hC hr rfl dX5_isPower_31 (Nat.le_of_ble_eq_true rfl) (Nat.le_of_ble_eq_true rfl) (bz_0 (by grind))
    · refine lv_iload_n hx hb dX5_isPower_14 rfl (lv_at hl 2 rfl) ?_
      refine lv_iload_n hx hb dX5_isPower_15 rfl (lv_at hl 1 rfl) ?_
      refine lv_icmp_lt (tgt := 30) hx hb dX5_isPower_16 (by decide) (fun c6_ => ?_) (fun c6_ => ?_)
      · refine lv_iconst (v := 0) hx hb dX5_isPower_30 (by decide) ?_
        exact g_zret hC hr rfl dX5_isPower_31 (Nat.le_of_ble_eq_true rfl) (Nat.le_of_ble_eq_true rfl) (bz_0 (by grind))
      · refine lv_iload_n hx hb dX5_isPower_19 rfl (lv_at hl 2 rfl) ?_
        refine lv_sipush (v := 999) hx hb dX5_isPower_20 (by decide) ?_
        refine lv_icmp_gt (tgt := 30) hx hb dX5_isPower_23 (by decide) (fun c7_ => ?_) (fun c7_ => ?_)
        · refine lv_iconst (v := 0) hx hb dX5_isPower_30 (by decide) ?_
          exact g_zret hC hr rfl dX5_isPower_31 (Nat.le_of_ble_eq_true rfl) (Nat.le_of_ble_eq_true rfl) (bz_0 (by grind))
        · refine lv_iconst (v := 1) hx hb dX5_isPower_26 (by decide) ?_
          refine lv_goto (tgt := 31) hx hb dX5_isPower_27 (by decide) ?_
          exact g_zret hC hr rfl dX5_isPower_31 (Nat.le_of_ble_eq_true rfl) (Nat.le_of_ble_eq_true rfl) (bz_1 (by grind))
set_option maxHeartbeats 4000000 in
set_option maxRecDepth 100000 in
theorem c_X5_isNoPower {l : Launch} {E : gV} (hE : gOK l E) {β : Nat → Nat} {μ : F2} {K : Nat → Nat} {dp th : Int32} (hK : K 1 ≤ 24) (p0 : Int32) : gM l E yX5_isNoPower cX5_isNoPower 2 (some .boolean) ({ frames := 1, cells := 0, slots := 0, locals := 22 } : Room) [.ref (β 19), .int p0] (fun H => RM E β μ K dp th H) (gQW (mA β) (gWi (fun r H => bz (¬ isP (K 1) p0) r ∧ RM E β μ K dp (thr r 1) H))) (fun _ => False) (mA β) := by
  refine gM_body hE (by decide +kernel) (Nat.le_of_ble_eq_true rfl) ?_
  intro p_ e_ s m args below meth c hC ht hr hname hP ls hl
  have hx := hC.2.2.1
  have hb := hC.2.2.2.1
  have hl : lv_has ls 2 [(0, .ref (β 19)), (1, .int p0)] := hl
  have hS : va_S ((mA β)) s.heap s.heap [] := va_S.rf
  have hR : RM E β μ K dp th s.heap := hP
  refine lv_aload_n hx hb dX5_isNoPower_0 rfl (lv_at hl 0 rfl) ?_
  refine lv_iload_n hx hb dX5_isNoPower_1 rfl (lv_at hl 1 rfl) ?_
  refine lv_iconst (v := 0) hx hb dX5_isNoPower_2 (by decide) ?_
  refine lv_aload_n hx hb dX5_isNoPower_3 rfl (lv_at hl 0 rfl) ?_
  refine g_get (v := .int (nI (K 1))) hC hR.obj (C := RX5) (T := TX5) (N := 26) rfl u5_in 20 (by decide) k_1016 rfl dX5_isNoPower_4 ?_
  refine lv_iconst (v := 1) hx hb dX5_isNoPower_7 (by decide) ?_
  refine lv_isub hx hb dX5_isNoPower_8 ?_
  refine g_cRi (k2 := 0) (n2 := 0) (g_runS (rest := [.ref (β 19)]) hC (c_X5_isIn hE p0 0 ((nI (K 1)) - 1)) Y_X5_isIn k_1096 S_X5_isIn trivial rfl hl.1 dX5_isNoPower_9 ⟨Nat.le_of_ble_eq_true rfl, Nat.le_of_ble_eq_true rfl⟩ ⟨Nat.le_of_ble_eq_true rfl, Nat.le_of_ble_eq_true rfl⟩ rfl (Nat.le_of_ble_eq_true rfl)) rfl rfl g_no (fun r1_ h2_ => ?_)
  have f3_ := h2_.iff (isIn_1 (by omega))
  refine lv_if_ne (tgt := 19) hx hb dX5_isNoPower_12 (by decide) (fun c4_ => ?_) (fun c4_ => ?_)
  · have q5_ := bz.t f3_ c4_
    refine lv_iconst (v := 0) hx hb dX5_isNoPower_19 (by decide) ?_
    refine lv_iconst (v := 1) hx hb dX5_isNoPower_20 (by decide) ?_
    refine g_cWi (k2 := 0) (n2 := 0) (g_runV (rest := []) hC (c_X5_isThrown hE (β := β) (μ := μ) (K := K) (dp := dp) (th := th) 0 1 rfl) Y_X5_isThrown k_1084 I_X5_isThrown V_X5_isThrown hR.obj rfl hR rfl hl.1 dX5_isNoPower_21 ⟨Nat.le_of_ble_eq_true rfl, Nat.le_of_ble_eq_true rfl⟩ ⟨Nat.le_of_ble_eq_true rfl, Nat.le_of_ble_eq_true rfl⟩ rfl (Nat.le_of_ble_eq_true rfl)) hS (fun _ h => h) rfl rfl (fun r6_ H lo h7_ _ _ hS => ?_)
    obtain ⟨rfl, hR⟩ := h7_
    have hR : RM E β μ K dp 0 H := hR
    exact g_zretW hC hr rfl dX5_isNoPower_24 hS (Nat.le_of_ble_eq_true rfl) (Nat.le_of_ble_eq_true rfl) ⟨bz_0 (fun q => q (by assumption)), hR⟩
  · have q5_ := bz.f f3_ c4_
    refine lv_iconst (v := 1) hx hb dX5_isNoPower_15 (by decide) ?_
    refine lv_goto (tgt := 20) hx hb dX5_isNoPower_16 (by decide) ?_
    refine lv_iconst (v := 1) hx hb dX5_isNoPower_20 (by decide) ?_
    refine g_cWi (k2 := 0) (n2 := 0) (g_runV (rest := []) hC (c_X5_isThrown hE (β := β) (μ := μ) (K := K) (dp := dp) (th := th) 1 1 rfl) Y_X5_isThrown k_1084 I_X5_isThrown V_X5_isThrown hR.obj rfl hR rfl hl.1 dX5_isNoPower_21 ⟨Nat.le_of_ble_eq_true rfl, Nat.le_of_ble_eq_true rfl⟩ ⟨Nat.le_of_ble_eq_true rfl, Nat.le_of_ble_eq_true rfl⟩ rfl (Nat.le_of_ble_eq_true rfl)) hS (fun _ h => h) rfl rfl (fun r8_ H lo h9_ _ _ hS => ?_)
    obtain ⟨rfl, hR⟩ := h9_
    have hR : RM E β μ K dp 1 H := hR
    exact g_zretW hC hr rfl dX5_isNoPower_24 hS (Nat.le_of_ble_eq_true rfl) (Nat.le_of_ble_eq_true rfl) ⟨bz_1 ((by assumption)), hR⟩
set_option maxHeartbeats 4000000 in
set_option maxRecDepth 100000 in
theorem c_X5_isNoDeed {l : Launch} {E : gV} (hE : gOK l E) {β : Nat → Nat} {μ : F2} {K : Nat → Nat} {dp th : Int32} (hK : K 2 ≤ 24) (p0 : Int32) : gM l E yX5_isNoDeed cX5_isNoDeed 2 (some .boolean) ({ frames := 1, cells := 0, slots := 0, locals := 22 } : Room) [.ref (β 19), .int p0] (fun H => RM E β μ K dp th H) (gQW (mA β) (gWi (fun r H => bz (¬ isP (K 2) p0) r ∧ RM E β μ K dp (thr r 1) H))) (fun _ => False) (mA β) := by
  refine gM_body hE (by decide +kernel) (Nat.le_of_ble_eq_true rfl) ?_
  intro p_ e_ s m args below meth c hC ht hr hname hP ls hl
  have hx := hC.2.2.1
  have hb := hC.2.2.2.1
  have hl : lv_has ls 2 [(0, .ref (β 19)), (1, .int p0)] := hl
  have hS : va_S ((mA β)) s.heap s.heap [] := va_S.rf
  have hR : RM E β μ K dp th s.heap := hP
  refine lv_aload_n hx hb dX5_isNoDeed_0 rfl (lv_at hl 0 rfl) ?_
  refine lv_iload_n hx hb dX5_isNoDeed_1 rfl (lv_at hl 1 rfl) ?_
  refine lv_iconst (v := 0) hx hb dX5_isNoDeed_2 (by decide) ?_
  refine lv_aload_n hx hb dX5_isNoDeed_3 rfl (lv_at hl 0 rfl) ?_
  refine g_get (v := .int (nI (K 2))) hC hR.obj (C := RX5) (T := TX5) (N := 26) rfl u5_in 21 (by decide) k_1017 rfl dX5_isNoDeed_4 ?_
  refine lv_iconst (v := 1) hx hb dX5_isNoDeed_7 (by decide) ?_
  refine lv_isub hx hb dX5_isNoDeed_8 ?_
  refine g_cRi (k2 := 0) (n2 := 0) (g_runS (rest := [.ref (β 19)]) hC (c_X5_isIn hE p0 0 ((nI (K 2)) - 1)) Y_X5_isIn k_1096 S_X5_isIn trivial rfl hl.1 dX5_isNoDeed_9 ⟨Nat.le_of_ble_eq_true rfl, Nat.le_of_ble_eq_true rfl⟩ ⟨Nat.le_of_ble_eq_true rfl, Nat.le_of_ble_eq_true rfl⟩ rfl (Nat.le_of_ble_eq_true rfl)) rfl rfl g_no (fun r1_ h2_ => ?_)
  have f3_ := h2_.iff (isIn_1 (by omega))
  refine lv_if_ne (tgt := 19) hx hb dX5_isNoDeed_12 (by decide) (fun c4_ => ?_) (fun c4_ => ?_)
  · have q5_ := bz.t f3_ c4_
    refine lv_iconst (v := 0) hx hb dX5_isNoDeed_19 (by decide) ?_
    refine lv_iconst (v := 1) hx hb dX5_isNoDeed_20 (by decide) ?_
    refine g_cWi (k2 := 0) (n2 := 0) (g_runV (rest := []) hC (c_X5_isThrown hE (β := β) (μ := μ) (K := K) (dp := dp) (th := th) 0 1 rfl) Y_X5_isThrown k_1084 I_X5_isThrown V_X5_isThrown hR.obj rfl hR rfl hl.1 dX5_isNoDeed_21 ⟨Nat.le_of_ble_eq_true rfl, Nat.le_of_ble_eq_true rfl⟩ ⟨Nat.le_of_ble_eq_true rfl, Nat.le_of_ble_eq_true rfl⟩ rfl (Nat.le_of_ble_eq_true rfl)) hS (fun _ h => h) rfl rfl (fun r6_ H lo h7_ _ _ hS => ?_)
    obtain ⟨rfl, hR⟩ := h7_
    have hR : RM E β μ K dp 0 H := hR
    exact g_zretW hC hr rfl dX5_isNoDeed_24 hS (Nat.le_of_ble_eq_true rfl) (Nat.le_of_ble_eq_true rfl) ⟨bz_0 (fun q => q (by assumption)), hR⟩
  · have q5_ := bz.f f3_ c4_
    refine lv_iconst (v := 1) hx hb dX5_isNoDeed_15 (by decide) ?_
    refine lv_goto (tgt := 20) hx hb dX5_isNoDeed_16 (by decide) ?_
    refine lv_iconst (v := 1) hx hb dX5_isNoDeed_20 (by decide) ?_
    refine g_cWi (k2 := 0) (n2 := 0) (g_runV (rest := []) hC (c_X5_isThrown hE (β := β) (μ := μ) (K := K) (dp := dp) (th := th) 1 1 rfl) Y_X5_isThrown k_1084 I_X5_isThrown V_X5_isThrown hR.obj rfl hR rfl hl.1 dX5_isNoDeed_21 ⟨Nat.le_of_ble_eq_true rfl, Nat.le_of_ble_eq_true rfl⟩ ⟨Nat.le_of_ble_eq_true rfl, Nat.le_of_ble_eq_true rfl⟩ rfl (Nat.le_of_ble_eq_true rfl)) hS (fun _ h => h) rfl rfl (fun r8_ H lo h9_ _ _ hS => ?_)
    obtain ⟨rfl, hR⟩ := h9_
    have hR : RM E β μ K dp 1 H := hR
    exact g_zretW hC hr rfl dX5_isNoDeed_24 hS (Nat.le_of_ble_eq_true rfl) (Nat.le_of_ble_eq_true rfl) ⟨bz_1 ((by assumption)), hR⟩
set_option maxHeartbeats 4000000 in
set_option maxRecDepth 100000 in
theorem c_X5_isNoSum {l : Launch} {E : gV} (hE : gOK l E) {β : Nat → Nat} {μ : F2} {K : Nat → Nat} {dp th : Int32} (s0 as : Int32) : gM l E yX5_isNoSum cX5_isNoSum 3 (some .boolean) ({ frames := 1, cells := 0, slots := 0, locals := 22 } : Room) [.ref (β 19), .int s0, .int as] (fun H => RM E β μ K dp th H) (gQW (mA β) (gWi (fun r H => bz (¬ isSm s0) r ∧ RM E β μ K dp (thr r as) H))) (fun _ => False) (mA β) := by
  refine gM_body hE (by decide +kernel) (Nat.le_of_ble_eq_true rfl) ?_
  intro p_ e_ s m args below meth c hC ht hr hname hP ls hl
  have hx := hC.2.2.1
  have hb := hC.2.2.2.1
  have hl : lv_has ls 3 [(0, .ref (β 19)), (1, .int s0), (2, .int as)] := hl
  have hS : va_S ((mA β)) s.heap s.heap [] := va_S.rf
  have hR : RM E β μ K dp th s.heap := hP
  refine lv_aload_n hx hb dX5_isNoSum_0 rfl (lv_at hl 0 rfl) ?_
  refine lv_iload_n hx hb dX5_isNoSum_1 rfl (lv_at hl 1 rfl) ?_
  refine lv_iconst (v := 1) hx hb dX5_isNoSum_2 (by decide) ?_
  refine lv_ldc (own := "SignatoryModel") (v := 99999) hx hb hC.2.2.2.2.2.1 (gw hC.1 hC.2.1 k_1118 rfl) dX5_isNoSum_3 ?_
  refine g_cRi (k2 := 0) (n2 := 0) (g_runS (rest := [.ref (β 19)]) hC (c_X5_isIn hE s0 1 99999) Y_X5_isIn k_1096 S_X5_isIn trivial rfl hl.1 dX5_isNoSum_5 ⟨Nat.le_of_ble_eq_true rfl, Nat.le_of_ble_eq_true rfl⟩ ⟨Nat.le_of_ble_eq_true rfl, Nat.le_of_ble_eq_true rfl⟩ rfl (Nat.le_of_ble_eq_true rfl)) rfl rfl g_no (fun r1_ h2_ => ?_)
  refine lv_if_ne (tgt := 15) hx hb dX5_isNoSum_8 (by decide) (fun c3_ => ?_) (fun c3_ => ?_)
  · have q4_ := bz.t h2_ c3_
    refine lv_iconst (v := 0) hx hb dX5_isNoSum_15 (by decide) ?_
    refine lv_iload_n hx hb dX5_isNoSum_16 rfl (lv_at hl 2 rfl) ?_
    refine g_cWi (k2 := 0) (n2 := 0) (g_runV (rest := []) hC (c_X5_isThrown hE (β := β) (μ := μ) (K := K) (dp := dp) (th := th) 0 as rfl) Y_X5_isThrown k_1084 I_X5_isThrown V_X5_isThrown hR.obj rfl hR rfl hl.1 dX5_isNoSum_17 ⟨Nat.le_of_ble_eq_true rfl, Nat.le_of_ble_eq_true rfl⟩ ⟨Nat.le_of_ble_eq_true rfl, Nat.le_of_ble_eq_true rfl⟩ rfl (Nat.le_of_ble_eq_true rfl)) hS (fun _ h => h) rfl rfl (fun r5_ H lo h6_ _ _ hS => ?_)
    obtain ⟨rfl, hR⟩ := h6_
    have hR : RM E β μ K dp 0 H := hR
    exact g_zretW hC hr rfl dX5_isNoSum_20 hS (Nat.le_of_ble_eq_true rfl) (Nat.le_of_ble_eq_true rfl) ⟨bz_0 (by grind), hR⟩
  · have q4_ := bz.f h2_ c3_
    refine lv_iconst (v := 1) hx hb dX5_isNoSum_11 (by decide) ?_
    refine lv_goto (tgt := 16) hx hb dX5_isNoSum_12 (by decide) ?_
    refine lv_iload_n hx hb dX5_isNoSum_16 rfl (lv_at hl 2 rfl) ?_
    refine g_cWi (k2 := 0) (n2 := 0) (g_runV (rest := []) hC (c_X5_isThrown hE (β := β) (μ := μ) (K := K) (dp := dp) (th := th) 1 as rfl) Y_X5_isThrown k_1084 I_X5_isThrown V_X5_isThrown hR.obj rfl hR rfl hl.1 dX5_isNoSum_17 ⟨Nat.le_of_ble_eq_true rfl, Nat.le_of_ble_eq_true rfl⟩ ⟨Nat.le_of_ble_eq_true rfl, Nat.le_of_ble_eq_true rfl⟩ rfl (Nat.le_of_ble_eq_true rfl)) hS (fun _ h => h) rfl rfl (fun r7_ H lo h8_ _ _ hS => ?_)
    obtain ⟨rfl, hR⟩ := h8_
    have hR : RM E β μ K dp as H := hR
    exact g_zretW hC hr rfl dX5_isNoSum_20 hS (Nat.le_of_ble_eq_true rfl) (Nat.le_of_ble_eq_true rfl) ⟨bz_1 (by grind), hR⟩
set_option maxHeartbeats 4000000 in
set_option maxRecDepth 100000 in
theorem c_X5_isNoAsk {l : Launch} {E : gV} (hE : gOK l E) {β : Nat → Nat} {μ : F2} {K : Nat → Nat} {dp th : Int32} (k0 s0 as : Int32) : gM l E yX5_isNoAsk cX5_isNoAsk 4 (some .boolean) ({ frames := 1, cells := 0, slots := 0, locals := 22 } : Room) [.ref (β 19), .int k0, .int s0, .int as] (fun H => RM E β μ K dp th H) (gQW (mA β) (gWi (fun r H => bz (¬ isKd k0 ∨ ¬ isSm s0) r ∧ RM E β μ K dp (thr r as) H))) (fun _ => False) (mA β) := by
  refine gM_body hE (by decide +kernel) (Nat.le_of_ble_eq_true rfl) ?_
  intro p_ e_ s m args below meth c hC ht hr hname hP ls hl
  have hx := hC.2.2.1
  have hb := hC.2.2.2.1
  have hl : lv_has ls 4 [(0, .ref (β 19)), (1, .int k0), (2, .int s0), (3, .int as)] := hl
  have hS : va_S ((mA β)) s.heap s.heap [] := va_S.rf
  have hR : RM E β μ K dp th s.heap := hP
  refine lv_aload_n hx hb dX5_isNoAsk_0 rfl (lv_at hl 0 rfl) ?_
  refine lv_iload_n hx hb dX5_isNoAsk_1 rfl (lv_at hl 1 rfl) ?_
  refine lv_iconst (v := 0) hx hb dX5_isNoAsk_2 (by decide) ?_
  refine lv_iconst (v := 3) hx hb dX5_isNoAsk_3 (by decide) ?_
  refine g_cRi (k2 := 0) (n2 := 0) (g_runS (rest := [.ref (β 19)]) hC (c_X5_isIn hE k0 0 3) Y_X5_isIn k_1096 S_X5_isIn trivial rfl hl.1 dX5_isNoAsk_4 ⟨Nat.le_of_ble_eq_true rfl, Nat.le_of_ble_eq_true rfl⟩ ⟨Nat.le_of_ble_eq_true rfl, Nat.le_of_ble_eq_true rfl⟩ rfl (Nat.le_of_ble_eq_true rfl)) rfl rfl g_no (fun r1_ h2_ => ?_)
  refine lv_if_eq (tgt := 20) hx hb dX5_isNoAsk_7 (by decide) (fun c3_ => ?_) (fun c3_ => ?_)
  · have q4_ := bz.f h2_ c3_
    refine lv_iconst (v := 1) hx hb dX5_isNoAsk_20 (by decide) ?_
    refine lv_goto (tgt := 25) hx hb dX5_isNoAsk_21 (by decide) ?_
    refine lv_iload_n hx hb dX5_isNoAsk_25 rfl (lv_at hl 3 rfl) ?_
    refine g_cWi (k2 := 0) (n2 := 0) (g_runV (rest := []) hC (c_X5_isThrown hE (β := β) (μ := μ) (K := K) (dp := dp) (th := th) 1 as rfl) Y_X5_isThrown k_1084 I_X5_isThrown V_X5_isThrown hR.obj rfl hR rfl hl.1 dX5_isNoAsk_26 ⟨Nat.le_of_ble_eq_true rfl, Nat.le_of_ble_eq_true rfl⟩ ⟨Nat.le_of_ble_eq_true rfl, Nat.le_of_ble_eq_true rfl⟩ rfl (Nat.le_of_ble_eq_true rfl)) hS (fun _ h => h) rfl rfl (fun r5_ H lo h6_ _ _ hS => ?_)
    obtain ⟨rfl, hR⟩ := h6_
    have hR : RM E β μ K dp as H := hR
    exact g_zretW hC hr rfl dX5_isNoAsk_29 hS (Nat.le_of_ble_eq_true rfl) (Nat.le_of_ble_eq_true rfl) ⟨bz_1 (by grind), hR⟩
  · have q4_ := bz.t h2_ c3_
    refine lv_iload_n hx hb dX5_isNoAsk_10 rfl (lv_at hl 2 rfl) ?_
    refine lv_iconst (v := 1) hx hb dX5_isNoAsk_11 (by decide) ?_
    refine lv_ldc (own := "SignatoryModel") (v := 99999) hx hb hC.2.2.2.2.2.1 (gw hC.1 hC.2.1 k_1118 rfl) dX5_isNoAsk_12 ?_
    refine g_cRi (k2 := 0) (n2 := 0) (g_runS (rest := [.ref (β 19)]) hC (c_X5_isIn hE s0 1 99999) Y_X5_isIn k_1096 S_X5_isIn trivial rfl hl.1 dX5_isNoAsk_14 ⟨Nat.le_of_ble_eq_true rfl, Nat.le_of_ble_eq_true rfl⟩ ⟨Nat.le_of_ble_eq_true rfl, Nat.le_of_ble_eq_true rfl⟩ rfl (Nat.le_of_ble_eq_true rfl)) rfl rfl g_no (fun r7_ h8_ => ?_)
    refine lv_if_ne (tgt := 24) hx hb dX5_isNoAsk_17 (by decide) (fun c9_ => ?_) (fun c9_ => ?_)
    · have q10_ := bz.t h8_ c9_
      refine lv_iconst (v := 0) hx hb dX5_isNoAsk_24 (by decide) ?_
      refine lv_iload_n hx hb dX5_isNoAsk_25 rfl (lv_at hl 3 rfl) ?_
      refine g_cWi (k2 := 0) (n2 := 0) (g_runV (rest := []) hC (c_X5_isThrown hE (β := β) (μ := μ) (K := K) (dp := dp) (th := th) 0 as rfl) Y_X5_isThrown k_1084 I_X5_isThrown V_X5_isThrown hR.obj rfl hR rfl hl.1 dX5_isNoAsk_26 ⟨Nat.le_of_ble_eq_true rfl, Nat.le_of_ble_eq_true rfl⟩ ⟨Nat.le_of_ble_eq_true rfl, Nat.le_of_ble_eq_true rfl⟩ rfl (Nat.le_of_ble_eq_true rfl)) hS (fun _ h => h) rfl rfl (fun r11_ H lo h12_ _ _ hS => ?_)
      obtain ⟨rfl, hR⟩ := h12_
      have hR : RM E β μ K dp 0 H := hR
      exact g_zretW hC hr rfl dX5_isNoAsk_29 hS (Nat.le_of_ble_eq_true rfl) (Nat.le_of_ble_eq_true rfl) ⟨bz_0 (by grind), hR⟩
    · have q10_ := bz.f h8_ c9_
      refine lv_iconst (v := 1) hx hb dX5_isNoAsk_20 (by decide) ?_
      refine lv_goto (tgt := 25) hx hb dX5_isNoAsk_21 (by decide) ?_
      refine lv_iload_n hx hb dX5_isNoAsk_25 rfl (lv_at hl 3 rfl) ?_
      refine g_cWi (k2 := 0) (n2 := 0) (g_runV (rest := []) hC (c_X5_isThrown hE (β := β) (μ := μ) (K := K) (dp := dp) (th := th) 1 as rfl) Y_X5_isThrown k_1084 I_X5_isThrown V_X5_isThrown hR.obj rfl hR rfl hl.1 dX5_isNoAsk_26 ⟨Nat.le_of_ble_eq_true rfl, Nat.le_of_ble_eq_true rfl⟩ ⟨Nat.le_of_ble_eq_true rfl, Nat.le_of_ble_eq_true rfl⟩ rfl (Nat.le_of_ble_eq_true rfl)) hS (fun _ h => h) rfl rfl (fun r13_ H lo h14_ _ _ hS => ?_)
      obtain ⟨rfl, hR⟩ := h14_
      have hR : RM E β μ K dp as H := hR
      exact g_zretW hC hr rfl dX5_isNoAsk_29 hS (Nat.le_of_ble_eq_true rfl) (Nat.le_of_ble_eq_true rfl) ⟨bz_1 (by grind), hR⟩
set_option maxHeartbeats 4000000 in
set_option maxRecDepth 100000 in
theorem c_X5_isNoDeed_ {l : Launch} {E : gV} (hE : gOK l E) {β : Nat → Nat} {μ : F2} {K : Nat → Nat} {dp th : Int32} (k0 a0 pa0 : Int32) : gM l E yX5_isNoDeed_ cX5_isNoDeed_ 4 (some .boolean) ({ frames := 1, cells := 0, slots := 0, locals := 22 } : Room) [.ref (β 19), .int k0, .int a0, .int pa0] (fun H => RM E β μ K dp th H) (gQW (mA β) (gWi (fun r H => bz (¬ isDl k0 a0 pa0) r ∧ RM E β μ K dp (thr r 2) H))) (fun _ => False) (mA β) := by
  refine gM_body hE (by decide +kernel) (Nat.le_of_ble_eq_true rfl) ?_
  intro p_ e_ s m args below meth c hC ht hr hname hP ls hl
  have hx := hC.2.2.1
  have hb := hC.2.2.2.1
  have hl : lv_has ls 4 [(0, .ref (β 19)), (1, .int k0), (2, .int a0), (3, .int pa0)] := hl
  have hS : va_S ((mA β)) s.heap s.heap [] := va_S.rf
  have hR : RM E β μ K dp th s.heap := hP
  refine lv_aload_n hx hb dX5_isNoDeed__0 rfl (lv_at hl 0 rfl) ?_
  refine lv_iload_n hx hb dX5_isNoDeed__1 rfl (lv_at hl 1 rfl) ?_
  refine lv_iconst (v := 0) hx hb dX5_isNoDeed__2 (by decide) ?_
  refine lv_iconst (v := 3) hx hb dX5_isNoDeed__3 (by decide) ?_
  refine g_cRi (k2 := 0) (n2 := 0) (g_runS (rest := [.ref (β 19)]) hC (c_X5_isIn hE k0 0 3) Y_X5_isIn k_1096 S_X5_isIn trivial rfl hl.1 dX5_isNoDeed__4 ⟨Nat.le_of_ble_eq_true rfl, Nat.le_of_ble_eq_true rfl⟩ ⟨Nat.le_of_ble_eq_true rfl, Nat.le_of_ble_eq_true rfl⟩ rfl (Nat.le_of_ble_eq_true rfl)) rfl rfl g_no (fun r1_ h2_ => ?_)
  refine lv_if_eq (tgt := 31) hx hb dX5_isNoDeed__7 (by decide) (fun c3_ => ?_) (fun c3_ => ?_)
  · have q4_ := bz.f h2_ c3_
    refine lv_iconst (v := 1) hx hb dX5_isNoDeed__31 (by decide) ?_
    refine lv_goto (tgt := 36) hx hb dX5_isNoDeed__32 (by decide) ?_
    refine lv_iconst (v := 2) hx hb dX5_isNoDeed__36 (by decide) ?_
    refine g_cWi (k2 := 0) (n2 := 0) (g_runV (rest := []) hC (c_X5_isThrown hE (β := β) (μ := μ) (K := K) (dp := dp) (th := th) 1 2 rfl) Y_X5_isThrown k_1084 I_X5_isThrown V_X5_isThrown hR.obj rfl hR rfl hl.1 dX5_isNoDeed__37 ⟨Nat.le_of_ble_eq_true rfl, Nat.le_of_ble_eq_true rfl⟩ ⟨Nat.le_of_ble_eq_true rfl, Nat.le_of_ble_eq_true rfl⟩ rfl (Nat.le_of_ble_eq_true rfl)) hS (fun _ h => h) rfl rfl (fun r5_ H lo h6_ _ _ hS => ?_)
    obtain ⟨rfl, hR⟩ := h6_
    have hR : RM E β μ K dp 2 H := hR
    exact g_zretW hC hr rfl dX5_isNoDeed__40 hS (Nat.le_of_ble_eq_true rfl) (Nat.le_of_ble_eq_true rfl) ⟨bz_1 (by grind), hR⟩
  · have q4_ := bz.t h2_ c3_
    refine lv_iload_n hx hb dX5_isNoDeed__10 rfl (lv_at hl 3 rfl) ?_
    refine lv_iconst (v := 0) hx hb dX5_isNoDeed__11 (by decide) ?_
    refine lv_bipush (v := 9) hx hb dX5_isNoDeed__12 (by decide) ?_
    refine g_cRi (k2 := 0) (n2 := 0) (g_runS (rest := [.ref (β 19)]) hC (c_X5_isIn hE pa0 0 9) Y_X5_isIn k_1096 S_X5_isIn trivial rfl hl.1 dX5_isNoDeed__14 ⟨Nat.le_of_ble_eq_true rfl, Nat.le_of_ble_eq_true rfl⟩ ⟨Nat.le_of_ble_eq_true rfl, Nat.le_of_ble_eq_true rfl⟩ rfl (Nat.le_of_ble_eq_true rfl)) rfl rfl g_no (fun r7_ h8_ => ?_)
    refine lv_if_eq (tgt := 31) hx hb dX5_isNoDeed__17 (by decide) (fun c9_ => ?_) (fun c9_ => ?_)
    · have q10_ := bz.f h8_ c9_
      refine lv_iconst (v := 1) hx hb dX5_isNoDeed__31 (by decide) ?_
      refine lv_goto (tgt := 36) hx hb dX5_isNoDeed__32 (by decide) ?_
      refine lv_iconst (v := 2) hx hb dX5_isNoDeed__36 (by decide) ?_
      refine g_cWi (k2 := 0) (n2 := 0) (g_runV (rest := []) hC (c_X5_isThrown hE (β := β) (μ := μ) (K := K) (dp := dp) (th := th) 1 2 rfl) Y_X5_isThrown k_1084 I_X5_isThrown V_X5_isThrown hR.obj rfl hR rfl hl.1 dX5_isNoDeed__37 ⟨Nat.le_of_ble_eq_true rfl, Nat.le_of_ble_eq_true rfl⟩ ⟨Nat.le_of_ble_eq_true rfl, Nat.le_of_ble_eq_true rfl⟩ rfl (Nat.le_of_ble_eq_true rfl)) hS (fun _ h => h) rfl rfl (fun r11_ H lo h12_ _ _ hS => ?_)
      obtain ⟨rfl, hR⟩ := h12_
      have hR : RM E β μ K dp 2 H := hR
      exact g_zretW hC hr rfl dX5_isNoDeed__40 hS (Nat.le_of_ble_eq_true rfl) (Nat.le_of_ble_eq_true rfl) ⟨bz_1 (by grind), hR⟩
    · have q10_ := bz.t h8_ c9_
      refine lv_iload_n hx hb dX5_isNoDeed__20 rfl (lv_at hl 2 rfl) ?_
      refine lv_iconst (v := 1) hx hb dX5_isNoDeed__21 (by decide) ?_
      refine lv_sipush (v := 9999) hx hb dX5_isNoDeed__22 (by decide) ?_
      refine g_cRi (k2 := 0) (n2 := 0) (g_runS (rest := [.ref (β 19)]) hC (c_X5_isIn hE a0 1 9999) Y_X5_isIn k_1096 S_X5_isIn trivial rfl hl.1 dX5_isNoDeed__25 ⟨Nat.le_of_ble_eq_true rfl, Nat.le_of_ble_eq_true rfl⟩ ⟨Nat.le_of_ble_eq_true rfl, Nat.le_of_ble_eq_true rfl⟩ rfl (Nat.le_of_ble_eq_true rfl)) rfl rfl g_no (fun r13_ h14_ => ?_)
      refine lv_if_ne (tgt := 35) hx hb dX5_isNoDeed__28 (by decide) (fun c15_ => ?_) (fun c15_ => ?_)
      · have q16_ := bz.t h14_ c15_
        refine lv_iconst (v := 0) hx hb dX5_isNoDeed__35 (by decide) ?_
        refine lv_iconst (v := 2) hx hb dX5_isNoDeed__36 (by decide) ?_
        refine g_cWi (k2 := 0) (n2 := 0) (g_runV (rest := []) hC (c_X5_isThrown hE (β := β) (μ := μ) (K := K) (dp := dp) (th := th) 0 2 rfl) Y_X5_isThrown k_1084 I_X5_isThrown V_X5_isThrown hR.obj rfl hR rfl hl.1 dX5_isNoDeed__37 ⟨Nat.le_of_ble_eq_true rfl, Nat.le_of_ble_eq_true rfl⟩ ⟨Nat.le_of_ble_eq_true rfl, Nat.le_of_ble_eq_true rfl⟩ rfl (Nat.le_of_ble_eq_true rfl)) hS (fun _ h => h) rfl rfl (fun r17_ H lo h18_ _ _ hS => ?_)
        obtain ⟨rfl, hR⟩ := h18_
        have hR : RM E β μ K dp 0 H := hR
        exact g_zretW hC hr rfl dX5_isNoDeed__40 hS (Nat.le_of_ble_eq_true rfl) (Nat.le_of_ble_eq_true rfl) ⟨bz_0 (by grind), hR⟩
      · have q16_ := bz.f h14_ c15_
        refine lv_iconst (v := 1) hx hb dX5_isNoDeed__31 (by decide) ?_
        refine lv_goto (tgt := 36) hx hb dX5_isNoDeed__32 (by decide) ?_
        refine lv_iconst (v := 2) hx hb dX5_isNoDeed__36 (by decide) ?_
        refine g_cWi (k2 := 0) (n2 := 0) (g_runV (rest := []) hC (c_X5_isThrown hE (β := β) (μ := μ) (K := K) (dp := dp) (th := th) 1 2 rfl) Y_X5_isThrown k_1084 I_X5_isThrown V_X5_isThrown hR.obj rfl hR rfl hl.1 dX5_isNoDeed__37 ⟨Nat.le_of_ble_eq_true rfl, Nat.le_of_ble_eq_true rfl⟩ ⟨Nat.le_of_ble_eq_true rfl, Nat.le_of_ble_eq_true rfl⟩ rfl (Nat.le_of_ble_eq_true rfl)) hS (fun _ h => h) rfl rfl (fun r19_ H lo h20_ _ _ hS => ?_)
        obtain ⟨rfl, hR⟩ := h20_
        have hR : RM E β μ K dp 2 H := hR
        exact g_zretW hC hr rfl dX5_isNoDeed__40 hS (Nat.le_of_ble_eq_true rfl) (Nat.le_of_ble_eq_true rfl) ⟨bz_1 (by grind), hR⟩
set_option maxHeartbeats 4000000 in
set_option maxRecDepth 100000 in
theorem c_X5_has {l : Launch} {E : gV} (hE : gOK l E) {β : Nat → Nat} {μ : F2} {K : Nat → Nat} {dp th : Int32} (hI : MI μ K) (i k0 h0 s0 : Int32) (hi : i ≠ -2) : gM l E yX5_has cX5_has 7 (some .boolean) ({ frames := 21, cells := 0, slots := 0, locals := 483 } : Room) [.ref (β 19), .int i, .int k0, .int h0, .int s0] (fun H => RM E β μ K dp th H) (gQW (mA β) (gWi (fun r H => bz (fHas (mv μ) (K 1) (μ 22 0) i k0 h0 s0) r ∧ ∃ dp, RM E β μ K dp th H))) (fun _ => False) (mA β) := by
  refine gM_body hE (by decide +kernel) (Nat.le_of_ble_eq_true rfl) ?_
  intro p_ e_ s m args below meth c hC ht hr hname hP ls hl
  have hx := hC.2.2.1
  have hb := hC.2.2.2.1
  have hl : lv_has ls 7 [(0, .ref (β 19)), (1, .int i), (2, .int k0), (3, .int h0), (4, .int s0)] := hl
  have hS : va_S ((mA β)) s.heap s.heap [] := va_S.rf
  have hR : RM E β μ K dp th s.heap := hP
  obtain ⟨hK0, hK1, hK2, hSr, hHo, hTd⟩ := hI
  refine lv_iconst (v := 0) hx hb dX5_has_0 (by decide) ?_
  refine lv_istore (lv' := [(5, .int 0), (0, .ref (β 19)), (1, .int i), (2, .int k0), (3, .int h0), (4, .int s0)]) hx hb dX5_has_1 hl (by decide) rfl (fun ls hl => ?_)
  refine lv_iconst (v := 0) hx hb dX5_has_3 (by decide) ?_
  refine lv_istore (lv' := [(6, .int 0), (5, .int 0), (0, .ref (β 19)), (1, .int i), (2, .int k0), (3, .int h0), (4, .int s0)]) hx hb dX5_has_4 hl (by decide) rfl (fun ls hl => ?_)
  have loop : ∀ (n_ : Nat) (q : Nat) (r : Int32) (dp : Int32) (H : Heap) (lo : List Loc) (ls : Array Slot), K 1 - q < n_ → (q ≤ K 1) → (bz (∃ t, t < q ∧ (fun t => mv μ 6 t = k0 ∧ mv μ 8 t = h0 ∧ fAct (mv μ) i (mv μ 5 t) ∧ fl (mv μ) (μ 22 0) s0 t = 45) t) r) → RM E β μ K dp th H → va_S ((mA β)) s.heap H lo → lv_has ls 7 [(0, .ref (β 19)), (1, .int i), (2, .int k0), (3, .int h0), (4, .int s0), (5, .int r), (6, .int (nI q))] → W p_ l e_ ({ frames := 21, cells := 0, slots := 0, locals := 483 } : Room) s m args below meth c H lo 0 0 (vx_MQ below (gQW (mA β) (gWi (fun r H => bz (fHas (mv μ) (K 1) (μ 22 0) i k0 h0 s0) r ∧ ∃ dp, RM E β μ K dp th H))) (gX (fun _ => False)) args s 0 0 (mA β)) (F0 m 6 ls []) := by
    intro n_
    induction n_ with
    | zero => intro q r dp H lo ls h_; exact absurd h_ (Nat.not_lt_zero _)
    | succ n_ ih_loop =>
      intro q r dp H lo ls hn_ i1 i2 hR hS hl
      refine lv_iload hx hb dX5_has_6 (lv_at hl 6 rfl) ?_
      refine lv_aload_n hx hb dX5_has_8 rfl (lv_at hl 0 rfl) ?_
      refine g_get (v := .int (nI (K 1))) hC hR.obj (C := RX5) (T := TX5) (N := 26) rfl u5_in 20 (by decide) k_1016 rfl dX5_has_9 ?_
      refine lv_icmp_ge (tgt := 81) hx hb dX5_has_12 (by decide) (fun c1_ => ?_) (fun c1_ => ?_)
      · have n2_ : (K 1) ≤ q := le_nI (by omega) (by omega) c1_
        have hq : q = K 1 := by have := le_nI (by omega) (by omega) c1_; omega
        refine lv_iload hx hb dX5_has_81 (lv_at hl 5 rfl) ?_
        exact g_zretW hC hr i2.nar dX5_has_83 hS (Nat.le_of_ble_eq_true rfl) (Nat.le_of_ble_eq_true rfl) ⟨by subst hq; exact i2, _, hR⟩
      · have n2_ : q < (K 1) := not_le_nI (by omega) (by omega) c1_
        have hq : q < K 1 := not_le_nI (by omega) (by omega) c1_
        refine lv_iload hx hb dX5_has_15 (lv_at hl 5 rfl) ?_
        refine lv_aload_n hx hb dX5_has_17 rfl (lv_at hl 0 rfl) ?_
        refine g_get (v := .ref (β 4)) hC hR.obj (C := RX5) (T := TX5) (N := 26) rfl u5_in 4 (by decide) k_1000 rfl dX5_has_18 ?_
        refine lv_iload hx hb dX5_has_21 (lv_at hl 6 rfl) ?_
        refine g_iald (n := 20) (f := μ 4) (j := q) hC (hR.arr 4 (by decide) rfl rfl) (by omega) (by decide) dX5_has_23 ?_
        refine lv_iload_n hx hb dX5_has_24 rfl (lv_at hl 2 rfl) ?_
        refine lv_icmp_ne (tgt := 71) hx hb dX5_has_25 (by decide) (fun c3_ => ?_) (fun c3_ => ?_)
        · refine lv_iconst (v := 0) hx hb dX5_has_71 (by decide) ?_
          refine lv_ior hx hb dX5_has_72 ?_
          refine lv_istore (lv' := [(5, .int (r ||| 0)), (0, .ref (β 19)), (1, .int i), (2, .int k0), (3, .int h0), (4, .int s0), (6, .int (nI q))]) hx hb dX5_has_73 hl (by decide) rfl (fun ls hl => ?_)
          refine lv_iinc (v := nI (q + 1)) (lv' := [(6, .int (nI (q + 1))), (5, .int (r ||| 0)), (0, .ref (β 19)), (1, .int i), (2, .int k0), (3, .int h0), (4, .int s0)]) hx hb dX5_has_75 hl (k := 6) rfl (g_inc _) (by decide) rfl (fun ls hl => ?_)
          refine lv_goto (tgt := 6) hx hb dX5_has_78 (by decide) ?_
          exact ih_loop (q + 1) (r ||| 0) _ H lo ls (by omega) (by omega) (bzE_0 i2 (by
            rintro ⟨z1, z2, z3, z4⟩
            first
            | exact absurd z1 (by assumption)
            | exact absurd z2 (by assumption)
            | exact absurd z4 (by first | assumption | (rw [← rfl]; assumption))
            | exact absurd (show fAct (mv μ) i (nI j_h) from ej_h ▸ z3) (by assumption))) hR hS (lv_sub hl [2, 3, 4, 5, 6, 1, 0] rfl)
        · refine lv_aload_n hx hb dX5_has_28 rfl (lv_at hl 0 rfl) ?_
          refine g_get (v := .ref (β 9)) hC hR.obj (C := RX5) (T := TX5) (N := 26) rfl u5_in 9 (by decide) k_1005 rfl dX5_has_29 ?_
          refine lv_iload hx hb dX5_has_32 (lv_at hl 6 rfl) ?_
          refine g_cald (n := 20) (f := μ 9) (j := q) hC (hR.arr 9 (by decide) rfl rfl) (by omega) (by decide) dX5_has_34 ?_
          refine lv_iload_n hx hb dX5_has_35 rfl (lv_at hl 3 rfl) ?_
          refine lv_icmp_ne (tgt := 71) hx hb dX5_has_36 (by decide) (fun c4_ => ?_) (fun c4_ => ?_)
          · refine lv_iconst (v := 0) hx hb dX5_has_71 (by decide) ?_
            refine lv_ior hx hb dX5_has_72 ?_
            refine lv_istore (lv' := [(5, .int (r ||| 0)), (0, .ref (β 19)), (1, .int i), (2, .int k0), (3, .int h0), (4, .int s0), (6, .int (nI q))]) hx hb dX5_has_73 hl (by decide) rfl (fun ls hl => ?_)
            refine lv_iinc (v := nI (q + 1)) (lv' := [(6, .int (nI (q + 1))), (5, .int (r ||| 0)), (0, .ref (β 19)), (1, .int i), (2, .int k0), (3, .int h0), (4, .int s0)]) hx hb dX5_has_75 hl (k := 6) rfl (g_inc _) (by decide) rfl (fun ls hl => ?_)
            refine lv_goto (tgt := 6) hx hb dX5_has_78 (by decide) ?_
            exact ih_loop (q + 1) (r ||| 0) _ H lo ls (by omega) (by omega) (bzE_0 i2 (by
            rintro ⟨z1, z2, z3, z4⟩
            first
            | exact absurd z1 (by assumption)
            | exact absurd z2 (by assumption)
            | exact absurd z4 (by first | assumption | (rw [← rfl]; assumption))
            | exact absurd (show fAct (mv μ) i (nI j_h) from ej_h ▸ z3) (by assumption))) hR hS (lv_sub hl [2, 3, 4, 5, 6, 1, 0] rfl)
          · refine lv_aload_n hx hb dX5_has_39 rfl (lv_at hl 0 rfl) ?_
            refine lv_iload_n hx hb dX5_has_40 rfl (lv_at hl 1 rfl) ?_
            refine lv_aload_n hx hb dX5_has_41 rfl (lv_at hl 0 rfl) ?_
            refine g_get (v := .ref (β 3)) hC hR.obj (C := RX5) (T := TX5) (N := 26) rfl u5_in 3 (by decide) k_999 rfl dX5_has_42 ?_
            refine lv_iload hx hb dX5_has_45 (lv_at hl 6 rfl) ?_
            refine g_iald (n := 20) (f := μ 3) (j := q) hC (hR.arr 3 (by decide) rfl rfl) (by omega) (by decide) dX5_has_47 ?_
            obtain ⟨j_h, hj_h, ej_h⟩ := hHo q (by omega)
            rw [ej_h]
            refine g_cRi (k2 := 0) (n2 := 0) (g_runV (rest := [.int r]) hC (c_X5_acts hE (β := β) (μ := μ) (K := K) (dp := dp) (th := th) i j_h (by omega) (by first | assumption | exact nI_m2 _ (by omega))) Y_X5_acts k_1107 I_X5_acts V_X5_acts hR.obj rfl hR rfl hl.1 dX5_has_48 ⟨Nat.le_of_ble_eq_true rfl, Nat.le_of_ble_eq_true rfl⟩ ⟨Nat.le_of_ble_eq_true rfl, Nat.le_of_ble_eq_true rfl⟩ rfl (Nat.le_of_ble_eq_true rfl)) rfl rfl g_no (fun r5_ h6_ => ?_)
            refine lv_if_eq (tgt := 71) hx hb dX5_has_51 (by decide) (fun c7_ => ?_) (fun c7_ => ?_)
            · have q8_ := bz.f h6_ c7_
              refine lv_iconst (v := 0) hx hb dX5_has_71 (by decide) ?_
              refine lv_ior hx hb dX5_has_72 ?_
              refine lv_istore (lv' := [(5, .int (r ||| 0)), (0, .ref (β 19)), (1, .int i), (2, .int k0), (3, .int h0), (4, .int s0), (6, .int (nI q))]) hx hb dX5_has_73 hl (by decide) rfl (fun ls hl => ?_)
              refine lv_iinc (v := nI (q + 1)) (lv' := [(6, .int (nI (q + 1))), (5, .int (r ||| 0)), (0, .ref (β 19)), (1, .int i), (2, .int k0), (3, .int h0), (4, .int s0)]) hx hb dX5_has_75 hl (k := 6) rfl (g_inc _) (by decide) rfl (fun ls hl => ?_)
              refine lv_goto (tgt := 6) hx hb dX5_has_78 (by decide) ?_
              exact ih_loop (q + 1) (r ||| 0) _ H lo ls (by omega) (by omega) (bzE_0 i2 (by
            rintro ⟨z1, z2, z3, z4⟩
            first
            | exact absurd z1 (by assumption)
            | exact absurd z2 (by assumption)
            | exact absurd z4 (by first | assumption | (rw [← rfl]; assumption))
            | exact absurd (show fAct (mv μ) i (nI j_h) from ej_h ▸ z3) (by assumption))) hR hS (lv_sub hl [2, 3, 4, 5, 6, 1, 0] rfl)
            · have q8_ := bz.t h6_ c7_
              refine lv_aload_n hx hb dX5_has_54 rfl (lv_at hl 0 rfl) ?_
              refine lv_iload hx hb dX5_has_55 (lv_at hl 6 rfl) ?_
              refine lv_iload hx hb dX5_has_57 (lv_at hl 4 rfl) ?_
              refine g_cWi (k2 := 0) (n2 := 0) (g_runV (rest := [.int r]) hC (c_X5_faulty hE (μ := μ) (K := K) ⟨hK0, hK1, hK2, hSr, hHo, hTd⟩ s0 q _ (by omega)) Y_X5_faulty k_1159 I_X5_faulty V_X5_faulty hR.obj rfl hR rfl hl.1 dX5_has_59 ⟨by dsimp only; omega, by dsimp only; omega⟩ ⟨Nat.le_of_ble_eq_true rfl, Nat.le_of_ble_eq_true rfl⟩ rfl (Nat.le_of_ble_eq_true rfl)) hS (fun _ h => h) rfl rfl (fun r9_ H lo h10_ _ _ hS => ?_)
              obtain ⟨ef11_, hR⟩ := h10_
              refine lv_bipush (v := 45) hx hb dX5_has_62 (by decide) ?_
              refine lv_icmp_ne (tgt := 71) hx hb dX5_has_64 (by decide) (fun c12_ => ?_) (fun c12_ => ?_)
              · refine lv_iconst (v := 0) hx hb dX5_has_71 (by decide) ?_
                refine lv_ior hx hb dX5_has_72 ?_
                refine lv_istore (lv' := [(5, .int (r ||| 0)), (0, .ref (β 19)), (1, .int i), (2, .int k0), (3, .int h0), (4, .int s0), (6, .int (nI q))]) hx hb dX5_has_73 hl (by decide) rfl (fun ls hl => ?_)
                refine lv_iinc (v := nI (q + 1)) (lv' := [(6, .int (nI (q + 1))), (5, .int (r ||| 0)), (0, .ref (β 19)), (1, .int i), (2, .int k0), (3, .int h0), (4, .int s0)]) hx hb dX5_has_75 hl (k := 6) rfl (g_inc _) (by decide) rfl (fun ls hl => ?_)
                refine lv_goto (tgt := 6) hx hb dX5_has_78 (by decide) ?_
                exact ih_loop (q + 1) (r ||| 0) _ H lo ls (by omega) (by omega) (bzE_0 i2 (by
            rintro ⟨z1, z2, z3, z4⟩
            first
            | exact absurd z1 (by assumption)
            | exact absurd z2 (by assumption)
            | exact absurd z4 (by first | assumption | (rw [← ef11_]; assumption))
            | exact absurd (show fAct (mv μ) i (nI j_h) from ej_h ▸ z3) (by assumption))) hR hS (lv_sub hl [2, 3, 4, 5, 6, 1, 0] rfl)
              · refine lv_iconst (v := 1) hx hb dX5_has_67 (by decide) ?_
                refine lv_goto (tgt := 72) hx hb dX5_has_68 (by decide) ?_
                refine lv_ior hx hb dX5_has_72 ?_
                refine lv_istore (lv' := [(5, .int (r ||| 1)), (0, .ref (β 19)), (1, .int i), (2, .int k0), (3, .int h0), (4, .int s0), (6, .int (nI q))]) hx hb dX5_has_73 hl (by decide) rfl (fun ls hl => ?_)
                refine lv_iinc (v := nI (q + 1)) (lv' := [(6, .int (nI (q + 1))), (5, .int (r ||| 1)), (0, .ref (β 19)), (1, .int i), (2, .int k0), (3, .int h0), (4, .int s0)]) hx hb dX5_has_75 hl (k := 6) rfl (g_inc _) (by decide) rfl (fun ls hl => ?_)
                refine lv_goto (tgt := 6) hx hb dX5_has_78 (by decide) ?_
                exact ih_loop (q + 1) (r ||| 1) _ H lo ls (by omega) (by omega) (bzE_1 i2 ⟨by assumption, by assumption, (by rw [show mv μ 5 q = nI j_h from ej_h]; assumption), by first | assumption | (rw [← ef11_]; assumption)⟩) hR hS (lv_sub hl [2, 3, 4, 5, 6, 1, 0] rfl)
  exact loop ((K 1 - (0)) + 1) 0 0 dp s.heap [] ls (by omega) (by omega) bzE_z hR hS (lv_sub hl [2, 3, 4, 5, 6, 1, 0] rfl)
set_option maxHeartbeats 4000000 in
set_option maxRecDepth 100000 in
theorem c_X5_canTogether {l : Launch} {E : gV} (hE : gOK l E) {β : Nat → Nat} {μ : F2} {K : Nat → Nat} {dp th : Int32} (hI : MI μ K) (i j k0 s0 : Int32) (hi : i ≠ -2) (hj : j ≠ -2) : gM l E yX5_canTogether cX5_canTogether 6 (some .boolean) ({ frames := 22, cells := 0, slots := 0, locals := 509 } : Room) [.ref (β 19), .int i, .int j, .int k0, .int s0] (fun H => RM E β μ K dp th H) (gQW (mA β) (gWi (fun r H => bz (fTog (mv μ) (K 1) (μ 22 0) i j k0 s0) r ∧ ∃ dp, RM E β μ K dp th H))) (fun _ => False) (mA β) := by
  refine gM_body hE (by decide +kernel) (Nat.le_of_ble_eq_true rfl) ?_
  intro p_ e_ s m args below meth c hC ht hr hname hP ls hl
  have hx := hC.2.2.1
  have hb := hC.2.2.2.1
  have hl : lv_has ls 6 [(0, .ref (β 19)), (1, .int i), (2, .int j), (3, .int k0), (4, .int s0)] := hl
  have hS : va_S ((mA β)) s.heap s.heap [] := va_S.rf
  have hR : RM E β μ K dp th s.heap := hP
  obtain ⟨hK0, hK1, hK2, hSr, hHo, hTd⟩ := hI
  refine lv_aload_n hx hb dX5_canTogether_0 rfl (lv_at hl 0 rfl) ?_
  refine lv_iload_n hx hb dX5_canTogether_1 rfl (lv_at hl 1 rfl) ?_
  refine lv_iload_n hx hb dX5_canTogether_2 rfl (lv_at hl 3 rfl) ?_
  refine lv_bipush (v := 115) hx hb dX5_canTogether_3 (by decide) ?_
  refine lv_iload hx hb dX5_canTogether_5 (lv_at hl 4 rfl) ?_
  refine g_cWi (k2 := 0) (n2 := 0) (g_runV (rest := []) hC (c_X5_has hE (β := β) (μ := μ) (K := K) (dp := dp) (th := th) ⟨hK0, hK1, hK2, hSr, hHo, hTd⟩ i k0 115 s0 (by first | assumption | exact nI_m2 _ (by omega))) Y_X5_has k_1180 I_X5_has V_X5_has hR.obj rfl hR rfl hl.1 dX5_canTogether_7 ⟨Nat.le_of_ble_eq_true rfl, Nat.le_of_ble_eq_true rfl⟩ ⟨Nat.le_of_ble_eq_true rfl, Nat.le_of_ble_eq_true rfl⟩ rfl (Nat.le_of_ble_eq_true rfl)) hS (fun _ h => h) rfl rfl (fun r1_ H lo h2_ _ _ hS => ?_)
  obtain ⟨f4_, dp3_, hR⟩ := h2_
  refine lv_if_ne (tgt := 26) hx hb dX5_canTogether_10 (by decide) (fun c5_ => ?_) (fun c5_ => ?_)
  · have q6_ := bz.t f4_ c5_
    refine lv_iconst (v := 1) hx hb dX5_canTogether_26 (by decide) ?_
    refine lv_goto (tgt := 31) hx hb dX5_canTogether_27 (by decide) ?_
    refine lv_istore (lv' := [(5, .int 1), (0, .ref (β 19)), (1, .int i), (2, .int j), (3, .int k0), (4, .int s0)]) hx hb dX5_canTogether_31 hl (by decide) rfl (fun ls hl => ?_)
    refine lv_iload hx hb dX5_canTogether_33 (lv_at hl 0 rfl) ?_
    refine lv_if_ne (tgt := 90) hx hb dX5_canTogether_35 (by decide) (fun c7_ => ?_) (fun c7_ => ?_)
    · refine lv_iconst (v := 1) hx hb dX5_canTogether_90 (by decide) ?_
      refine lv_goto (tgt := 95) hx hb dX5_canTogether_91 (by decide) ?_
      exact g_zretW hC hr rfl dX5_canTogether_95 hS (Nat.le_of_ble_eq_true rfl) (Nat.le_of_ble_eq_true rfl) ⟨bz_1 (by unfold fTog; grind), _, hR⟩
    · exact absurd c7_ (by decide)
  · have q6_ := bz.f f4_ c5_
    refine lv_aload_n hx hb dX5_canTogether_13 rfl (lv_at hl 0 rfl) ?_
    refine lv_iload_n hx hb dX5_canTogether_14 rfl (lv_at hl 2 rfl) ?_
    refine lv_iload_n hx hb dX5_canTogether_15 rfl (lv_at hl 3 rfl) ?_
    refine lv_bipush (v := 115) hx hb dX5_canTogether_16 (by decide) ?_
    refine lv_iload hx hb dX5_canTogether_18 (lv_at hl 4 rfl) ?_
    refine g_cWi (k2 := 0) (n2 := 0) (g_runV (rest := []) hC (c_X5_has hE (β := β) (μ := μ) (K := K) (dp := dp3_) (th := th) ⟨hK0, hK1, hK2, hSr, hHo, hTd⟩ j k0 115 s0 (by first | assumption | exact nI_m2 _ (by omega))) Y_X5_has k_1180 I_X5_has V_X5_has hR.obj rfl hR rfl hl.1 dX5_canTogether_20 ⟨Nat.le_of_ble_eq_true rfl, Nat.le_of_ble_eq_true rfl⟩ ⟨Nat.le_of_ble_eq_true rfl, Nat.le_of_ble_eq_true rfl⟩ rfl (Nat.le_of_ble_eq_true rfl)) hS (fun _ h => h) rfl rfl (fun r8_ H lo h9_ _ _ hS => ?_)
    obtain ⟨f11_, dp10_, hR⟩ := h9_
    refine lv_if_eq (tgt := 30) hx hb dX5_canTogether_23 (by decide) (fun c12_ => ?_) (fun c12_ => ?_)
    · have q13_ := bz.f f11_ c12_
      refine lv_iconst (v := 0) hx hb dX5_canTogether_30 (by decide) ?_
      refine lv_istore (lv' := [(5, .int 0), (0, .ref (β 19)), (1, .int i), (2, .int j), (3, .int k0), (4, .int s0)]) hx hb dX5_canTogether_31 hl (by decide) rfl (fun ls hl => ?_)
      refine lv_iload hx hb dX5_canTogether_33 (lv_at hl 0 rfl) ?_
      refine lv_if_ne (tgt := 90) hx hb dX5_canTogether_35 (by decide) (fun c14_ => ?_) (fun c14_ => ?_)
      · exact absurd c14_ (by decide)
      · refine lv_aload_n hx hb dX5_canTogether_38 rfl (lv_at hl 1 rfl) ?_
        refine lv_iload_n hx hb dX5_canTogether_39 rfl (lv_at hl 2 rfl) ?_
        refine lv_iload_n hx hb dX5_canTogether_40 rfl (lv_at hl 4 rfl) ?_
        refine lv_bipush (v := 97) hx hb dX5_canTogether_41 (by decide) ?_
        refine lv_iload hx hb dX5_canTogether_43 (lv_at hl 5 rfl) ?_
        refine g_cWi (k2 := 0) (n2 := 0) (g_runV (rest := []) hC (c_X5_has hE (β := β) (μ := μ) (K := K) (dp := dp10_) (th := th) ⟨hK0, hK1, hK2, hSr, hHo, hTd⟩ i k0 97 s0 (by first | assumption | exact nI_m2 _ (by omega))) Y_X5_has k_1180 I_X5_has V_X5_has hR.obj rfl hR rfl hl.1 dX5_canTogether_45 ⟨Nat.le_of_ble_eq_true rfl, Nat.le_of_ble_eq_true rfl⟩ ⟨Nat.le_of_ble_eq_true rfl, Nat.le_of_ble_eq_true rfl⟩ rfl (Nat.le_of_ble_eq_true rfl)) hS (fun _ h => h) rfl rfl (fun r15_ H lo h16_ _ _ hS => ?_)
        obtain ⟨f18_, dp17_, hR⟩ := h16_
        refine lv_if_eq (tgt := 64) hx hb dX5_canTogether_48 (by decide) (fun c19_ => ?_) (fun c19_ => ?_)
        · have q20_ := bz.f f18_ c19_
          refine lv_aload_n hx hb dX5_canTogether_64 rfl (lv_at hl 1 rfl) ?_
          refine lv_iload_n hx hb dX5_canTogether_65 rfl (lv_at hl 2 rfl) ?_
          refine lv_iload_n hx hb dX5_canTogether_66 rfl (lv_at hl 4 rfl) ?_
          refine lv_bipush (v := 98) hx hb dX5_canTogether_67 (by decide) ?_
          refine lv_iload hx hb dX5_canTogether_69 (lv_at hl 5 rfl) ?_
          refine g_cWi (k2 := 0) (n2 := 0) (g_runV (rest := []) hC (c_X5_has hE (β := β) (μ := μ) (K := K) (dp := dp17_) (th := th) ⟨hK0, hK1, hK2, hSr, hHo, hTd⟩ i k0 98 s0 (by first | assumption | exact nI_m2 _ (by omega))) Y_X5_has k_1180 I_X5_has V_X5_has hR.obj rfl hR rfl hl.1 dX5_canTogether_71 ⟨Nat.le_of_ble_eq_true rfl, Nat.le_of_ble_eq_true rfl⟩ ⟨Nat.le_of_ble_eq_true rfl, Nat.le_of_ble_eq_true rfl⟩ rfl (Nat.le_of_ble_eq_true rfl)) hS (fun _ h => h) rfl rfl (fun r21_ H lo h22_ _ _ hS => ?_)
          obtain ⟨f24_, dp23_, hR⟩ := h22_
          refine lv_if_eq (tgt := 94) hx hb dX5_canTogether_74 (by decide) (fun c25_ => ?_) (fun c25_ => ?_)
          · have q26_ := bz.f f24_ c25_
            refine lv_iconst (v := 0) hx hb dX5_canTogether_94 (by decide) ?_
            exact g_zretW hC hr rfl dX5_canTogether_95 hS (Nat.le_of_ble_eq_true rfl) (Nat.le_of_ble_eq_true rfl) ⟨bz_0 (by unfold fTog; grind), _, hR⟩
          · have q26_ := bz.t f24_ c25_
            refine lv_aload_n hx hb dX5_canTogether_77 rfl (lv_at hl 1 rfl) ?_
            refine lv_iload_n hx hb dX5_canTogether_78 rfl (lv_at hl 3 rfl) ?_
            refine lv_iload_n hx hb dX5_canTogether_79 rfl (lv_at hl 4 rfl) ?_
            refine lv_bipush (v := 97) hx hb dX5_canTogether_80 (by decide) ?_
            refine lv_iload hx hb dX5_canTogether_82 (lv_at hl 5 rfl) ?_
            refine g_cWi (k2 := 0) (n2 := 0) (g_runV (rest := []) hC (c_X5_has hE (β := β) (μ := μ) (K := K) (dp := dp23_) (th := th) ⟨hK0, hK1, hK2, hSr, hHo, hTd⟩ j k0 97 s0 (by first | assumption | exact nI_m2 _ (by omega))) Y_X5_has k_1180 I_X5_has V_X5_has hR.obj rfl hR rfl hl.1 dX5_canTogether_84 ⟨Nat.le_of_ble_eq_true rfl, Nat.le_of_ble_eq_true rfl⟩ ⟨Nat.le_of_ble_eq_true rfl, Nat.le_of_ble_eq_true rfl⟩ rfl (Nat.le_of_ble_eq_true rfl)) hS (fun _ h => h) rfl rfl (fun r27_ H lo h28_ _ _ hS => ?_)
            obtain ⟨f30_, dp29_, hR⟩ := h28_
            refine lv_if_eq (tgt := 94) hx hb dX5_canTogether_87 (by decide) (fun c31_ => ?_) (fun c31_ => ?_)
            · have q32_ := bz.f f30_ c31_
              refine lv_iconst (v := 0) hx hb dX5_canTogether_94 (by decide) ?_
              exact g_zretW hC hr rfl dX5_canTogether_95 hS (Nat.le_of_ble_eq_true rfl) (Nat.le_of_ble_eq_true rfl) ⟨bz_0 (by unfold fTog; grind), _, hR⟩
            · have q32_ := bz.t f30_ c31_
              refine lv_iconst (v := 1) hx hb dX5_canTogether_90 (by decide) ?_
              refine lv_goto (tgt := 95) hx hb dX5_canTogether_91 (by decide) ?_
              exact g_zretW hC hr rfl dX5_canTogether_95 hS (Nat.le_of_ble_eq_true rfl) (Nat.le_of_ble_eq_true rfl) ⟨bz_1 (by unfold fTog; grind), _, hR⟩
        · have q20_ := bz.t f18_ c19_
          refine lv_aload_n hx hb dX5_canTogether_51 rfl (lv_at hl 1 rfl) ?_
          refine lv_iload_n hx hb dX5_canTogether_52 rfl (lv_at hl 3 rfl) ?_
          refine lv_iload_n hx hb dX5_canTogether_53 rfl (lv_at hl 4 rfl) ?_
          refine lv_bipush (v := 98) hx hb dX5_canTogether_54 (by decide) ?_
          refine lv_iload hx hb dX5_canTogether_56 (lv_at hl 5 rfl) ?_
          refine g_cWi (k2 := 0) (n2 := 0) (g_runV (rest := []) hC (c_X5_has hE (β := β) (μ := μ) (K := K) (dp := dp17_) (th := th) ⟨hK0, hK1, hK2, hSr, hHo, hTd⟩ j k0 98 s0 (by first | assumption | exact nI_m2 _ (by omega))) Y_X5_has k_1180 I_X5_has V_X5_has hR.obj rfl hR rfl hl.1 dX5_canTogether_58 ⟨Nat.le_of_ble_eq_true rfl, Nat.le_of_ble_eq_true rfl⟩ ⟨Nat.le_of_ble_eq_true rfl, Nat.le_of_ble_eq_true rfl⟩ rfl (Nat.le_of_ble_eq_true rfl)) hS (fun _ h => h) rfl rfl (fun r33_ H lo h34_ _ _ hS => ?_)
          obtain ⟨f36_, dp35_, hR⟩ := h34_
          refine lv_if_ne (tgt := 90) hx hb dX5_canTogether_61 (by decide) (fun c37_ => ?_) (fun c37_ => ?_)
          · have q38_ := bz.t f36_ c37_
            refine lv_iconst (v := 1) hx hb dX5_canTogether_90 (by decide) ?_
            refine lv_goto (tgt := 95) hx hb dX5_canTogether_91 (by decide) ?_
            exact g_zretW hC hr rfl dX5_canTogether_95 hS (Nat.le_of_ble_eq_true rfl) (Nat.le_of_ble_eq_true rfl) ⟨bz_1 (by unfold fTog; grind), _, hR⟩
          · have q38_ := bz.f f36_ c37_
            refine lv_aload_n hx hb dX5_canTogether_64 rfl (lv_at hl 1 rfl) ?_
            refine lv_iload_n hx hb dX5_canTogether_65 rfl (lv_at hl 2 rfl) ?_
            refine lv_iload_n hx hb dX5_canTogether_66 rfl (lv_at hl 4 rfl) ?_
            refine lv_bipush (v := 98) hx hb dX5_canTogether_67 (by decide) ?_
            refine lv_iload hx hb dX5_canTogether_69 (lv_at hl 5 rfl) ?_
            refine g_cWi (k2 := 0) (n2 := 0) (g_runV (rest := []) hC (c_X5_has hE (β := β) (μ := μ) (K := K) (dp := dp35_) (th := th) ⟨hK0, hK1, hK2, hSr, hHo, hTd⟩ i k0 98 s0 (by first | assumption | exact nI_m2 _ (by omega))) Y_X5_has k_1180 I_X5_has V_X5_has hR.obj rfl hR rfl hl.1 dX5_canTogether_71 ⟨Nat.le_of_ble_eq_true rfl, Nat.le_of_ble_eq_true rfl⟩ ⟨Nat.le_of_ble_eq_true rfl, Nat.le_of_ble_eq_true rfl⟩ rfl (Nat.le_of_ble_eq_true rfl)) hS (fun _ h => h) rfl rfl (fun r39_ H lo h40_ _ _ hS => ?_)
            obtain ⟨f42_, dp41_, hR⟩ := h40_
            refine lv_if_eq (tgt := 94) hx hb dX5_canTogether_74 (by decide) (fun c43_ => ?_) (fun c43_ => ?_)
            · have q44_ := bz.f f42_ c43_
              refine lv_iconst (v := 0) hx hb dX5_canTogether_94 (by decide) ?_
              exact g_zretW hC hr rfl dX5_canTogether_95 hS (Nat.le_of_ble_eq_true rfl) (Nat.le_of_ble_eq_true rfl) ⟨bz_0 (by unfold fTog; grind), _, hR⟩
            · have q44_ := bz.t f42_ c43_
              refine lv_aload_n hx hb dX5_canTogether_77 rfl (lv_at hl 1 rfl) ?_
              refine lv_iload_n hx hb dX5_canTogether_78 rfl (lv_at hl 3 rfl) ?_
              refine lv_iload_n hx hb dX5_canTogether_79 rfl (lv_at hl 4 rfl) ?_
              refine lv_bipush (v := 97) hx hb dX5_canTogether_80 (by decide) ?_
              refine lv_iload hx hb dX5_canTogether_82 (lv_at hl 5 rfl) ?_
              refine g_cWi (k2 := 0) (n2 := 0) (g_runV (rest := []) hC (c_X5_has hE (β := β) (μ := μ) (K := K) (dp := dp41_) (th := th) ⟨hK0, hK1, hK2, hSr, hHo, hTd⟩ j k0 97 s0 (by first | assumption | exact nI_m2 _ (by omega))) Y_X5_has k_1180 I_X5_has V_X5_has hR.obj rfl hR rfl hl.1 dX5_canTogether_84 ⟨Nat.le_of_ble_eq_true rfl, Nat.le_of_ble_eq_true rfl⟩ ⟨Nat.le_of_ble_eq_true rfl, Nat.le_of_ble_eq_true rfl⟩ rfl (Nat.le_of_ble_eq_true rfl)) hS (fun _ h => h) rfl rfl (fun r45_ H lo h46_ _ _ hS => ?_)
              obtain ⟨f48_, dp47_, hR⟩ := h46_
              refine lv_if_eq (tgt := 94) hx hb dX5_canTogether_87 (by decide) (fun c49_ => ?_) (fun c49_ => ?_)
              · have q50_ := bz.f f48_ c49_
                refine lv_iconst (v := 0) hx hb dX5_canTogether_94 (by decide) ?_
                exact g_zretW hC hr rfl dX5_canTogether_95 hS (Nat.le_of_ble_eq_true rfl) (Nat.le_of_ble_eq_true rfl) ⟨bz_0 (by unfold fTog; grind), _, hR⟩
              · have q50_ := bz.t f48_ c49_
                refine lv_iconst (v := 1) hx hb dX5_canTogether_90 (by decide) ?_
                refine lv_goto (tgt := 95) hx hb dX5_canTogether_91 (by decide) ?_
                exact g_zretW hC hr rfl dX5_canTogether_95 hS (Nat.le_of_ble_eq_true rfl) (Nat.le_of_ble_eq_true rfl) ⟨bz_1 (by unfold fTog; grind), _, hR⟩
    · have q13_ := bz.t f11_ c12_
      refine lv_iconst (v := 1) hx hb dX5_canTogether_26 (by decide) ?_
      refine lv_goto (tgt := 31) hx hb dX5_canTogether_27 (by decide) ?_
      refine lv_istore (lv' := [(5, .int 1), (0, .ref (β 19)), (1, .int i), (2, .int j), (3, .int k0), (4, .int s0)]) hx hb dX5_canTogether_31 hl (by decide) rfl (fun ls hl => ?_)
      refine lv_iload hx hb dX5_canTogether_33 (lv_at hl 0 rfl) ?_
      refine lv_if_ne (tgt := 90) hx hb dX5_canTogether_35 (by decide) (fun c51_ => ?_) (fun c51_ => ?_)
      · refine lv_iconst (v := 1) hx hb dX5_canTogether_90 (by decide) ?_
        refine lv_goto (tgt := 95) hx hb dX5_canTogether_91 (by decide) ?_
        exact g_zretW hC hr rfl dX5_canTogether_95 hS (Nat.le_of_ble_eq_true rfl) (Nat.le_of_ble_eq_true rfl) ⟨bz_1 (by unfold fTog; grind), _, hR⟩
      · exact absurd c51_ (by decide)
