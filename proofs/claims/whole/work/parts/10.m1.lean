/-! SMALL RULES, FACTS OF LETTERS -/
section SMALL
variable {p : Program} {l : Launch} {e : Env} {R : Room} {s : State} {m : MethodId} {args : Array Value} {below : List Frame} {meth : Method} {c : Code} {H : Heap} {locs : List Loc} {cells slots : Nat} {Q : State → Prop} {cc : ByteArray} {pc : Nat} {ls : Array Slot} {rest : List Value}
theorem g_iadd1 {x : Nat} (hexec : p.tables.exec = Jvm.exec) (hb : c.code = cc) (hdg : decode cc pc = .ok (.iadd, 1)) (kk : W p l e R s m args below meth c H locs cells slots Q (F0 m (pc + 1) ls (.int (nI (x + 1)) :: rest))) : W p l e R s m args below meth c H locs cells slots Q (F0 m pc ls (.int 1 :: .int (nI x) :: rest)) :=
  lv_iadd hexec hb hdg (by rw [nI_1]; exact kk)
theorem g_isub1 {x : Nat} (hexec : p.tables.exec = Jvm.exec) (hb : c.code = cc) (hdg : decode cc pc = .ok (.isub, 1)) (kk : W p l e R s m args below meth c H locs cells slots Q (F0 m (pc + 1) ls (.int (nI x) :: rest))) : W p l e R s m args below meth c H locs cells slots Q (F0 m pc ls (.int 1 :: .int (nI (x + 1)) :: rest)) :=
  lv_isub hexec hb hdg (by rw [nI_pred]; exact kk)
end SMALL
theorem nI_m2 (j : Nat) (h : j < 8) : nI j ≠ -2 := by
  intro q
  have := congrArg Int32.toInt q
  rw [nI_toInt (by omega)] at this
  have h2 : (-2 : Int32).toInt = -2 := by decide
  omega
theorem fOwn_is (v : F2) (td s : Int32) (p : Nat) : fOwn v td s p = 100 ∨ fOwn v td s p = 118 ∨ fOwn v td s p = 108 ∨ fOwn v td s p = 45 := by
  unfold fOwn
  split
  · split
    · exact Or.inr (Or.inl rfl)
    · split
      · exact Or.inr (Or.inr (Or.inl rfl))
      · exact Or.inr (Or.inr (Or.inr rfl))
  · exact Or.inl rfl
theorem fFl_is (v : F2) (td s : Int32) : ∀ n p, fFl v td s n p = 100 ∨ fFl v td s n p = 118 ∨ fFl v td s n p = 108 ∨ fFl v td s n p = 45 := by
  intro n
  induction n with
  | zero => intro p; exact fOwn_is v td s p
  | succ n ih =>
    intro p
    show (if _ then _ else _) = _ ∨ (if _ then _ else _) = _ ∨ (if _ then _ else _) = _ ∨ (if _ then _ else _) = _
    by_cases h : v 4 p < 0
    · rw [if_pos h]; exact fOwn_is v td s p
    · rw [if_neg h]
      by_cases h2 : fFl v td s n (v 4 p).toNatClampNeg ≠ 45
      · rw [if_pos h2]; exact ih _
      · rw [if_neg h2]; exact fOwn_is v td s p
theorem fl_is (v : F2) (td s : Int32) (p : Nat) : fl v td s p = 100 ∨ fl v td s p = 118 ∨ fl v td s p = 108 ∨ fl v td s p = 45 := fFl_is v td s p p
theorem fl_nar (v : F2) (td s : Int32) (p : Nat) : narrow .char (.int (fl v td s p)) = .int (fl v td s p) := by
  rcases fl_is v td s p with h | h | h | h <;> rw [h] <;> rfl
theorem Y_X5_faulty : gY yX5_faulty cX5_faulty 4 (some .char) 2 := ⟨k_6, k_1162, by decide +kernel⟩
theorem I_X5_faulty : Cond.instanceMethod yX5_faulty ∈ lw_tbl := k_1161
theorem V_X5_faulty : Cond.selects yX5_faulty.cls yX5_faulty yX5_faulty ∈ lw_tbl := ks_32
theorem Y_X5_isIn : gY yX5_isIn cX5_isIn 3 (some .boolean) 3 := ⟨k_6, k_1098, by decide +kernel⟩
theorem S_X5_isIn : Cond.static yX5_isIn ∈ lw_tbl := k_1097
set_option maxHeartbeats 4000000 in
set_option maxRecDepth 100000 in
theorem c_X5_isIn {l : Launch} {E : gV} (hE : gOK l E) (v lo hi : Int32) : gM l E yX5_isIn cX5_isIn 3 (some .boolean) ({ frames := 0, cells := 0, slots := 0, locals := 0 } : Room) [.int v, .int lo, .int hi] (fun H => True) (gQR (gPi (bz (lo ≤ v ∧ v ≤ hi)))) (fun _ => False) gN := by
  refine gM_body hE (by decide +kernel) (Nat.le_of_ble_eq_true rfl) ?_
  intro p_ e_ s m args below meth c hC ht hr hname hP ls hl
  have hx := hC.2.2.1
  have hb := hC.2.2.2.1
  have hl : lv_has ls 3 [(0, .int v), (1, .int lo), (2, .int hi)] := hl
  refine lv_iload_n hx hb dX5_isIn_0 rfl (lv_at hl 0 rfl) ?_
  refine lv_iload_n hx hb dX5_isIn_1 rfl (lv_at hl 1 rfl) ?_
  refine lv_icmp_lt (tgt := 14) hx hb dX5_isIn_2 (by decide) (fun c1 => ?_) (fun c1 => ?_)
  · refine lv_iconst (v := 0) hx hb dX5_isIn_14 (by decide) ?_
    exact g_zret hC hr rfl dX5_isIn_15 (Nat.le_of_ble_eq_true rfl) (Nat.le_of_ble_eq_true rfl) (bz_0 (by grind))
  · refine lv_iload_n hx hb dX5_isIn_5 rfl (lv_at hl 0 rfl) ?_
    refine lv_iload_n hx hb dX5_isIn_6 rfl (lv_at hl 2 rfl) ?_
    refine lv_icmp_gt (tgt := 14) hx hb dX5_isIn_7 (by decide) (fun c2 => ?_) (fun c2 => ?_)
    · refine lv_iconst (v := 0) hx hb dX5_isIn_14 (by decide) ?_
      exact g_zret hC hr rfl dX5_isIn_15 (Nat.le_of_ble_eq_true rfl) (Nat.le_of_ble_eq_true rfl) (bz_0 (by grind))
    · refine lv_iconst (v := 1) hx hb dX5_isIn_10 (by decide) ?_
      refine lv_goto (tgt := 15) hx hb dX5_isIn_11 (by decide) ?_
      exact g_zret hC hr rfl dX5_isIn_15 (Nat.le_of_ble_eq_true rfl) (Nat.le_of_ble_eq_true rfl) (bz_1 (⟨Int32.not_lt.mp c1, Int32.not_lt.mp c2⟩))
set_option maxHeartbeats 4000000 in
set_option maxRecDepth 100000 in
theorem c_X5_isThrown {l : Launch} {E : gV} (hE : gOK l E) {β : Nat → Nat} {μ : F2} {K : Nat → Nat} {dp th : Int32} (is as : Int32) (hz : narrow .boolean (.int is) = .int is) : gM l E yX5_isThrown cX5_isThrown 3 (some .boolean) ({ frames := 0, cells := 0, slots := 0, locals := 0 } : Room) [.ref (β 19), .int is, .int as] (fun H => RM E β μ K dp th H) (gQW (mA β) (gWi (fun r H => r = is ∧ RM E β μ K dp (thr is as) H))) (fun _ => False) (mA β) := by
  refine gM_body hE (by decide +kernel) (Nat.le_of_ble_eq_true rfl) ?_
  intro p_ e_ s m args below meth c hC ht hr hname hP ls hl
  have hx := hC.2.2.1
  have hb := hC.2.2.2.1
  have hl : lv_has ls 3 [(0, .ref (β 19)), (1, .int is), (2, .int as)] := hl
  have hS : va_S ((mA β)) s.heap s.heap [] := va_S.rf
  have hR : RM E β μ K dp th s.heap := hP
  refine lv_aload_n hx hb dX5_isThrown_0 rfl (lv_at hl 0 rfl) ?_
  refine lv_iload_n hx hb dX5_isThrown_1 rfl (lv_at hl 1 rfl) ?_
  refine lv_if_eq (tgt := 9) hx hb dX5_isThrown_2 (by decide) (fun c1 => ?_) (fun c1 => ?_)
  · refine lv_iconst (v := 0) hx hb dX5_isThrown_9 (by decide) ?_
    refine m_putN (μ' := μ) (K' := K) (dp' := dp) (th' := 0) 25 (by decide) hC hR hS k_1021 rfl rfl (fun _ _ => rfl) rfl dX5_isThrown_10 (fun H lo hR hS => ?_)
    refine lv_iload_n hx hb dX5_isThrown_13 rfl (lv_at hl 1 rfl) ?_
    exact g_zretW hC hr hz dX5_isThrown_14 hS (Nat.le_of_ble_eq_true rfl) (Nat.le_of_ble_eq_true rfl) ⟨rfl, by rw [thr_0 c1]; exact hR⟩
  · refine lv_iload_n hx hb dX5_isThrown_5 rfl (lv_at hl 2 rfl) ?_
    refine lv_goto (tgt := 10) hx hb dX5_isThrown_6 (by decide) ?_
    refine m_putN (μ' := μ) (K' := K) (dp' := dp) (th' := as) 25 (by decide) hC hR hS k_1021 rfl rfl (fun _ _ => rfl) rfl dX5_isThrown_10 (fun H lo hR hS => ?_)
    refine lv_iload_n hx hb dX5_isThrown_13 rfl (lv_at hl 1 rfl) ?_
    exact g_zretW hC hr hz dX5_isThrown_14 hS (Nat.le_of_ble_eq_true rfl) (Nat.le_of_ble_eq_true rfl) ⟨rfl, by rw [thr_1 c1]; exact hR⟩
set_option maxHeartbeats 4000000 in
set_option maxRecDepth 100000 in
theorem c_X5_isNobody {l : Launch} {E : gV} (hE : gOK l E) {β : Nat → Nat} {μ : F2} {K : Nat → Nat} {dp th : Int32} (hK : K 0 ≤ 8) (p0 : Int32) : gM l E yX5_isNobody cX5_isNobody 2 (some .boolean) ({ frames := 1, cells := 0, slots := 0, locals := 22 } : Room) [.ref (β 19), .int p0] (fun H => RM E β μ K dp th H) (gQR (gPi (bz (¬ isP (K 0) p0)))) (fun _ => False) gN := by
  refine gM_body hE (by decide +kernel) (Nat.le_of_ble_eq_true rfl) ?_
  intro p_ e_ s m args below meth c hC ht hr hname hP ls hl
  have hx := hC.2.2.1
  have hb := hC.2.2.2.1
  have hl : lv_has ls 2 [(0, .ref (β 19)), (1, .int p0)] := hl
  have hR : RM E β μ K dp th s.heap := hP
  refine lv_iload_n hx hb dX5_isNobody_0 rfl (lv_at hl 1 rfl) ?_
  refine lv_iconst (v := 0) hx hb dX5_isNobody_1 (by decide) ?_
  refine lv_aload_n hx hb dX5_isNobody_2 rfl (lv_at hl 0 rfl) ?_
  refine g_get (v := .int (nI (K 0))) hC hR.obj (C := RX5) (T := TX5) (N := 26) rfl u5_in 19 (by decide) k_1015 rfl dX5_isNobody_3 ?_
  refine lv_iconst (v := 1) hx hb dX5_isNobody_6 (by decide) ?_
  refine lv_isub hx hb dX5_isNobody_7 ?_
  refine g_cRi (k2 := 0) (n2 := 0) (g_runS (rest := []) hC (c_X5_isIn hE p0 0 ((nI (K 0)) - 1)) Y_X5_isIn k_1096 S_X5_isIn trivial rfl hl.1 dX5_isNobody_8 ⟨Nat.le_of_ble_eq_true rfl, Nat.le_of_ble_eq_true rfl⟩ ⟨Nat.le_of_ble_eq_true rfl, Nat.le_of_ble_eq_true rfl⟩ rfl (Nat.le_of_ble_eq_true rfl)) rfl rfl g_no (fun r1 h2 => ?_)
  refine lv_if_ne (tgt := 18) hx hb dX5_isNobody_11 (by decide) (fun c3 => ?_) (fun c3 => ?_)
  · have q4 := bz.t h2 c3
    refine lv_iconst (v := 0) hx hb dX5_isNobody_18 (by decide) ?_
    exact g_zret hC hr rfl dX5_isNobody_19 (Nat.le_of_ble_eq_true rfl) (Nat.le_of_ble_eq_true rfl) (bz_0 (fun q => q ((isIn_1 (by omega)).mp (by assumption))))
  · have q4 := bz.f h2 c3
    refine lv_iconst (v := 1) hx hb dX5_isNobody_14 (by decide) ?_
    refine lv_goto (tgt := 19) hx hb dX5_isNobody_15 (by decide) ?_
    exact g_zret hC hr rfl dX5_isNobody_19 (Nat.le_of_ble_eq_true rfl) (Nat.le_of_ble_eq_true rfl) (bz_1 (fun q => absurd ((isIn_1 (by omega)).mpr q) (by assumption)))
set_option maxHeartbeats 4000000 in
set_option maxRecDepth 100000 in
theorem c_X5_acts {l : Launch} {E : gV} (hE : gOK l E) {β : Nat → Nat} {μ : F2} {K : Nat → Nat} {dp th : Int32} (i : Int32) (j : Nat) (hj : j < 8) (hi : i ≠ -2) : gM l E yX5_acts cX5_acts 3 (some .boolean) ({ frames := 0, cells := 0, slots := 0, locals := 0 } : Room) [.ref (β 19), .int i, .int (nI j)] (fun H => RM E β μ K dp th H) (gQR (gPi (bz (fAct (mv μ) i (nI j))))) (fun _ => False) gN := by
  refine gM_body hE (by decide +kernel) (Nat.le_of_ble_eq_true rfl) ?_
  intro p_ e_ s m args below meth c hC ht hr hname hP ls hl
  have hx := hC.2.2.1
  have hb := hC.2.2.2.1
  have hl : lv_has ls 3 [(0, .ref (β 19)), (1, .int i), (2, .int (nI j))] := hl
  have hR : RM E β μ K dp th s.heap := hP
  have ej : (nI j).toNatClampNeg = j := nI_clamp (by omega)
  refine lv_iload_n hx hb dX5_acts_0 rfl (lv_at hl 1 rfl) ?_
  refine lv_iload_n hx hb dX5_acts_1 rfl (lv_at hl 2 rfl) ?_
  refine lv_icmp_eq (tgt := 24) hx hb dX5_acts_2 (by decide) (fun c1 => ?_) (fun c1 => ?_)
  · refine lv_iconst (v := 1) hx hb dX5_acts_24 (by decide) ?_
    refine lv_goto (tgt := 29) hx hb dX5_acts_25 (by decide) ?_
    exact g_zret hC hr rfl dX5_acts_29 (Nat.le_of_ble_eq_true rfl) (Nat.le_of_ble_eq_true rfl) (by
      first
      | (refine bz_1 ?_; unfold fAct; first | exact Or.inl (by assumption) | (refine Or.inr ?_; rw [ej]; show (if μ 0 j ≠ 0 then μ 2 j else -2) = i; rw [if_pos (by assumption)]; first | assumption | exact Classical.not_not.mp (by assumption)))
      | (refine bz_0 ?_; unfold fAct; rw [ej]; show ¬ (i = nI j ∨ (if μ 0 j ≠ 0 then μ 2 j else -2) = i); intro q; grind))
  · refine lv_aload_n hx hb dX5_acts_5 rfl (lv_at hl 0 rfl) ?_
    refine g_get (v := .ref (β 0)) hC hR.obj (C := RX5) (T := TX5) (N := 26) rfl u5_in 0 (by decide) k_996 rfl dX5_acts_6 ?_
    refine lv_iload_n hx hb dX5_acts_9 rfl (lv_at hl 2 rfl) ?_
    refine g_zald (n := 8) (f := μ 0) (j := j) hC (hR.arr 0 (by decide) rfl rfl) (by omega) (by decide) dX5_acts_10 ?_
    refine lv_if_eq (tgt := 28) hx hb dX5_acts_11 (by decide) (fun c2 => ?_) (fun c2 => ?_)
    · refine lv_iconst (v := 0) hx hb dX5_acts_28 (by decide) ?_
      exact g_zret hC hr rfl dX5_acts_29 (Nat.le_of_ble_eq_true rfl) (Nat.le_of_ble_eq_true rfl) (by
      first
      | (refine bz_1 ?_; unfold fAct; first | exact Or.inl (by assumption) | (refine Or.inr ?_; rw [ej]; show (if μ 0 j ≠ 0 then μ 2 j else -2) = i; rw [if_pos (by assumption)]; first | assumption | exact Classical.not_not.mp (by assumption)))
      | (refine bz_0 ?_; unfold fAct; rw [ej]; show ¬ (i = nI j ∨ (if μ 0 j ≠ 0 then μ 2 j else -2) = i); intro q; grind))
    · refine lv_aload_n hx hb dX5_acts_14 rfl (lv_at hl 0 rfl) ?_
      refine g_get (v := .ref (β 2)) hC hR.obj (C := RX5) (T := TX5) (N := 26) rfl u5_in 2 (by decide) k_998 rfl dX5_acts_15 ?_
      refine lv_iload_n hx hb dX5_acts_18 rfl (lv_at hl 2 rfl) ?_
      refine g_iald (n := 8) (f := μ 2) (j := j) hC (hR.arr 2 (by decide) rfl rfl) (by omega) (by decide) dX5_acts_19 ?_
      refine lv_iload_n hx hb dX5_acts_20 rfl (lv_at hl 1 rfl) ?_
      refine lv_icmp_ne (tgt := 28) hx hb dX5_acts_21 (by decide) (fun c3 => ?_) (fun c3 => ?_)
      · refine lv_iconst (v := 0) hx hb dX5_acts_28 (by decide) ?_
        exact g_zret hC hr rfl dX5_acts_29 (Nat.le_of_ble_eq_true rfl) (Nat.le_of_ble_eq_true rfl) (by
      first
      | (refine bz_1 ?_; unfold fAct; first | exact Or.inl (by assumption) | (refine Or.inr ?_; rw [ej]; show (if μ 0 j ≠ 0 then μ 2 j else -2) = i; rw [if_pos (by assumption)]; first | assumption | exact Classical.not_not.mp (by assumption)))
      | (refine bz_0 ?_; unfold fAct; rw [ej]; show ¬ (i = nI j ∨ (if μ 0 j ≠ 0 then μ 2 j else -2) = i); intro q; grind))
      · refine lv_iconst (v := 1) hx hb dX5_acts_24 (by decide) ?_
        refine lv_goto (tgt := 29) hx hb dX5_acts_25 (by decide) ?_
        exact g_zret hC hr rfl dX5_acts_29 (Nat.le_of_ble_eq_true rfl) (Nat.le_of_ble_eq_true rfl) (by
      first
      | (refine bz_1 ?_; unfold fAct; first | exact Or.inl (by assumption) | (refine Or.inr ?_; rw [ej]; show (if μ 0 j ≠ 0 then μ 2 j else -2) = i; rw [if_pos (by assumption)]; first | assumption | exact Classical.not_not.mp (by assumption)))
      | (refine bz_0 ?_; unfold fAct; rw [ej]; show ¬ (i = nI j ∨ (if μ 0 j ≠ 0 then μ 2 j else -2) = i); intro q; grind))
set_option maxHeartbeats 4000000 in
set_option maxRecDepth 100000 in
theorem c_X5_faulty {l : Launch} {E : gV} (hE : gOK l E) {β : Nat → Nat} {μ : F2} {K : Nat → Nat} {th : Int32} (hI : MI μ K) (s0 : Int32) : ∀ (p : Nat) (dp : Int32), p < K 1 → gM l E yX5_faulty cX5_faulty 4 (some .char) ({ frames := p + 1, cells := 0, slots := 0, locals := 23 * (p + 1) } : Room) [.ref (β 19), .int (nI p), .int s0] (fun H => RM E β μ K dp th H) (gQW (mA β) (gWi (fun r H => r = fl (mv μ) (μ 22 0) s0 p ∧ RM E β μ K (nI (dpt (mv μ) (μ 22 0) s0 p)) th H))) (fun _ => False) (mA β) := by
  obtain ⟨hK0, hK1, hK2, hSr, hHo, hTd⟩ := hI
  intro p
  induction p using Nat.strongRecOn with
  | ind p ih =>
  intro dp hp
  refine gM_body hE (by decide +kernel) (Nat.le_of_ble_eq_true rfl) ?_
  intro p_ e_ s m args below meth c hC ht hr hname hP ls hl
  have hx := hC.2.2.1
  have hb := hC.2.2.2.1
  have hl : lv_has ls 4 [(0, .ref (β 19)), (1, .int (nI p)), (2, .int s0)] := hl
  have hS : va_S ((mA β)) s.heap s.heap [] := va_S.rf
  have hR : RM E β μ K dp th s.heap := hP
  refine lv_aload_n hx hb dX5_faulty_0 rfl (lv_at hl 0 rfl) ?_
  refine g_get (v := .ref (β 8)) hC hR.obj (C := RX5) (T := TX5) (N := 26) rfl u5_in 8 (by decide) k_1004 rfl dX5_faulty_1 ?_
  refine lv_iload_n hx hb dX5_faulty_4 rfl (lv_at hl 1 rfl) ?_
  refine g_iald (n := 20) (f := μ 8) (j := p) hC (hR.arr 8 (by decide) rfl rfl) (by omega) (by decide) dX5_faulty_5 ?_
  refine lv_if_lt (tgt := 39) hx hb dX5_faulty_6 (by decide) (fun c1 => ?_) (fun c1 => ?_)
  · have hfl : fl (mv μ) (μ 22 0) s0 p = fOwn (mv μ) (μ 22 0) s0 p := fl_0 c1
    have hdp : dpt (mv μ) (μ 22 0) s0 p = 0 := dpt_0 c1
    refine lv_aload_n hx hb dX5_faulty_39 rfl (lv_at hl 0 rfl) ?_
    refine lv_iconst (v := 0) hx hb dX5_faulty_40 (by decide) ?_
    refine m_putN (μ' := μ) (K' := K) (dp' := 0) (th' := th) 24 (by decide) hC hR hS k_1020 rfl rfl (fun _ _ => rfl) rfl dX5_faulty_41 (fun H lo hR hS => ?_)
    refine lv_aload_n hx hb dX5_faulty_44 rfl (lv_at hl 0 rfl) ?_
    refine g_get (v := .int (μ 22 0)) hC hR.obj (C := RX5) (T := TX5) (N := 26) rfl u5_in 22 (by decide) k_1018 rfl dX5_faulty_45 ?_
    refine lv_aload_n hx hb dX5_faulty_48 rfl (lv_at hl 0 rfl) ?_
    refine g_get (v := .ref (β 6)) hC hR.obj (C := RX5) (T := TX5) (N := 26) rfl u5_in 6 (by decide) k_1002 rfl dX5_faulty_49 ?_
    refine lv_iload_n hx hb dX5_faulty_52 rfl (lv_at hl 1 rfl) ?_
    refine g_iald (n := 20) (f := μ 6) (j := p) hC (hR.arr 6 (by decide) rfl rfl) (by omega) (by decide) dX5_faulty_53 ?_
    refine lv_aload_n hx hb dX5_faulty_54 rfl (lv_at hl 0 rfl) ?_
    refine g_get (v := .ref (β 7)) hC hR.obj (C := RX5) (T := TX5) (N := 26) rfl u5_in 7 (by decide) k_1003 rfl dX5_faulty_55 ?_
    refine lv_iload_n hx hb dX5_faulty_58 rfl (lv_at hl 1 rfl) ?_
    refine g_iald (n := 20) (f := μ 7) (j := p) hC (hR.arr 7 (by decide) rfl rfl) (by omega) (by decide) dX5_faulty_59 ?_
    refine g_cRi (k2 := 0) (n2 := 0) (g_runS (rest := []) hC (c_X5_isIn hE (μ 22 0) (μ 6 p) (μ 7 p)) Y_X5_isIn k_1096 S_X5_isIn trivial rfl hl.1 dX5_faulty_60 ⟨by dsimp only; omega, by dsimp only; omega⟩ ⟨Nat.le_of_ble_eq_true rfl, Nat.le_of_ble_eq_true rfl⟩ rfl (Nat.le_of_ble_eq_true rfl)) rfl rfl g_no (fun r2 h3 => ?_)
    refine lv_if_ne (tgt := 71) hx hb dX5_faulty_63 (by decide) (fun c4 => ?_) (fun c4 => ?_)
    · have q5 := bz.t h3 c4
      refine lv_aload_n hx hb dX5_faulty_71 rfl (lv_at hl 0 rfl) ?_
      refine g_get (v := .ref (β 1)) hC hR.obj (C := RX5) (T := TX5) (N := 26) rfl u5_in 1 (by decide) k_997 rfl dX5_faulty_72 ?_
      refine lv_iload_n hx hb dX5_faulty_75 rfl (lv_at hl 1 rfl) ?_
      refine g_zald (n := 20) (f := μ 1) (j := p) hC (hR.arr 1 (by decide) rfl rfl) (by omega) (by decide) dX5_faulty_76 ?_
      refine lv_if_eq (tgt := 85) hx hb dX5_faulty_77 (by decide) (fun c6 => ?_) (fun c6 => ?_)
      · refine lv_iload_n hx hb dX5_faulty_85 rfl (lv_at hl 2 rfl) ?_
        refine lv_aload_n hx hb dX5_faulty_86 rfl (lv_at hl 0 rfl) ?_
        refine g_get (v := .ref (β 5)) hC hR.obj (C := RX5) (T := TX5) (N := 26) rfl u5_in 5 (by decide) k_1001 rfl dX5_faulty_87 ?_
        refine lv_iload_n hx hb dX5_faulty_90 rfl (lv_at hl 1 rfl) ?_
        refine g_iald (n := 20) (f := μ 5) (j := p) hC (hR.arr 5 (by decide) rfl rfl) (by omega) (by decide) dX5_faulty_91 ?_
        refine lv_icmp_le (tgt := 100) hx hb dX5_faulty_92 (by decide) (fun c7 => ?_) (fun c7 => ?_)
        · refine lv_bipush (v := 45) hx hb dX5_faulty_100 (by decide) ?_
          exact g_zretW hC hr rfl dX5_faulty_102 hS (Nat.le_of_ble_eq_true rfl) (Nat.le_of_ble_eq_true rfl) ⟨by rw [hfl]; unfold fOwn; rw [if_pos (by assumption), if_neg (fun z => z (by assumption)), if_neg (Int32.not_lt.mpr (by assumption))], by rw [hdp]; exact hR⟩
        · refine lv_bipush (v := 108) hx hb dX5_faulty_95 (by decide) ?_
          refine lv_goto (tgt := 102) hx hb dX5_faulty_97 (by decide) ?_
          exact g_zretW hC hr rfl dX5_faulty_102 hS (Nat.le_of_ble_eq_true rfl) (Nat.le_of_ble_eq_true rfl) ⟨by rw [hfl]; unfold fOwn; rw [if_pos (by assumption), if_neg (fun z => z (by assumption)), if_pos (Int32.not_le.mp (by assumption))], by rw [hdp]; exact hR⟩
      · refine lv_bipush (v := 118) hx hb dX5_faulty_80 (by decide) ?_
        refine lv_goto (tgt := 102) hx hb dX5_faulty_82 (by decide) ?_
        exact g_zretW hC hr rfl dX5_faulty_102 hS (Nat.le_of_ble_eq_true rfl) (Nat.le_of_ble_eq_true rfl) ⟨by rw [hfl]; unfold fOwn; rw [if_pos (by assumption), if_pos (by assumption)], by rw [hdp]; exact hR⟩
    · have q5 := bz.f h3 c4
      refine lv_bipush (v := 100) hx hb dX5_faulty_66 (by decide) ?_
      refine lv_goto (tgt := 102) hx hb dX5_faulty_68 (by decide) ?_
      exact g_zretW hC hr rfl dX5_faulty_102 hS (Nat.le_of_ble_eq_true rfl) (Nat.le_of_ble_eq_true rfl) ⟨by rw [hfl]; exact (if_neg (by assumption)).symm, by rw [hdp]; exact hR⟩
  · obtain ⟨q, hq, eq⟩ := (hSr p hp).resolve_left c1
    have eq8 : μ 8 p = nI q := eq
    refine lv_aload_n hx hb dX5_faulty_9 rfl (lv_at hl 0 rfl) ?_
    refine lv_aload_n hx hb dX5_faulty_10 rfl (lv_at hl 0 rfl) ?_
    refine g_get (v := .ref (β 8)) hC hR.obj (C := RX5) (T := TX5) (N := 26) rfl u5_in 8 (by decide) k_1004 rfl dX5_faulty_11 ?_
    refine lv_iload_n hx hb dX5_faulty_14 rfl (lv_at hl 1 rfl) ?_
    refine g_iald (n := 20) (f := μ 8) (j := p) hC (hR.arr 8 (by decide) rfl rfl) (by omega) (by decide) dX5_faulty_15 ?_
    refine lv_iload_n hx hb dX5_faulty_16 rfl (lv_at hl 2 rfl) ?_
    rw [eq8]
    refine g_cWi (k2 := 0) (n2 := 0) (g_runV (rest := []) hC (ih q hq _ (by omega)) Y_X5_faulty k_1159 I_X5_faulty V_X5_faulty hR.obj rfl hR rfl hl.1 dX5_faulty_17 ⟨by dsimp only; omega, by dsimp only; omega⟩ ⟨Nat.le_of_ble_eq_true rfl, Nat.le_of_ble_eq_true rfl⟩ rfl (Nat.le_of_ble_eq_true rfl)) hS (fun _ h => h) rfl rfl (fun r8 H lo h9 _ _ hS => ?_)
    obtain ⟨ef10, hR⟩ := h9
    refine lv_istore_n (lv' := [(3, .int r8), (0, .ref (β 19)), (1, .int (nI p)), (2, .int s0)]) hx hb dX5_faulty_20 rfl hl (by decide) rfl (fun ls hl => ?_)
    refine lv_iload_n hx hb dX5_faulty_21 rfl (lv_at hl 0 rfl) ?_
    refine lv_bipush (v := 45) hx hb dX5_faulty_22 (by decide) ?_
    refine lv_icmp_eq (tgt := 39) hx hb dX5_faulty_24 (by decide) (fun c11 => ?_) (fun c11 => ?_)
    · have hfl : fl (mv μ) (μ 22 0) s0 p = fOwn (mv μ) (μ 22 0) s0 p := by rw [fl_s hSr (by omega) hp hq eq, ← ef10, c11]; rfl
      have hdp : dpt (mv μ) (μ 22 0) s0 p = 0 := by rw [dpt_s hSr (by omega) hp hq eq, ← ef10, c11]; rfl
      refine lv_aload_n hx hb dX5_faulty_39 rfl (lv_at hl 1 rfl) ?_
      refine lv_iconst (v := 0) hx hb dX5_faulty_40 (by decide) ?_
      refine m_putN (μ' := μ) (K' := K) (dp' := 0) (th' := th) 24 (by decide) hC hR hS k_1020 rfl rfl (fun _ _ => rfl) rfl dX5_faulty_41 (fun H lo hR hS => ?_)
      refine lv_aload_n hx hb dX5_faulty_44 rfl (lv_at hl 1 rfl) ?_
      refine g_get (v := .int (μ 22 0)) hC hR.obj (C := RX5) (T := TX5) (N := 26) rfl u5_in 22 (by decide) k_1018 rfl dX5_faulty_45 ?_
      refine lv_aload_n hx hb dX5_faulty_48 rfl (lv_at hl 1 rfl) ?_
      refine g_get (v := .ref (β 6)) hC hR.obj (C := RX5) (T := TX5) (N := 26) rfl u5_in 6 (by decide) k_1002 rfl dX5_faulty_49 ?_
      refine lv_iload_n hx hb dX5_faulty_52 rfl (lv_at hl 2 rfl) ?_
      refine g_iald (n := 20) (f := μ 6) (j := p) hC (hR.arr 6 (by decide) rfl rfl) (by omega) (by decide) dX5_faulty_53 ?_
      refine lv_aload_n hx hb dX5_faulty_54 rfl (lv_at hl 1 rfl) ?_
      refine g_get (v := .ref (β 7)) hC hR.obj (C := RX5) (T := TX5) (N := 26) rfl u5_in 7 (by decide) k_1003 rfl dX5_faulty_55 ?_
      refine lv_iload_n hx hb dX5_faulty_58 rfl (lv_at hl 2 rfl) ?_
      refine g_iald (n := 20) (f := μ 7) (j := p) hC (hR.arr 7 (by decide) rfl rfl) (by omega) (by decide) dX5_faulty_59 ?_
      refine g_cRi (k2 := 0) (n2 := 0) (g_runS (rest := []) hC (c_X5_isIn hE (μ 22 0) (μ 6 p) (μ 7 p)) Y_X5_isIn k_1096 S_X5_isIn trivial rfl hl.1 dX5_faulty_60 ⟨by dsimp only; omega, by dsimp only; omega⟩ ⟨Nat.le_of_ble_eq_true rfl, Nat.le_of_ble_eq_true rfl⟩ rfl (Nat.le_of_ble_eq_true rfl)) rfl rfl g_no (fun r12 h13 => ?_)
      refine lv_if_ne (tgt := 71) hx hb dX5_faulty_63 (by decide) (fun c14 => ?_) (fun c14 => ?_)
      · have q15 := bz.t h13 c14
        refine lv_aload_n hx hb dX5_faulty_71 rfl (lv_at hl 1 rfl) ?_
        refine g_get (v := .ref (β 1)) hC hR.obj (C := RX5) (T := TX5) (N := 26) rfl u5_in 1 (by decide) k_997 rfl dX5_faulty_72 ?_
        refine lv_iload_n hx hb dX5_faulty_75 rfl (lv_at hl 2 rfl) ?_
        refine g_zald (n := 20) (f := μ 1) (j := p) hC (hR.arr 1 (by decide) rfl rfl) (by omega) (by decide) dX5_faulty_76 ?_
        refine lv_if_eq (tgt := 85) hx hb dX5_faulty_77 (by decide) (fun c16 => ?_) (fun c16 => ?_)
        · refine lv_iload_n hx hb dX5_faulty_85 rfl (lv_at hl 3 rfl) ?_
          refine lv_aload_n hx hb dX5_faulty_86 rfl (lv_at hl 1 rfl) ?_
          refine g_get (v := .ref (β 5)) hC hR.obj (C := RX5) (T := TX5) (N := 26) rfl u5_in 5 (by decide) k_1001 rfl dX5_faulty_87 ?_
          refine lv_iload_n hx hb dX5_faulty_90 rfl (lv_at hl 2 rfl) ?_
          refine g_iald (n := 20) (f := μ 5) (j := p) hC (hR.arr 5 (by decide) rfl rfl) (by omega) (by decide) dX5_faulty_91 ?_
          refine lv_icmp_le (tgt := 100) hx hb dX5_faulty_92 (by decide) (fun c17 => ?_) (fun c17 => ?_)
          · refine lv_bipush (v := 45) hx hb dX5_faulty_100 (by decide) ?_
            exact g_zretW hC hr rfl dX5_faulty_102 hS (Nat.le_of_ble_eq_true rfl) (Nat.le_of_ble_eq_true rfl) ⟨by rw [hfl]; unfold fOwn; rw [if_pos (by assumption), if_neg (fun z => z (by assumption)), if_neg (Int32.not_lt.mpr (by assumption))], by rw [hdp]; exact hR⟩
          · refine lv_bipush (v := 108) hx hb dX5_faulty_95 (by decide) ?_
            refine lv_goto (tgt := 102) hx hb dX5_faulty_97 (by decide) ?_
            exact g_zretW hC hr rfl dX5_faulty_102 hS (Nat.le_of_ble_eq_true rfl) (Nat.le_of_ble_eq_true rfl) ⟨by rw [hfl]; unfold fOwn; rw [if_pos (by assumption), if_neg (fun z => z (by assumption)), if_pos (Int32.not_le.mp (by assumption))], by rw [hdp]; exact hR⟩
        · refine lv_bipush (v := 118) hx hb dX5_faulty_80 (by decide) ?_
          refine lv_goto (tgt := 102) hx hb dX5_faulty_82 (by decide) ?_
          exact g_zretW hC hr rfl dX5_faulty_102 hS (Nat.le_of_ble_eq_true rfl) (Nat.le_of_ble_eq_true rfl) ⟨by rw [hfl]; unfold fOwn; rw [if_pos (by assumption), if_pos (by assumption)], by rw [hdp]; exact hR⟩
      · have q15 := bz.f h13 c14
        refine lv_bipush (v := 100) hx hb dX5_faulty_66 (by decide) ?_
        refine lv_goto (tgt := 102) hx hb dX5_faulty_68 (by decide) ?_
        exact g_zretW hC hr rfl dX5_faulty_102 hS (Nat.le_of_ble_eq_true rfl) (Nat.le_of_ble_eq_true rfl) ⟨by rw [hfl]; exact (if_neg (by assumption)).symm, by rw [hdp]; exact hR⟩
    · have hfl : fl (mv μ) (μ 22 0) s0 p = r8 := by rw [fl_s hSr (by omega) hp hq eq, ← ef10, if_pos c11]
      have hdp : dpt (mv μ) (μ 22 0) s0 p = dpt (mv μ) (μ 22 0) s0 q + 1 := by rw [dpt_s hSr (by omega) hp hq eq, ← ef10, if_pos c11]
      have hnar : narrow .char (.int r8) = .int r8 := by rw [ef10]; exact fl_nar _ _ _ _
      refine lv_aload_n hx hb dX5_faulty_27 rfl (lv_at hl 1 rfl) ?_
      refine lv_dup hx hb dX5_faulty_28 rfl ?_
      refine g_get (v := .int (nI (dpt (mv μ) (μ 22 0) s0 q))) hC hR.obj (C := RX5) (T := TX5) (N := 26) rfl u5_in 24 (by decide) k_1020 rfl dX5_faulty_29 ?_
      refine lv_iconst (v := 1) hx hb dX5_faulty_32 (by decide) ?_
      refine g_iadd1 hx hb dX5_faulty_33 ?_
      refine m_putN (μ' := μ) (K' := K) (dp' := (nI ((dpt (mv μ) (μ 22 0) s0 q) + 1))) (th' := th) 24 (by decide) hC hR hS k_1020 rfl rfl (fun _ _ => rfl) rfl dX5_faulty_34 (fun H lo hR hS => ?_)
      refine lv_iload_n hx hb dX5_faulty_37 rfl (lv_at hl 0 rfl) ?_
      exact g_zretW hC hr hnar dX5_faulty_38 hS (Nat.le_of_ble_eq_true rfl) (Nat.le_of_ble_eq_true rfl) ⟨hfl.symm, by rw [hdp]; exact hR⟩
