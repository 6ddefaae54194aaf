set_option maxHeartbeats 4000000 in
set_option maxRecDepth 100000 in
theorem c_X5_lacks {l : Launch} {E : gV} (hE : gOK l E) {β : Nat → Nat} {μ : F2} {K : Nat → Nat} {dp th : Int32} (hI : MI μ K) (d : Nat) (i j : Int32) (hd : d < 24) (hi : i ≠ -2) (hj : j ≠ -2) (h16 : μ 16 d = 0) : gM l E yX5_lacks cX5_lacks 7 none ({ frames := 21, cells := 0, slots := 0, locals := 483 } : Room) [.ref (β 19), .int (nI d), .int i, .int j] (fun H => RM E β μ K dp th H) (gQW (mA β) (gWv (fun H => ∃ dp, RM E β (mLack μ d (fLk (mv μ) (μ 22 0) i j (μ 10 d) (μ 14 d) (K 1))) K dp th H))) (fun _ => False) (mA β) := by
  refine gM_body hE (by decide +kernel) (Nat.le_of_ble_eq_true rfl) ?_
  intro p_ e_ s m args below meth c hC ht hr hname hP ls hl
  have hx := hC.2.2.1
  have hb := hC.2.2.2.1
  have hl : lv_has ls 7 [(0, .ref (β 19)), (1, .int (nI d)), (2, .int i), (3, .int j)] := hl
  have hS : va_S ((mA β)) s.heap s.heap [] := va_S.rf
  have hR : RM E β μ K dp th s.heap := hP
  obtain ⟨hK0, hK1, hK2, hSr, hHo, hTd⟩ := hI
  refine lv_aload_n hx hb dX5_lacks_0 rfl (lv_at hl 0 rfl) ?_
  refine g_get (v := .ref (β 18)) hC hR.obj (C := RX5) (T := TX5) (N := 26) rfl u5_in 18 (by decide) k_1014 rfl dX5_lacks_1 ?_
  refine lv_iload_n hx hb dX5_lacks_4 rfl (lv_at hl 1 rfl) ?_
  refine lv_bipush (v := 107) hx hb dX5_lacks_5 (by decide) ?_
  refine m_cast (n := 24) (j := d) 18 (by decide) rfl rfl hC hR hS (by omega) rfl dX5_lacks_7 (fun H lo hR hS => ?_)
  refine lv_aload_n hx hb dX5_lacks_8 rfl (lv_at hl 0 rfl) ?_
  refine g_get (v := .ref (β 15)) hC hR.obj (C := RX5) (T := TX5) (N := 26) rfl u5_in 15 (by decide) k_1011 rfl dX5_lacks_9 ?_
  refine lv_iload_n hx hb dX5_lacks_12 rfl (lv_at hl 1 rfl) ?_
  refine lv_iconst (v := (-1)) hx hb dX5_lacks_13 (by decide) ?_
  refine m_iast (n := 24) (j := d) 15 (by decide) rfl rfl hC hR hS (by omega) dX5_lacks_14 (fun H lo hR hS => ?_)
  have hR : RM E β (mLack μ d (fLk (mv μ) (μ 22 0) i j (μ 10 d) (μ 14 d) 0)) K dp th H := by rw [show (fLk (mv μ) (μ 22 0) i j (μ 10 d) (μ 14 d) 0) = (107, -1, 0) from rfl, mLack_0 h16]; exact hR
  refine lv_iconst (v := 0) hx hb dX5_lacks_15 (by decide) ?_
  refine lv_istore (lv' := [(4, .int 0), (0, .ref (β 19)), (1, .int (nI d)), (2, .int i), (3, .int j)]) hx hb dX5_lacks_16 hl (by decide) rfl (fun ls hl => ?_)
  have loop : ∀ (n_ : Nat) (q : Nat) (dp : Int32) (H : Heap) (lo : List Loc) (ls : Array Slot), K 1 - q < n_ → (q ≤ K 1) → RM E β (mLack μ d (fLk (mv μ) (μ 22 0) i j (μ 10 d) (μ 14 d) q)) K dp th H → va_S ((mA β)) s.heap H lo → lv_has ls 7 [(0, .ref (β 19)), (1, .int (nI d)), (2, .int i), (3, .int j), (4, .int (nI q))] → W p_ l e_ ({ frames := 21, cells := 0, slots := 0, locals := 483 } : Room) s m args below meth c H lo 0 0 (vx_MQ below (gQW (mA β) (gWv (fun H => ∃ dp, RM E β (mLack μ d (fLk (mv μ) (μ 22 0) i j (μ 10 d) (μ 14 d) (K 1))) K dp th H))) (gX (fun _ => False)) args s 0 0 (mA β)) (F0 m 18 ls []) := by
    intro n_
    induction n_ with
    | zero => intro q dp H lo ls h_; exact absurd h_ (Nat.not_lt_zero _)
    | succ n_ ih_loop =>
      intro q dp H lo ls hn_ i1 hR hS hl
      refine lv_iload hx hb dX5_lacks_18 (lv_at hl 4 rfl) ?_
      refine lv_aload_n hx hb dX5_lacks_20 rfl (lv_at hl 0 rfl) ?_
      refine g_get (v := .int (nI (K 1))) hC hR.obj (C := RX5) (T := TX5) (N := 26) rfl u5_in 20 (by decide) k_1016 rfl dX5_lacks_21 ?_
      refine lv_icmp_ge (tgt := 167) hx hb dX5_lacks_24 (by decide) (fun c1_ => ?_) (fun c1_ => ?_)
      · have n2_ : (K 1) ≤ q := le_nI (by omega) (by omega) c1_
        exact g_vretW hC hr dX5_lacks_167 hS (Nat.le_of_ble_eq_true rfl) (Nat.le_of_ble_eq_true rfl) (by rw [← show q = K 1 by omega]; exact ⟨_, hR⟩)
      · have n2_ : q < (K 1) := not_le_nI (by omega) (by omega) c1_
        refine lv_aload_n hx hb dX5_lacks_27 rfl (lv_at hl 0 rfl) ?_
        refine g_get (v := .ref (β 4)) hC hR.obj (C := RX5) (T := TX5) (N := 26) rfl u5_in 4 (by decide) k_1000 rfl dX5_lacks_28 ?_
        refine lv_iload hx hb dX5_lacks_31 (lv_at hl 4 rfl) ?_
        refine g_iald (n := 20) (f := μ 4) (j := q) hC (hR.arr 4 (by decide) rfl rfl) (by omega) (by decide) dX5_lacks_33 ?_
        refine lv_aload_n hx hb dX5_lacks_34 rfl (lv_at hl 0 rfl) ?_
        refine g_get (v := .ref (β 10)) hC hR.obj (C := RX5) (T := TX5) (N := 26) rfl u5_in 10 (by decide) k_1006 rfl dX5_lacks_35 ?_
        refine lv_iload_n hx hb dX5_lacks_38 rfl (lv_at hl 1 rfl) ?_
        refine g_iald (n := 24) (f := μ 10) (j := d) hC (hR.arr 10 (by decide) rfl rfl) (by omega) (by decide) dX5_lacks_39 ?_
        refine lv_icmp_ne (tgt := 161) hx hb dX5_lacks_40 (by decide) (fun c3_ => ?_) (fun c3_ => ?_)
        · refine lv_iinc (v := nI (q + 1)) (lv' := [(4, .int (nI (q + 1))), (0, .ref (β 19)), (1, .int (nI d)), (2, .int i), (3, .int j)]) hx hb dX5_lacks_161 hl (k := 4) rfl (g_inc _) (by decide) rfl (fun ls hl => ?_)
          refine lv_goto (tgt := 18) hx hb dX5_lacks_164 (by decide) ?_
          have hL : (fLk (mv μ) (μ 22 0) i j (μ 10 d) (μ 14 d) (q + 1)) = (fLk (mv μ) (μ 22 0) i j (μ 10 d) (μ 14 d) q) := cif_neg (by rintro ⟨z1, z2, z3⟩; first | exact absurd z1 (by assumption) | grind)
          have hR : RM E β (mLack μ d (fLk (mv μ) (μ 22 0) i j (μ 10 d) (μ 14 d) (q + 1))) K dp th H := by rw [hL]; exact hR
          exact ih_loop (q + 1) _ H lo ls (by omega) (by omega) hR hS (lv_sub hl [1, 2, 3, 4, 0] rfl)
        · refine lv_aload_n hx hb dX5_lacks_43 rfl (lv_at hl 0 rfl) ?_
          refine lv_iload_n hx hb dX5_lacks_44 rfl (lv_at hl 2 rfl) ?_
          refine lv_aload_n hx hb dX5_lacks_45 rfl (lv_at hl 0 rfl) ?_
          refine g_get (v := .ref (β 3)) hC hR.obj (C := RX5) (T := TX5) (N := 26) rfl u5_in 3 (by decide) k_999 rfl dX5_lacks_46 ?_
          refine lv_iload hx hb dX5_lacks_49 (lv_at hl 4 rfl) ?_
          refine g_iald (n := 20) (f := μ 3) (j := q) hC (hR.arr 3 (by decide) rfl rfl) (by omega) (by decide) dX5_lacks_51 ?_
          obtain ⟨j_h, hj_h, ej_h⟩ := hHo q (by omega)
          rw [ej_h]
          refine g_cRi (k2 := 0) (n2 := 0) (g_runV (rest := []) hC (c_X5_acts hE (β := β) (μ := (mLack μ d (fLk (mv μ) (μ 22 0) i j (μ 10 d) (μ 14 d) q))) (K := K) (dp := dp) (th := th) i j_h (by omega) (by first | assumption | exact nI_m2 _ (by omega))) Y_X5_acts k_1107 I_X5_acts V_X5_acts hR.obj rfl hR rfl hl.1 dX5_lacks_52 ⟨Nat.le_of_ble_eq_true rfl, Nat.le_of_ble_eq_true rfl⟩ ⟨Nat.le_of_ble_eq_true rfl, Nat.le_of_ble_eq_true rfl⟩ rfl (Nat.le_of_ble_eq_true rfl)) rfl rfl g_no (fun r4_ h5_ => ?_)
          have f6_ := h5_; rw [mv_lack, ← show mv μ 5 q = nI j_h from ej_h] at f6_
          refine lv_if_ne (tgt := 77) hx hb dX5_lacks_55 (by decide) (fun c7_ => ?_) (fun c7_ => ?_)
          · have q8_ := bz.t f6_ c7_
            refine lv_aload_n hx hb dX5_lacks_77 rfl (lv_at hl 0 rfl) ?_
            refine lv_iload hx hb dX5_lacks_78 (lv_at hl 4 rfl) ?_
            refine lv_aload_n hx hb dX5_lacks_80 rfl (lv_at hl 0 rfl) ?_
            refine g_get (v := .ref (β 14)) hC hR.obj (C := RX5) (T := TX5) (N := 26) rfl u5_in 14 (by decide) k_1010 rfl dX5_lacks_81 ?_
            refine lv_iload_n hx hb dX5_lacks_84 rfl (lv_at hl 1 rfl) ?_
            refine g_iald (n := 24) (f := μ 14) (j := d) hC (hR.arr 14 (by decide) rfl rfl) (by omega) (by decide) dX5_lacks_85 ?_
            refine g_cWi (k2 := 0) (n2 := 0) (g_runV (rest := []) hC (c_X5_faulty hE (μ := (mLack μ d (fLk (mv μ) (μ 22 0) i j (μ 10 d) (μ 14 d) q))) (K := K) ⟨hK0, hK1, hK2, hSr, hHo, hTd⟩ (μ 14 d) q _ (by omega)) Y_X5_faulty k_1159 I_X5_faulty V_X5_faulty hR.obj rfl hR rfl hl.1 dX5_lacks_86 ⟨by dsimp only; omega, by dsimp only; omega⟩ ⟨Nat.le_of_ble_eq_true rfl, Nat.le_of_ble_eq_true rfl⟩ rfl (Nat.le_of_ble_eq_true rfl)) hS (fun _ h => h) rfl rfl (fun r9_ H lo h10_ _ _ hS => ?_)
            obtain ⟨ef11_, hR⟩ := h10_
            rw [mv_lack] at ef11_ hR
            have ef11_ : r9_ = fl (mv μ) (μ 22 0) (μ 14 d) q := ef11_
            have hR : RM E β (mLack μ d (fLk (mv μ) (μ 22 0) i j (μ 10 d) (μ 14 d) q)) K (nI (dpt (mv μ) (μ 22 0) (μ 14 d) q)) th H := hR
            refine lv_istore (lv' := [(5, .int r9_), (0, .ref (β 19)), (1, .int (nI d)), (2, .int i), (3, .int j), (4, .int (nI q))]) hx hb dX5_lacks_89 hl (by decide) rfl (fun ls hl => ?_)
            refine lv_iload hx hb dX5_lacks_91 (lv_at hl 0 rfl) ?_
            refine lv_bipush (v := 45) hx hb dX5_lacks_93 (by decide) ?_
            refine lv_icmp_ne (tgt := 103) hx hb dX5_lacks_95 (by decide) (fun c12_ => ?_) (fun c12_ => ?_)
            · refine lv_iload hx hb dX5_lacks_103 (lv_at hl 0 rfl) ?_
              refine lv_istore (lv' := [(6, .int r9_), (5, .int r9_), (0, .ref (β 19)), (1, .int (nI d)), (2, .int i), (3, .int j), (4, .int (nI q))]) hx hb dX5_lacks_105 hl (by decide) rfl (fun ls hl => ?_)
              refine lv_iload hx hb dX5_lacks_107 (lv_at hl 0 rfl) ?_
              refine g_cRi (k2 := 0) (n2 := 0) (g_runS (rest := []) hC (c_X5_order hE r9_) Y_X5_order k_1225 S_X5_order trivial rfl hl.1 dX5_lacks_109 ⟨Nat.le_of_ble_eq_true rfl, Nat.le_of_ble_eq_true rfl⟩ ⟨Nat.le_of_ble_eq_true rfl, Nat.le_of_ble_eq_true rfl⟩ rfl (Nat.le_of_ble_eq_true rfl)) rfl rfl g_no (fun r13_ h14_ => ?_)
              refine lv_aload_n hx hb dX5_lacks_112 rfl (lv_at hl 2 rfl) ?_
              refine g_get (v := .ref (β 18)) hC hR.obj (C := RX5) (T := TX5) (N := 26) rfl u5_in 18 (by decide) k_1014 rfl dX5_lacks_113 ?_
              refine lv_iload_n hx hb dX5_lacks_116 rfl (lv_at hl 3 rfl) ?_
              refine g_cald (n := 24) (f := (upd (μ 18) d (fLk (mv μ) (μ 22 0) i j (μ 10 d) (μ 14 d) q).1)) (j := d) hC (hR.arr 18 (by decide) rfl rfl) (by omega) (by decide) dX5_lacks_117 ?_
              rw [upd_s]
              refine g_cRi (k2 := 0) (n2 := 0) (g_runS (rest := [.int r13_]) hC (c_X5_order hE ((fLk (mv μ) (μ 22 0) i j (μ 10 d) (μ 14 d) q).1)) Y_X5_order k_1225 S_X5_order trivial rfl hl.1 dX5_lacks_118 ⟨Nat.le_of_ble_eq_true rfl, Nat.le_of_ble_eq_true rfl⟩ ⟨Nat.le_of_ble_eq_true rfl, Nat.le_of_ble_eq_true rfl⟩ rfl (Nat.le_of_ble_eq_true rfl)) rfl rfl g_no (fun r15_ h16_ => ?_)
              refine lv_icmp_le (tgt := 161) hx hb dX5_lacks_121 (by decide) (fun c17_ => ?_) (fun c17_ => ?_)
              · refine lv_iinc (v := nI (q + 1)) (lv' := [(4, .int (nI (q + 1))), (6, .int r9_), (5, .int r9_), (0, .ref (β 19)), (1, .int (nI d)), (2, .int i), (3, .int j)]) hx hb dX5_lacks_161 hl (k := 6) rfl (g_inc _) (by decide) rfl (fun ls hl => ?_)
                refine lv_goto (tgt := 18) hx hb dX5_lacks_164 (by decide) ?_
                have hL : (fLk (mv μ) (μ 22 0) i j (μ 10 d) (μ 14 d) (q + 1)) = (fLk (mv μ) (μ 22 0) i j (μ 10 d) (μ 14 d) q) := cif_neg (by rintro ⟨z1, z2, z3⟩; first | exact absurd z1 (by assumption) | grind)
                have hR : RM E β (mLack μ d (fLk (mv μ) (μ 22 0) i j (μ 10 d) (μ 14 d) (q + 1))) K (nI (dpt (mv μ) (μ 22 0) (μ 14 d) q)) th H := by rw [hL]; exact hR
                exact ih_loop (q + 1) _ H lo ls (by omega) (by omega) hR hS (lv_sub hl [3, 4, 5, 6, 0] rfl)
              · refine lv_aload_n hx hb dX5_lacks_124 rfl (lv_at hl 2 rfl) ?_
                refine g_get (v := .ref (β 18)) hC hR.obj (C := RX5) (T := TX5) (N := 26) rfl u5_in 18 (by decide) k_1014 rfl dX5_lacks_125 ?_
                refine lv_iload_n hx hb dX5_lacks_128 rfl (lv_at hl 3 rfl) ?_
                refine lv_iload hx hb dX5_lacks_129 (lv_at hl 0 rfl) ?_
                refine m_cast (n := 24) (j := d) 18 (by decide) rfl rfl hC hR hS (by omega) (by rw [ef11_]; exact fl_nar _ _ _ _) dX5_lacks_131 (fun H lo hR hS => ?_)
                refine lv_aload_n hx hb dX5_lacks_132 rfl (lv_at hl 2 rfl) ?_
                refine g_get (v := .ref (β 15)) hC hR.obj (C := RX5) (T := TX5) (N := 26) rfl u5_in 15 (by decide) k_1011 rfl dX5_lacks_133 ?_
                refine lv_iload_n hx hb dX5_lacks_136 rfl (lv_at hl 3 rfl) ?_
                refine lv_iload hx hb dX5_lacks_137 (lv_at hl 6 rfl) ?_
                refine m_iast (n := 24) (j := d) 15 (by decide) rfl rfl hC hR hS (by omega) dX5_lacks_139 (fun H lo hR hS => ?_)
                refine lv_aload_n hx hb dX5_lacks_140 rfl (lv_at hl 2 rfl) ?_
                refine g_get (v := .ref (β 16)) hC hR.obj (C := RX5) (T := TX5) (N := 26) rfl u5_in 16 (by decide) k_1012 rfl dX5_lacks_141 ?_
                refine lv_iload_n hx hb dX5_lacks_144 rfl (lv_at hl 3 rfl) ?_
                refine lv_iload hx hb dX5_lacks_145 (lv_at hl 1 rfl) ?_
                refine lv_bipush (v := 45) hx hb dX5_lacks_147 (by decide) ?_
                refine lv_icmp_ne (tgt := 156) hx hb dX5_lacks_149 (by decide) (fun c18_ => ?_) (fun c18_ => ?_)
                · refine lv_aload_n hx hb dX5_lacks_156 rfl (lv_at hl 2 rfl) ?_
                  refine g_get (v := .int (nI (dpt (mv μ) (μ 22 0) (μ 14 d) q))) hC hR.obj (C := RX5) (T := TX5) (N := 26) rfl u5_in 24 (by decide) k_1020 rfl dX5_lacks_157 ?_
                  refine m_iast (n := 24) (j := d) 16 (by decide) rfl rfl hC hR hS (by omega) dX5_lacks_160 (fun H lo hR hS => ?_)
                  refine lv_iinc (v := nI (q + 1)) (lv' := [(4, .int (nI (q + 1))), (6, .int r9_), (5, .int r9_), (0, .ref (β 19)), (1, .int (nI d)), (2, .int i), (3, .int j)]) hx hb dX5_lacks_161 hl (k := 6) rfl (g_inc _) (by decide) rfl (fun ls hl => ?_)
                  refine lv_goto (tgt := 18) hx hb dX5_lacks_164 (by decide) ?_
                  have hL : (fLk (mv μ) (μ 22 0) i j (μ 10 d) (μ 14 d) (q + 1)) = (r9_, nI q, nI (dpt (mv μ) (μ 22 0) (μ 14 d) q)) := by show cif _ _ _ = _; rw [cif_pos (by refine ⟨by assumption, ?_, ?_⟩ <;> grind)]; grind
                  have hR : RM E β (mLack μ d (fLk (mv μ) (μ 22 0) i j (μ 10 d) (μ 14 d) (q + 1))) K (nI (dpt (mv μ) (μ 22 0) (μ 14 d) q)) th H := by rw [hL, ← mLack_s]; exact hR
                  exact ih_loop (q + 1) _ H lo ls (by omega) (by omega) hR hS (lv_sub hl [3, 4, 5, 6, 0] rfl)
                · refine lv_iconst (v := 0) hx hb dX5_lacks_152 (by decide) ?_
                  refine lv_goto (tgt := 160) hx hb dX5_lacks_153 (by decide) ?_
                  refine m_iast (n := 24) (j := d) 16 (by decide) rfl rfl hC hR hS (by omega) dX5_lacks_160 (fun H lo hR hS => ?_)
                  refine lv_iinc (v := nI (q + 1)) (lv' := [(4, .int (nI (q + 1))), (6, .int r9_), (5, .int r9_), (0, .ref (β 19)), (1, .int (nI d)), (2, .int i), (3, .int j)]) hx hb dX5_lacks_161 hl (k := 6) rfl (g_inc _) (by decide) rfl (fun ls hl => ?_)
                  refine lv_goto (tgt := 18) hx hb dX5_lacks_164 (by decide) ?_
                  have hL : (fLk (mv μ) (μ 22 0) i j (μ 10 d) (μ 14 d) (q + 1)) = (r9_, nI q, 0) := by show cif _ _ _ = _; rw [cif_pos (by refine ⟨by assumption, ?_, ?_⟩ <;> grind)]; grind
                  have hR : RM E β (mLack μ d (fLk (mv μ) (μ 22 0) i j (μ 10 d) (μ 14 d) (q + 1))) K (nI (dpt (mv μ) (μ 22 0) (μ 14 d) q)) th H := by rw [hL, ← mLack_s]; exact hR
                  exact ih_loop (q + 1) _ H lo ls (by omega) (by omega) hR hS (lv_sub hl [3, 4, 5, 6, 0] rfl)
            · refine lv_bipush (v := 104) hx hb dX5_lacks_98 (by decide) ?_
              refine lv_goto (tgt := 105) hx hb dX5_lacks_100 (by decide) ?_
              refine lv_istore (lv' := [(6, .int 104), (5, .int r9_), (0, .ref (β 19)), (1, .int (nI d)), (2, .int i), (3, .int j), (4, .int (nI q))]) hx hb dX5_lacks_105 hl (by decide) rfl (fun ls hl => ?_)
              refine lv_iload hx hb dX5_lacks_107 (lv_at hl 0 rfl) ?_
              refine g_cRi (k2 := 0) (n2 := 0) (g_runS (rest := []) hC (c_X5_order hE 104) Y_X5_order k_1225 S_X5_order trivial rfl hl.1 dX5_lacks_109 ⟨Nat.le_of_ble_eq_true rfl, Nat.le_of_ble_eq_true rfl⟩ ⟨Nat.le_of_ble_eq_true rfl, Nat.le_of_ble_eq_true rfl⟩ rfl (Nat.le_of_ble_eq_true rfl)) rfl rfl g_no (fun r19_ h20_ => ?_)
              refine lv_aload_n hx hb dX5_lacks_112 rfl (lv_at hl 2 rfl) ?_
              refine g_get (v := .ref (β 18)) hC hR.obj (C := RX5) (T := TX5) (N := 26) rfl u5_in 18 (by decide) k_1014 rfl dX5_lacks_113 ?_
              refine lv_iload_n hx hb dX5_lacks_116 rfl (lv_at hl 3 rfl) ?_
              refine g_cald (n := 24) (f := (upd (μ 18) d (fLk (mv μ) (μ 22 0) i j (μ 10 d) (μ 14 d) q).1)) (j := d) hC (hR.arr 18 (by decide) rfl rfl) (by omega) (by decide) dX5_lacks_117 ?_
              rw [upd_s]
              refine g_cRi (k2 := 0) (n2 := 0) (g_runS (rest := [.int r19_]) hC (c_X5_order hE ((fLk (mv μ) (μ 22 0) i j (μ 10 d) (μ 14 d) q).1)) Y_X5_order k_1225 S_X5_order trivial rfl hl.1 dX5_lacks_118 ⟨Nat.le_of_ble_eq_true rfl, Nat.le_of_ble_eq_true rfl⟩ ⟨Nat.le_of_ble_eq_true rfl, Nat.le_of_ble_eq_true rfl⟩ rfl (Nat.le_of_ble_eq_true rfl)) rfl rfl g_no (fun r21_ h22_ => ?_)
              refine lv_icmp_le (tgt := 161) hx hb dX5_lacks_121 (by decide) (fun c23_ => ?_) (fun c23_ => ?_)
              · refine lv_iinc (v := nI (q + 1)) (lv' := [(4, .int (nI (q + 1))), (6, .int 104), (5, .int r9_), (0, .ref (β 19)), (1, .int (nI d)), (2, .int i), (3, .int j)]) hx hb dX5_lacks_161 hl (k := 6) rfl (g_inc _) (by decide) rfl (fun ls hl => ?_)
                refine lv_goto (tgt := 18) hx hb dX5_lacks_164 (by decide) ?_
                have hL : (fLk (mv μ) (μ 22 0) i j (μ 10 d) (μ 14 d) (q + 1)) = (fLk (mv μ) (μ 22 0) i j (μ 10 d) (μ 14 d) q) := cif_neg (by rintro ⟨z1, z2, z3⟩; first | exact absurd z1 (by assumption) | grind)
                have hR : RM E β (mLack μ d (fLk (mv μ) (μ 22 0) i j (μ 10 d) (μ 14 d) (q + 1))) K (nI (dpt (mv μ) (μ 22 0) (μ 14 d) q)) th H := by rw [hL]; exact hR
                exact ih_loop (q + 1) _ H lo ls (by omega) (by omega) hR hS (lv_sub hl [3, 4, 5, 6, 0] rfl)
              · refine lv_aload_n hx hb dX5_lacks_124 rfl (lv_at hl 2 rfl) ?_
                refine g_get (v := .ref (β 18)) hC hR.obj (C := RX5) (T := TX5) (N := 26) rfl u5_in 18 (by decide) k_1014 rfl dX5_lacks_125 ?_
                refine lv_iload_n hx hb dX5_lacks_128 rfl (lv_at hl 3 rfl) ?_
                refine lv_iload hx hb dX5_lacks_129 (lv_at hl 0 rfl) ?_
                refine m_cast (n := 24) (j := d) 18 (by decide) rfl rfl hC hR hS (by omega) rfl dX5_lacks_131 (fun H lo hR hS => ?_)
                refine lv_aload_n hx hb dX5_lacks_132 rfl (lv_at hl 2 rfl) ?_
                refine g_get (v := .ref (β 15)) hC hR.obj (C := RX5) (T := TX5) (N := 26) rfl u5_in 15 (by decide) k_1011 rfl dX5_lacks_133 ?_
                refine lv_iload_n hx hb dX5_lacks_136 rfl (lv_at hl 3 rfl) ?_
                refine lv_iload hx hb dX5_lacks_137 (lv_at hl 6 rfl) ?_
                refine m_iast (n := 24) (j := d) 15 (by decide) rfl rfl hC hR hS (by omega) dX5_lacks_139 (fun H lo hR hS => ?_)
                refine lv_aload_n hx hb dX5_lacks_140 rfl (lv_at hl 2 rfl) ?_
                refine g_get (v := .ref (β 16)) hC hR.obj (C := RX5) (T := TX5) (N := 26) rfl u5_in 16 (by decide) k_1012 rfl dX5_lacks_141 ?_
                refine lv_iload_n hx hb dX5_lacks_144 rfl (lv_at hl 3 rfl) ?_
                refine lv_iload hx hb dX5_lacks_145 (lv_at hl 1 rfl) ?_
                refine lv_bipush (v := 45) hx hb dX5_lacks_147 (by decide) ?_
                refine lv_icmp_ne (tgt := 156) hx hb dX5_lacks_149 (by decide) (fun c24_ => ?_) (fun c24_ => ?_)
                · refine lv_aload_n hx hb dX5_lacks_156 rfl (lv_at hl 2 rfl) ?_
                  refine g_get (v := .int (nI (dpt (mv μ) (μ 22 0) (μ 14 d) q))) hC hR.obj (C := RX5) (T := TX5) (N := 26) rfl u5_in 24 (by decide) k_1020 rfl dX5_lacks_157 ?_
                  refine m_iast (n := 24) (j := d) 16 (by decide) rfl rfl hC hR hS (by omega) dX5_lacks_160 (fun H lo hR hS => ?_)
                  refine lv_iinc (v := nI (q + 1)) (lv' := [(4, .int (nI (q + 1))), (6, .int 104), (5, .int r9_), (0, .ref (β 19)), (1, .int (nI d)), (2, .int i), (3, .int j)]) hx hb dX5_lacks_161 hl (k := 6) rfl (g_inc _) (by decide) rfl (fun ls hl => ?_)
                  refine lv_goto (tgt := 18) hx hb dX5_lacks_164 (by decide) ?_
                  have hL : (fLk (mv μ) (μ 22 0) i j (μ 10 d) (μ 14 d) (q + 1)) = (104, nI q, nI (dpt (mv μ) (μ 22 0) (μ 14 d) q)) := by show cif _ _ _ = _; rw [cif_pos (by refine ⟨by assumption, ?_, ?_⟩ <;> grind)]; grind
                  have hR : RM E β (mLack μ d (fLk (mv μ) (μ 22 0) i j (μ 10 d) (μ 14 d) (q + 1))) K (nI (dpt (mv μ) (μ 22 0) (μ 14 d) q)) th H := by rw [hL, ← mLack_s]; exact hR
                  exact ih_loop (q + 1) _ H lo ls (by omega) (by omega) hR hS (lv_sub hl [3, 4, 5, 6, 0] rfl)
                · refine lv_iconst (v := 0) hx hb dX5_lacks_152 (by decide) ?_
                  refine lv_goto (tgt := 160) hx hb dX5_lacks_153 (by decide) ?_
                  refine m_iast (n := 24) (j := d) 16 (by decide) rfl rfl hC hR hS (by omega) dX5_lacks_160 (fun H lo hR hS => ?_)
                  refine lv_iinc (v := nI (q + 1)) (lv' := [(4, .int (nI (q + 1))), (6, .int 104), (5, .int r9_), (0, .ref (β 19)), (1, .int (nI d)), (2, .int i), (3, .int j)]) hx hb dX5_lacks_161 hl (k := 6) rfl (g_inc _) (by decide) rfl (fun ls hl => ?_)
                  refine lv_goto (tgt := 18) hx hb dX5_lacks_164 (by decide) ?_
                  have hL : (fLk (mv μ) (μ 22 0) i j (μ 10 d) (μ 14 d) (q + 1)) = (104, nI q, 0) := by show cif _ _ _ = _; rw [cif_pos (by refine ⟨by assumption, ?_, ?_⟩ <;> grind)]; grind
                  have hR : RM E β (mLack μ d (fLk (mv μ) (μ 22 0) i j (μ 10 d) (μ 14 d) (q + 1))) K (nI (dpt (mv μ) (μ 22 0) (μ 14 d) q)) th H := by rw [hL, ← mLack_s]; exact hR
                  exact ih_loop (q + 1) _ H lo ls (by omega) (by omega) hR hS (lv_sub hl [3, 4, 5, 6, 0] rfl)
          · have q8_ := bz.f f6_ c7_
            refine lv_iload_n hx hb dX5_lacks_58 rfl (lv_at hl 3 rfl) ?_
            refine lv_if_lt (tgt := 161) hx hb dX5_lacks_59 (by decide) (fun c25_ => ?_) (fun c25_ => ?_)
            · refine lv_iinc (v := nI (q + 1)) (lv' := [(4, .int (nI (q + 1))), (0, .ref (β 19)), (1, .int (nI d)), (2, .int i), (3, .int j)]) hx hb dX5_lacks_161 hl (k := 4) rfl (g_inc _) (by decide) rfl (fun ls hl => ?_)
              refine lv_goto (tgt := 18) hx hb dX5_lacks_164 (by decide) ?_
              have hL : (fLk (mv μ) (μ 22 0) i j (μ 10 d) (μ 14 d) (q + 1)) = (fLk (mv μ) (μ 22 0) i j (μ 10 d) (μ 14 d) q) := cif_neg (by rintro ⟨z1, z2, z3⟩; first | exact absurd z1 (by assumption) | grind)
              have hR : RM E β (mLack μ d (fLk (mv μ) (μ 22 0) i j (μ 10 d) (μ 14 d) (q + 1))) K dp th H := by rw [hL]; exact hR
              exact ih_loop (q + 1) _ H lo ls (by omega) (by omega) hR hS (lv_sub hl [1, 2, 3, 4, 0] rfl)
            · refine lv_aload_n hx hb dX5_lacks_62 rfl (lv_at hl 0 rfl) ?_
              refine lv_iload_n hx hb dX5_lacks_63 rfl (lv_at hl 3 rfl) ?_
              refine lv_aload_n hx hb dX5_lacks_64 rfl (lv_at hl 0 rfl) ?_
              refine g_get (v := .ref (β 3)) hC hR.obj (C := RX5) (T := TX5) (N := 26) rfl u5_in 3 (by decide) k_999 rfl dX5_lacks_65 ?_
              refine lv_iload hx hb dX5_lacks_68 (lv_at hl 4 rfl) ?_
              refine g_iald (n := 20) (f := μ 3) (j := q) hC (hR.arr 3 (by decide) rfl rfl) (by omega) (by decide) dX5_lacks_70 ?_
              rw [ej_h]
              refine g_cRi (k2 := 0) (n2 := 0) (g_runV (rest := []) hC (c_X5_acts hE (β := β) (μ := (mLack μ d (fLk (mv μ) (μ 22 0) i j (μ 10 d) (μ 14 d) q))) (K := K) (dp := dp) (th := th) j j_h (by omega) (by first | assumption | exact nI_m2 _ (by omega))) Y_X5_acts k_1107 I_X5_acts V_X5_acts hR.obj rfl hR rfl hl.1 dX5_lacks_71 ⟨Nat.le_of_ble_eq_true rfl, Nat.le_of_ble_eq_true rfl⟩ ⟨Nat.le_of_ble_eq_true rfl, Nat.le_of_ble_eq_true rfl⟩ rfl (Nat.le_of_ble_eq_true rfl)) rfl rfl g_no (fun r26_ h27_ => ?_)
              have f28_ := h27_; rw [mv_lack, ← show mv μ 5 q = nI j_h from ej_h] at f28_
              refine lv_if_eq (tgt := 161) hx hb dX5_lacks_74 (by decide) (fun c29_ => ?_) (fun c29_ => ?_)
              · have q30_ := bz.f f28_ c29_
                refine lv_iinc (v := nI (q + 1)) (lv' := [(4, .int (nI (q + 1))), (0, .ref (β 19)), (1, .int (nI d)), (2, .int i), (3, .int j)]) hx hb dX5_lacks_161 hl (k := 4) rfl (g_inc _) (by decide) rfl (fun ls hl => ?_)
                refine lv_goto (tgt := 18) hx hb dX5_lacks_164 (by decide) ?_
                have hL : (fLk (mv μ) (μ 22 0) i j (μ 10 d) (μ 14 d) (q + 1)) = (fLk (mv μ) (μ 22 0) i j (μ 10 d) (μ 14 d) q) := cif_neg (by rintro ⟨z1, z2, z3⟩; first | exact absurd z1 (by assumption) | grind)
                have hR : RM E β (mLack μ d (fLk (mv μ) (μ 22 0) i j (μ 10 d) (μ 14 d) (q + 1))) K dp th H := by rw [hL]; exact hR
                exact ih_loop (q + 1) _ H lo ls (by omega) (by omega) hR hS (lv_sub hl [1, 2, 3, 4, 0] rfl)
              · have q30_ := bz.t f28_ c29_
                refine lv_aload_n hx hb dX5_lacks_77 rfl (lv_at hl 0 rfl) ?_
                refine lv_iload hx hb dX5_lacks_78 (lv_at hl 4 rfl) ?_
                refine lv_aload_n hx hb dX5_lacks_80 rfl (lv_at hl 0 rfl) ?_
                refine g_get (v := .ref (β 14)) hC hR.obj (C := RX5) (T := TX5) (N := 26) rfl u5_in 14 (by decide) k_1010 rfl dX5_lacks_81 ?_
                refine lv_iload_n hx hb dX5_lacks_84 rfl (lv_at hl 1 rfl) ?_
                refine g_iald (n := 24) (f := μ 14) (j := d) hC (hR.arr 14 (by decide) rfl rfl) (by omega) (by decide) dX5_lacks_85 ?_
                refine g_cWi (k2 := 0) (n2 := 0) (g_runV (rest := []) hC (c_X5_faulty hE (μ := (mLack μ d (fLk (mv μ) (μ 22 0) i j (μ 10 d) (μ 14 d) q))) (K := K) ⟨hK0, hK1, hK2, hSr, hHo, hTd⟩ (μ 14 d) q _ (by omega)) Y_X5_faulty k_1159 I_X5_faulty V_X5_faulty hR.obj rfl hR rfl hl.1 dX5_lacks_86 ⟨by dsimp only; omega, by dsimp only; omega⟩ ⟨Nat.le_of_ble_eq_true rfl, Nat.le_of_ble_eq_true rfl⟩ rfl (Nat.le_of_ble_eq_true rfl)) hS (fun _ h => h) rfl rfl (fun r31_ H lo h32_ _ _ hS => ?_)
                obtain ⟨ef33_, hR⟩ := h32_
                rw [mv_lack] at ef33_ hR
                have ef33_ : r31_ = fl (mv μ) (μ 22 0) (μ 14 d) q := ef33_
                have hR : RM E β (mLack μ d (fLk (mv μ) (μ 22 0) i j (μ 10 d) (μ 14 d) q)) K (nI (dpt (mv μ) (μ 22 0) (μ 14 d) q)) th H := hR
                refine lv_istore (lv' := [(5, .int r31_), (0, .ref (β 19)), (1, .int (nI d)), (2, .int i), (3, .int j), (4, .int (nI q))]) hx hb dX5_lacks_89 hl (by decide) rfl (fun ls hl => ?_)
                refine lv_iload hx hb dX5_lacks_91 (lv_at hl 0 rfl) ?_
                refine lv_bipush (v := 45) hx hb dX5_lacks_93 (by decide) ?_
                refine lv_icmp_ne (tgt := 103) hx hb dX5_lacks_95 (by decide) (fun c34_ => ?_) (fun c34_ => ?_)
                · refine lv_iload hx hb dX5_lacks_103 (lv_at hl 0 rfl) ?_
                  refine lv_istore (lv' := [(6, .int r31_), (5, .int r31_), (0, .ref (β 19)), (1, .int (nI d)), (2, .int i), (3, .int j), (4, .int (nI q))]) hx hb dX5_lacks_105 hl (by decide) rfl (fun ls hl => ?_)
                  refine lv_iload hx hb dX5_lacks_107 (lv_at hl 0 rfl) ?_
                  refine g_cRi (k2 := 0) (n2 := 0) (g_runS (rest := []) hC (c_X5_order hE r31_) Y_X5_order k_1225 S_X5_order trivial rfl hl.1 dX5_lacks_109 ⟨Nat.le_of_ble_eq_true rfl, Nat.le_of_ble_eq_true rfl⟩ ⟨Nat.le_of_ble_eq_true rfl, Nat.le_of_ble_eq_true rfl⟩ rfl (Nat.le_of_ble_eq_true rfl)) rfl rfl g_no (fun r35_ h36_ => ?_)
                  refine lv_aload_n hx hb dX5_lacks_112 rfl (lv_at hl 2 rfl) ?_
                  refine g_get (v := .ref (β 18)) hC hR.obj (C := RX5) (T := TX5) (N := 26) rfl u5_in 18 (by decide) k_1014 rfl dX5_lacks_113 ?_
                  refine lv_iload_n hx hb dX5_lacks_116 rfl (lv_at hl 3 rfl) ?_
                  refine g_cald (n := 24) (f := (upd (μ 18) d (fLk (mv μ) (μ 22 0) i j (μ 10 d) (μ 14 d) q).1)) (j := d) hC (hR.arr 18 (by decide) rfl rfl) (by omega) (by decide) dX5_lacks_117 ?_
                  rw [upd_s]
                  refine g_cRi (k2 := 0) (n2 := 0) (g_runS (rest := [.int r35_]) hC (c_X5_order hE ((fLk (mv μ) (μ 22 0) i j (μ 10 d) (μ 14 d) q).1)) Y_X5_order k_1225 S_X5_order trivial rfl hl.1 dX5_lacks_118 ⟨Nat.le_of_ble_eq_true rfl, Nat.le_of_ble_eq_true rfl⟩ ⟨Nat.le_of_ble_eq_true rfl, Nat.le_of_ble_eq_true rfl⟩ rfl (Nat.le_of_ble_eq_true rfl)) rfl rfl g_no (fun r37_ h38_ => ?_)
                  refine lv_icmp_le (tgt := 161) hx hb dX5_lacks_121 (by decide) (fun c39_ => ?_) (fun c39_ => ?_)
                  · refine lv_iinc (v := nI (q + 1)) (lv' := [(4, .int (nI (q + 1))), (6, .int r31_), (5, .int r31_), (0, .ref (β 19)), (1, .int (nI d)), (2, .int i), (3, .int j)]) hx hb dX5_lacks_161 hl (k := 6) rfl (g_inc _) (by decide) rfl (fun ls hl => ?_)
                    refine lv_goto (tgt := 18) hx hb dX5_lacks_164 (by decide) ?_
                    have hL : (fLk (mv μ) (μ 22 0) i j (μ 10 d) (μ 14 d) (q + 1)) = (fLk (mv μ) (μ 22 0) i j (μ 10 d) (μ 14 d) q) := cif_neg (by rintro ⟨z1, z2, z3⟩; first | exact absurd z1 (by assumption) | grind)
                    have hR : RM E β (mLack μ d (fLk (mv μ) (μ 22 0) i j (μ 10 d) (μ 14 d) (q + 1))) K (nI (dpt (mv μ) (μ 22 0) (μ 14 d) q)) th H := by rw [hL]; exact hR
                    exact ih_loop (q + 1) _ H lo ls (by omega) (by omega) hR hS (lv_sub hl [3, 4, 5, 6, 0] rfl)
                  · refine lv_aload_n hx hb dX5_lacks_124 rfl (lv_at hl 2 rfl) ?_
                    refine g_get (v := .ref (β 18)) hC hR.obj (C := RX5) (T := TX5) (N := 26) rfl u5_in 18 (by decide) k_1014 rfl dX5_lacks_125 ?_
                    refine lv_iload_n hx hb dX5_lacks_128 rfl (lv_at hl 3 rfl) ?_
                    refine lv_iload hx hb dX5_lacks_129 (lv_at hl 0 rfl) ?_
                    refine m_cast (n := 24) (j := d) 18 (by decide) rfl rfl hC hR hS (by omega) (by rw [ef33_]; exact fl_nar _ _ _ _) dX5_lacks_131 (fun H lo hR hS => ?_)
                    refine lv_aload_n hx hb dX5_lacks_132 rfl (lv_at hl 2 rfl) ?_
                    refine g_get (v := .ref (β 15)) hC hR.obj (C := RX5) (T := TX5) (N := 26) rfl u5_in 15 (by decide) k_1011 rfl dX5_lacks_133 ?_
                    refine lv_iload_n hx hb dX5_lacks_136 rfl (lv_at hl 3 rfl) ?_
                    refine lv_iload hx hb dX5_lacks_137 (lv_at hl 6 rfl) ?_
                    refine m_iast (n := 24) (j := d) 15 (by decide) rfl rfl hC hR hS (by omega) dX5_lacks_139 (fun H lo hR hS => ?_)
                    refine lv_aload_n hx hb dX5_lacks_140 rfl (lv_at hl 2 rfl) ?_
                    refine g_get (v := .ref (β 16)) hC hR.obj (C := RX5) (T := TX5) (N := 26) rfl u5_in 16 (by decide) k_1012 rfl dX5_lacks_141 ?_
                    refine lv_iload_n hx hb dX5_lacks_144 rfl (lv_at hl 3 rfl) ?_
                    refine lv_iload hx hb dX5_lacks_145 (lv_at hl 1 rfl) ?_
                    refine lv_bipush (v := 45) hx hb dX5_lacks_147 (by decide) ?_
                    refine lv_icmp_ne (tgt := 156) hx hb dX5_lacks_149 (by decide) (fun c40_ => ?_) (fun c40_ => ?_)
                    · refine lv_aload_n hx hb dX5_lacks_156 rfl (lv_at hl 2 rfl) ?_
                      refine g_get (v := .int (nI (dpt (mv μ) (μ 22 0) (μ 14 d) q))) hC hR.obj (C := RX5) (T := TX5) (N := 26) rfl u5_in 24 (by decide) k_1020 rfl dX5_lacks_157 ?_
                      refine m_iast (n := 24) (j := d) 16 (by decide) rfl rfl hC hR hS (by omega) dX5_lacks_160 (fun H lo hR hS => ?_)
                      refine lv_iinc (v := nI (q + 1)) (lv' := [(4, .int (nI (q + 1))), (6, .int r31_), (5, .int r31_), (0, .ref (β 19)), (1, .int (nI d)), (2, .int i), (3, .int j)]) hx hb dX5_lacks_161 hl (k := 6) rfl (g_inc _) (by decide) rfl (fun ls hl => ?_)
                      refine lv_goto (tgt := 18) hx hb dX5_lacks_164 (by decide) ?_
                      have hL : (fLk (mv μ) (μ 22 0) i j (μ 10 d) (μ 14 d) (q + 1)) = (r31_, nI q, nI (dpt (mv μ) (μ 22 0) (μ 14 d) q)) := by show cif _ _ _ = _; rw [cif_pos (by refine ⟨by assumption, ?_, ?_⟩ <;> grind)]; grind
                      have hR : RM E β (mLack μ d (fLk (mv μ) (μ 22 0) i j (μ 10 d) (μ 14 d) (q + 1))) K (nI (dpt (mv μ) (μ 22 0) (μ 14 d) q)) th H := by rw [hL, ← mLack_s]; exact hR
                      exact ih_loop (q + 1) _ H lo ls (by omega) (by omega) hR hS (lv_sub hl [3, 4, 5, 6, 0] rfl)
                    · refine lv_iconst (v := 0) hx hb dX5_lacks_152 (by decide) ?_
                      refine lv_goto (tgt := 160) hx hb dX5_lacks_153 (by decide) ?_
                      refine m_iast (n := 24) (j := d) 16 (by decide) rfl rfl hC hR hS (by omega) dX5_lacks_160 (fun H lo hR hS => ?_)
                      refine lv_iinc (v := nI (q + 1)) (lv' := [(4, .int (nI (q + 1))), (6, .int r31_), (5, .int r31_), (0, .ref (β 19)), (1, .int (nI d)), (2, .int i), (3, .int j)]) hx hb dX5_lacks_161 hl (k := 6) rfl (g_inc _) (by decide) rfl (fun ls hl => ?_)
                      refine lv_goto (tgt := 18) hx hb dX5_lacks_164 (by decide) ?_
                      have hL : (fLk (mv μ) (μ 22 0) i j (μ 10 d) (μ 14 d) (q + 1)) = (r31_, nI q, 0) := by show cif _ _ _ = _; rw [cif_pos (by refine ⟨by assumption, ?_, ?_⟩ <;> grind)]; grind
                      have hR : RM E β (mLack μ d (fLk (mv μ) (μ 22 0) i j (μ 10 d) (μ 14 d) (q + 1))) K (nI (dpt (mv μ) (μ 22 0) (μ 14 d) q)) th H := by rw [hL, ← mLack_s]; exact hR
                      exact ih_loop (q + 1) _ H lo ls (by omega) (by omega) hR hS (lv_sub hl [3, 4, 5, 6, 0] rfl)
                · refine lv_bipush (v := 104) hx hb dX5_lacks_98 (by decide) ?_
                  refine lv_goto (tgt := 105) hx hb dX5_lacks_100 (by decide) ?_
                  refine lv_istore (lv' := [(6, .int 104), (5, .int r31_), (0, .ref (β 19)), (1, .int (nI d)), (2, .int i), (3, .int j), (4, .int (nI q))]) hx hb dX5_lacks_105 hl (by decide) rfl (fun ls hl => ?_)
                  refine lv_iload hx hb dX5_lacks_107 (lv_at hl 0 rfl) ?_
                  refine g_cRi (k2 := 0) (n2 := 0) (g_runS (rest := []) hC (c_X5_order hE 104) Y_X5_order k_1225 S_X5_order trivial rfl hl.1 dX5_lacks_109 ⟨Nat.le_of_ble_eq_true rfl, Nat.le_of_ble_eq_true rfl⟩ ⟨Nat.le_of_ble_eq_true rfl, Nat.le_of_ble_eq_true rfl⟩ rfl (Nat.le_of_ble_eq_true rfl)) rfl rfl g_no (fun r41_ h42_ => ?_)
                  refine lv_aload_n hx hb dX5_lacks_112 rfl (lv_at hl 2 rfl) ?_
                  refine g_get (v := .ref (β 18)) hC hR.obj (C := RX5) (T := TX5) (N := 26) rfl u5_in 18 (by decide) k_1014 rfl dX5_lacks_113 ?_
                  refine lv_iload_n hx hb dX5_lacks_116 rfl (lv_at hl 3 rfl) ?_
                  refine g_cald (n := 24) (f := (upd (μ 18) d (fLk (mv μ) (μ 22 0) i j (μ 10 d) (μ 14 d) q).1)) (j := d) hC (hR.arr 18 (by decide) rfl rfl) (by omega) (by decide) dX5_lacks_117 ?_
                  rw [upd_s]
                  refine g_cRi (k2 := 0) (n2 := 0) (g_runS (rest := [.int r41_]) hC (c_X5_order hE ((fLk (mv μ) (μ 22 0) i j (μ 10 d) (μ 14 d) q).1)) Y_X5_order k_1225 S_X5_order trivial rfl hl.1 dX5_lacks_118 ⟨Nat.le_of_ble_eq_true rfl, Nat.le_of_ble_eq_true rfl⟩ ⟨Nat.le_of_ble_eq_true rfl, Nat.le_of_ble_eq_true rfl⟩ rfl (Nat.le_of_ble_eq_true rfl)) rfl rfl g_no (fun r43_ h44_ => ?_)
                  refine lv_icmp_le (tgt := 161) hx hb dX5_lacks_121 (by decide) (fun c45_ => ?_) (fun c45_ => ?_)
                  · refine lv_iinc (v := nI (q + 1)) (lv' := [(4, .int (nI (q + 1))), (6, .int 104), (5, .int r31_), (0, .ref (β 19)), (1, .int (nI d)), (2, .int i), (3, .int j)]) hx hb dX5_lacks_161 hl (k := 6) rfl (g_inc _) (by decide) rfl (fun ls hl => ?_)
                    refine lv_goto (tgt := 18) hx hb dX5_lacks_164 (by decide) ?_
                    have hL : (fLk (mv μ) (μ 22 0) i j (μ 10 d) (μ 14 d) (q + 1)) = (fLk (mv μ) (μ 22 0) i j (μ 10 d) (μ 14 d) q) := cif_neg (by rintro ⟨z1, z2, z3⟩; first | exact absurd z1 (by assumption) | grind)
                    have hR : RM E β (mLack μ d (fLk (mv μ) (μ 22 0) i j (μ 10 d) (μ 14 d) (q + 1))) K (nI (dpt (mv μ) (μ 22 0) (μ 14 d) q)) th H := by rw [hL]; exact hR
                    exact ih_loop (q + 1) _ H lo ls (by omega) (by omega) hR hS (lv_sub hl [3, 4, 5, 6, 0] rfl)
                  · refine lv_aload_n hx hb dX5_lacks_124 rfl (lv_at hl 2 rfl) ?_
                    refine g_get (v := .ref (β 18)) hC hR.obj (C := RX5) (T := TX5) (N := 26) rfl u5_in 18 (by decide) k_1014 rfl dX5_lacks_125 ?_
                    refine lv_iload_n hx hb dX5_lacks_128 rfl (lv_at hl 3 rfl) ?_
                    refine lv_iload hx hb dX5_lacks_129 (lv_at hl 0 rfl) ?_
                    refine m_cast (n := 24) (j := d) 18 (by decide) rfl rfl hC hR hS (by omega) rfl dX5_lacks_131 (fun H lo hR hS => ?_)
                    refine lv_aload_n hx hb dX5_lacks_132 rfl (lv_at hl 2 rfl) ?_
                    refine g_get (v := .ref (β 15)) hC hR.obj (C := RX5) (T := TX5) (N := 26) rfl u5_in 15 (by decide) k_1011 rfl dX5_lacks_133 ?_
                    refine lv_iload_n hx hb dX5_lacks_136 rfl (lv_at hl 3 rfl) ?_
                    refine lv_iload hx hb dX5_lacks_137 (lv_at hl 6 rfl) ?_
                    refine m_iast (n := 24) (j := d) 15 (by decide) rfl rfl hC hR hS (by omega) dX5_lacks_139 (fun H lo hR hS => ?_)
                    refine lv_aload_n hx hb dX5_lacks_140 rfl (lv_at hl 2 rfl) ?_
                    refine g_get (v := .ref (β 16)) hC hR.obj (C := RX5) (T := TX5) (N := 26) rfl u5_in 16 (by decide) k_1012 rfl dX5_lacks_141 ?_
                    refine lv_iload_n hx hb dX5_lacks_144 rfl (lv_at hl 3 rfl) ?_
                    refine lv_iload hx hb dX5_lacks_145 (lv_at hl 1 rfl) ?_
                    refine lv_bipush (v := 45) hx hb dX5_lacks_147 (by decide) ?_
                    refine lv_icmp_ne (tgt := 156) hx hb dX5_lacks_149 (by decide) (fun c46_ => ?_) (fun c46_ => ?_)
                    · refine lv_aload_n hx hb dX5_lacks_156 rfl (lv_at hl 2 rfl) ?_
                      refine g_get (v := .int (nI (dpt (mv μ) (μ 22 0) (μ 14 d) q))) hC hR.obj (C := RX5) (T := TX5) (N := 26) rfl u5_in 24 (by decide) k_1020 rfl dX5_lacks_157 ?_
                      refine m_iast (n := 24) (j := d) 16 (by decide) rfl rfl hC hR hS (by omega) dX5_lacks_160 (fun H lo hR hS => ?_)
                      refine lv_iinc (v := nI (q + 1)) (lv' := [(4, .int (nI (q + 1))), (6, .int 104), (5, .int r31_), (0, .ref (β 19)), (1, .int (nI d)), (2, .int i), (3, .int j)]) hx hb dX5_lacks_161 hl (k := 6) rfl (g_inc _) (by decide) rfl (fun ls hl => ?_)
                      refine lv_goto (tgt := 18) hx hb dX5_lacks_164 (by decide) ?_
                      have hL : (fLk (mv μ) (μ 22 0) i j (μ 10 d) (μ 14 d) (q + 1)) = (104, nI q, nI (dpt (mv μ) (μ 22 0) (μ 14 d) q)) := by show cif _ _ _ = _; rw [cif_pos (by refine ⟨by assumption, ?_, ?_⟩ <;> grind)]; grind
                      have hR : RM E β (mLack μ d (fLk (mv μ) (μ 22 0) i j (μ 10 d) (μ 14 d) (q + 1))) K (nI (dpt (mv μ) (μ 22 0) (μ 14 d) q)) th H := by rw [hL, ← mLack_s]; exact hR
                      exact ih_loop (q + 1) _ H lo ls (by omega) (by omega) hR hS (lv_sub hl [3, 4, 5, 6, 0] rfl)
                    · refine lv_iconst (v := 0) hx hb dX5_lacks_152 (by decide) ?_
                      refine lv_goto (tgt := 160) hx hb dX5_lacks_153 (by decide) ?_
                      refine m_iast (n := 24) (j := d) 16 (by decide) rfl rfl hC hR hS (by omega) dX5_lacks_160 (fun H lo hR hS => ?_)
                      refine lv_iinc (v := nI (q + 1)) (lv' := [(4, .int (nI (q + 1))), (6, .int 104), (5, .int r31_), (0, .ref (β 19)), (1, .int (nI d)), (2, .int i), (3, .int j)]) hx hb dX5_lacks_161 hl (k := 6) rfl (g_inc _) (by decide) rfl (fun ls hl => ?_)
                      refine lv_goto (tgt := 18) hx hb dX5_lacks_164 (by decide) ?_
                      have hL : (fLk (mv μ) (μ 22 0) i j (μ 10 d) (μ 14 d) (q + 1)) = (104, nI q, 0) := by show cif _ _ _ = _; rw [cif_pos (by refine ⟨by assumption, ?_, ?_⟩ <;> grind)]; grind
                      have hR : RM E β (mLack μ d (fLk (mv μ) (μ 22 0) i j (μ 10 d) (μ 14 d) (q + 1))) K (nI (dpt (mv μ) (μ 22 0) (μ 14 d) q)) th H := by rw [hL, ← mLack_s]; exact hR
                      exact ih_loop (q + 1) _ H lo ls (by omega) (by omega) hR hS (lv_sub hl [3, 4, 5, 6, 0] rfl)
  exact loop ((K 1 - (0)) + 1) 0 _ H lo ls (by omega) (by omega) hR hS (lv_sub hl [1, 2, 3, 4, 0] rfl)
set_option maxHeartbeats 4000000 in
set_option maxRecDepth 100000 in
theorem c_X5_isGood {l : Launch} {E : gV} (hE : gOK l E) {β : Nat → Nat} {μ : F2} {K : Nat → Nat} {dp th : Int32} (d : Nat) (hd : d < 24) : gM l E yX5_isGood cX5_isGood 2 (some .boolean) ({ frames := 0, cells := 0, slots := 0, locals := 0 } : Room) [.ref (β 19), .int (nI d)] (fun H => RM E β μ K dp th H) (gQR (gPi (bz (μ 17 d = 115 ∨ μ 17 d = 114)))) (fun _ => False) gN := by
  refine gM_body hE (by decide +kernel) (Nat.le_of_ble_eq_true rfl) ?_
  intro p_ e_ s m args below meth c hC ht hr hname hP ls hl
  have hx := hC.2.2.1
  have hb := hC.2.2.2.1
  have hl : lv_has ls 2 [(0, .ref (β 19)), (1, .int (nI d))] := hl
  have hR : RM E β μ K dp th s.heap := hP
  refine lv_aload_n hx hb dX5_isGood_0 rfl (lv_at hl 0 rfl) ?_
  refine g_get (v := .ref (β 17)) hC hR.obj (C := RX5) (T := TX5) (N := 26) rfl u5_in 17 (by decide) k_1013 rfl dX5_isGood_1 ?_
  refine lv_iload_n hx hb dX5_isGood_4 rfl (lv_at hl 1 rfl) ?_
  refine g_cald (n := 24) (f := μ 17) (j := d) hC (hR.arr 17 (by decide) rfl rfl) (by omega) (by decide) dX5_isGood_5 ?_
  refine lv_bipush (v := 115) hx hb dX5_isGood_6 (by decide) ?_
  refine lv_icmp_eq (tgt := 22) hx hb dX5_isGood_8 (by decide) (fun c1_ => ?_) (fun c1_ => ?_)
  · refine lv_iconst (v := 1) hx hb dX5_isGood_22 (by decide) ?_
    refine lv_goto (tgt := 27) hx hb dX5_isGood_23 (by decide) ?_
    exact g_zret hC hr rfl dX5_isGood_27 (Nat.le_of_ble_eq_true rfl) (Nat.le_of_ble_eq_true rfl) (bz_1 (by grind))
  · refine lv_aload_n hx hb dX5_isGood_11 rfl (lv_at hl 0 rfl) ?_
    refine g_get (v := .ref (β 17)) hC hR.obj (C := RX5) (T := TX5) (N := 26) rfl u5_in 17 (by decide) k_1013 rfl dX5_isGood_12 ?_
    refine lv_iload_n hx hb dX5_isGood_15 rfl (lv_at hl 1 rfl) ?_
    refine g_cald (n := 24) (f := μ 17) (j := d) hC (hR.arr 17 (by decide) rfl rfl) (by omega) (by decide) dX5_isGood_16 ?_
    refine lv_bipush (v := 114) hx hb dX5_isGood_17 (by decide) ?_
    refine lv_icmp_ne (tgt := 26) hx hb dX5_isGood_19 (by decide) (fun c2_ => ?_) (fun c2_ => ?_)
    · refine lv_iconst (v := 0) hx hb dX5_isGood_26 (by decide) ?_
      exact g_zret hC hr rfl dX5_isGood_27 (Nat.le_of_ble_eq_true rfl) (Nat.le_of_ble_eq_true rfl) (bz_0 (by grind))
    · refine lv_iconst (v := 1) hx hb dX5_isGood_22 (by decide) ?_
      refine lv_goto (tgt := 27) hx hb dX5_isGood_23 (by decide) ?_
      exact g_zret hC hr rfl dX5_isGood_27 (Nat.le_of_ble_eq_true rfl) (Nat.le_of_ble_eq_true rfl) (bz_1 (by grind))
set_option maxHeartbeats 4000000 in
set_option maxRecDepth 100000 in
theorem c_X5_thrown {l : Launch} {E : gV} (hE : gOK l E) {β : Nat → Nat} {μ : F2} {K : Nat → Nat} {dp th : Int32} : gM l E yX5_thrown cX5_thrown 1 (some .int) ({ frames := 0, cells := 0, slots := 0, locals := 0 } : Room) [.ref (β 19)] (fun H => RM E β μ K dp th H) (gQR (gPi (fun r => r = th))) (fun _ => False) gN := by
  refine gM_body hE (by decide +kernel) (Nat.le_of_ble_eq_true rfl) ?_
  intro p_ e_ s m args below meth c hC ht hr hname hP ls hl
  have hx := hC.2.2.1
  have hb := hC.2.2.2.1
  have hl : lv_has ls 1 [(0, .ref (β 19))] := hl
  have hR : RM E β μ K dp th s.heap := hP
  refine lv_aload_n hx hb dX5_thrown_0 rfl (lv_at hl 0 rfl) ?_
  refine g_get (v := .int th) hC hR.obj (C := RX5) (T := TX5) (N := 26) rfl u5_in 25 (by decide) k_1021 rfl dX5_thrown_1 ?_
  exact g_iret hC hr dX5_thrown_4 (Nat.le_of_ble_eq_true rfl) (Nat.le_of_ble_eq_true rfl) rfl
set_option maxHeartbeats 4000000 in
set_option maxRecDepth 100000 in
theorem c_X5_status {l : Launch} {E : gV} (hE : gOK l E) {β : Nat → Nat} {μ : F2} {K : Nat → Nat} {dp th : Int32} (hI : MI μ K) (d0 : Int32) (hch : ∀ i, i < K 2 → narrow .char (.int (μ 17 i)) = .int (μ 17 i)) : gM l E yX5_status cX5_status 2 (some .char) ({ frames := 2, cells := 0, slots := 0, locals := 43 } : Room) [.ref (β 19), .int d0] (fun H => RM E β μ K dp th H) (gQW (mA β) (gWi (fun r H => mPost E β μ K (kPow (K 2) d0) (μ) (K) (r = μ 17 (ix d0)) H))) (fun _ => False) (mA β) := by
  refine gM_body hE (by decide +kernel) (Nat.le_of_ble_eq_true rfl) ?_
  intro p_ e_ s m args below meth c hC ht hr hname hP ls hl
  have hx := hC.2.2.1
  have hb := hC.2.2.2.1
  have hl : lv_has ls 2 [(0, .ref (β 19)), (1, .int d0)] := hl
  have hS : va_S ((mA β)) s.heap s.heap [] := va_S.rf
  have hR : RM E β μ K dp th s.heap := hP
  obtain ⟨hK0, hK1, hK2, hSr, hHo, hTd⟩ := hI
  refine lv_aload_n hx hb dX5_status_0 rfl (lv_at hl 0 rfl) ?_
  refine lv_iload_n hx hb dX5_status_1 rfl (lv_at hl 1 rfl) ?_
  refine g_cWi (k2 := 0) (n2 := 0) (g_runV (rest := []) hC (c_X5_isNoDeed hE (β := β) (μ := μ) (K := K) (dp := dp) (th := th) (by omega) d0) Y_X5_isNoDeed k_1240 I_X5_isNoDeed V_X5_isNoDeed hR.obj rfl hR rfl hl.1 dX5_status_2 ⟨Nat.le_of_ble_eq_true rfl, Nat.le_of_ble_eq_true rfl⟩ ⟨Nat.le_of_ble_eq_true rfl, Nat.le_of_ble_eq_true rfl⟩ rfl (Nat.le_of_ble_eq_true rfl)) hS (fun _ h => h) rfl rfl (fun r1_ H lo h2_ _ _ hS => ?_)
  obtain ⟨f3_, hR⟩ := h2_
  refine lv_if_eq (tgt := 13) hx hb dX5_status_5 (by decide) (fun c4_ => ?_) (fun c4_ => ?_)
  · have q5_ := bz.f f3_ c4_
    rw [thr_0 c4_] at hR
    refine lv_aload_n hx hb dX5_status_13 rfl (lv_at hl 0 rfl) ?_
    refine g_get (v := .ref (β 17)) hC hR.obj (C := RX5) (T := TX5) (N := 26) rfl u5_in 17 (by decide) k_1013 rfl dX5_status_14 ?_
    refine lv_iload_n hx hb dX5_status_17 rfl (lv_at hl 1 rfl) ?_
    obtain ⟨j_d0, hj_d0, rfl⟩ := isP_of (n := K 2) (p := d0) (by first | exact Classical.not_not.mp (by assumption) | assumption) (by omega)
    have ej_d0 : (nI j_d0).toNatClampNeg = j_d0 := nI_clamp (by omega)
    have ipj_d0 : isP (K 2) (nI j_d0) := isP_nI hj_d0 (by omega)
    refine g_cald (n := 24) (f := μ 17) (j := j_d0) hC (hR.arr 17 (by decide) rfl rfl) (by omega) (by decide) dX5_status_18 ?_
    exact g_zretW hC hr (hch _ (by omega)) dX5_status_19 hS (Nat.le_of_ble_eq_true rfl) (Nat.le_of_ble_eq_true rfl) (mPost_0 (by unfold kPow; rw [cif_neg (by first | grind | (simp only [ix, ej_d0, mv, mw]; grind))]) hR rfl rfl (by simp only [ix, ej_d0]))
  · have q5_ := bz.t f3_ c4_
    rw [thr_1 c4_] at hR
    refine lv_bipush (v := 45) hx hb dX5_status_8 (by decide) ?_
    refine lv_goto (tgt := 19) hx hb dX5_status_10 (by decide) ?_
    exact g_zretW hC hr rfl dX5_status_19 hS (Nat.le_of_ble_eq_true rfl) (Nat.le_of_ble_eq_true rfl) (mPost_k 1 (by unfold kPow; rw [cif_pos (by grind)]) (by decide) rfl hR)
set_option maxHeartbeats 4000000 in
set_option maxRecDepth 100000 in
theorem c_X5_sum {l : Launch} {E : gV} (hE : gOK l E) {β : Nat → Nat} {μ : F2} {K : Nat → Nat} {dp th : Int32} (hI : MI μ K) (d0 : Int32) : gM l E yX5_sum cX5_sum 2 (some .int) ({ frames := 2, cells := 0, slots := 0, locals := 43 } : Room) [.ref (β 19), .int d0] (fun H => RM E β μ K dp th H) (gQW (mA β) (gWi (fun r H => mPost E β μ K (kPow (K 2) d0) (μ) (K) (r = μ 14 (ix d0)) H))) (fun _ => False) (mA β) := by
  refine gM_body hE (by decide +kernel) (Nat.le_of_ble_eq_true rfl) ?_
  intro p_ e_ s m args below meth c hC ht hr hname hP ls hl
  have hx := hC.2.2.1
  have hb := hC.2.2.2.1
  have hl : lv_has ls 2 [(0, .ref (β 19)), (1, .int d0)] := hl
  have hS : va_S ((mA β)) s.heap s.heap [] := va_S.rf
  have hR : RM E β μ K dp th s.heap := hP
  obtain ⟨hK0, hK1, hK2, hSr, hHo, hTd⟩ := hI
  refine lv_aload_n hx hb dX5_sum_0 rfl (lv_at hl 0 rfl) ?_
  refine lv_iload_n hx hb dX5_sum_1 rfl (lv_at hl 1 rfl) ?_
  refine g_cWi (k2 := 0) (n2 := 0) (g_runV (rest := []) hC (c_X5_isNoDeed hE (β := β) (μ := μ) (K := K) (dp := dp) (th := th) (by omega) d0) Y_X5_isNoDeed k_1240 I_X5_isNoDeed V_X5_isNoDeed hR.obj rfl hR rfl hl.1 dX5_sum_2 ⟨Nat.le_of_ble_eq_true rfl, Nat.le_of_ble_eq_true rfl⟩ ⟨Nat.le_of_ble_eq_true rfl, Nat.le_of_ble_eq_true rfl⟩ rfl (Nat.le_of_ble_eq_true rfl)) hS (fun _ h => h) rfl rfl (fun r1_ H lo h2_ _ _ hS => ?_)
  obtain ⟨f3_, hR⟩ := h2_
  refine lv_if_eq (tgt := 12) hx hb dX5_sum_5 (by decide) (fun c4_ => ?_) (fun c4_ => ?_)
  · have q5_ := bz.f f3_ c4_
    rw [thr_0 c4_] at hR
    refine lv_aload_n hx hb dX5_sum_12 rfl (lv_at hl 0 rfl) ?_
    refine g_get (v := .ref (β 14)) hC hR.obj (C := RX5) (T := TX5) (N := 26) rfl u5_in 14 (by decide) k_1010 rfl dX5_sum_13 ?_
    refine lv_iload_n hx hb dX5_sum_16 rfl (lv_at hl 1 rfl) ?_
    obtain ⟨j_d0, hj_d0, rfl⟩ := isP_of (n := K 2) (p := d0) (by first | exact Classical.not_not.mp (by assumption) | assumption) (by omega)
    have ej_d0 : (nI j_d0).toNatClampNeg = j_d0 := nI_clamp (by omega)
    have ipj_d0 : isP (K 2) (nI j_d0) := isP_nI hj_d0 (by omega)
    refine g_iald (n := 24) (f := μ 14) (j := j_d0) hC (hR.arr 14 (by decide) rfl rfl) (by omega) (by decide) dX5_sum_17 ?_
    exact g_iretW hC hr dX5_sum_18 hS (Nat.le_of_ble_eq_true rfl) (Nat.le_of_ble_eq_true rfl) (mPost_0 (by unfold kPow; rw [cif_neg (by first | grind | (simp only [ix, ej_d0, mv, mw]; grind))]) hR rfl rfl (by simp only [ix, ej_d0]))
  · have q5_ := bz.t f3_ c4_
    rw [thr_1 c4_] at hR
    refine lv_iconst (v := 0) hx hb dX5_sum_8 (by decide) ?_
    refine lv_goto (tgt := 18) hx hb dX5_sum_9 (by decide) ?_
    exact g_iretW hC hr dX5_sum_18 hS (Nat.le_of_ble_eq_true rfl) (Nat.le_of_ble_eq_true rfl) (mPost_k 1 (by unfold kPow; rw [cif_pos (by grind)]) (by decide) rfl hR)
set_option maxHeartbeats 4000000 in
set_option maxRecDepth 100000 in
theorem c_X5_sumByPapers {l : Launch} {E : gV} (hE : gOK l E) {β : Nat → Nat} {μ : F2} {K : Nat → Nat} {dp th : Int32} (hI : MI μ K) (d0 : Int32) : gM l E yX5_sumByPapers cX5_sumByPapers 2 (some .int) ({ frames := 3, cells := 0, slots := 0, locals := 64 } : Room) [.ref (β 19), .int d0] (fun H => RM E β μ K dp th H) (gQW (mA β) (gWi (fun r H => mPost E β μ K (kPow (K 2) d0) (μ) (K) (r = μ 14 (ix d0)) H))) (fun _ => False) (mA β) := by
  refine gM_body hE (by decide +kernel) (Nat.le_of_ble_eq_true rfl) ?_
  intro p_ e_ s m args below meth c hC ht hr hname hP ls hl
  have hx := hC.2.2.1
  have hb := hC.2.2.2.1
  have hl : lv_has ls 2 [(0, .ref (β 19)), (1, .int d0)] := hl
  have hS : va_S ((mA β)) s.heap s.heap [] := va_S.rf
  have hR : RM E β μ K dp th s.heap := hP
  obtain ⟨hK0, hK1, hK2, hSr, hHo, hTd⟩ := hI
  refine lv_aload_n hx hb dX5_sumByPapers_0 rfl (lv_at hl 0 rfl) ?_
  refine lv_iload_n hx hb dX5_sumByPapers_1 rfl (lv_at hl 1 rfl) ?_
  refine g_cWi (k2 := 0) (n2 := 0) (g_runV (rest := []) hC (c_X5_sum hE (β := β) (μ := μ) (K := K) (dp := dp) (th := th) ⟨hK0, hK1, hK2, hSr, hHo, hTd⟩ d0) Y_X5_sum k_1256 I_X5_sum V_X5_sum hR.obj rfl hR rfl hl.1 dX5_sumByPapers_2 ⟨Nat.le_of_ble_eq_true rfl, Nat.le_of_ble_eq_true rfl⟩ ⟨Nat.le_of_ble_eq_true rfl, Nat.le_of_ble_eq_true rfl⟩ rfl (Nat.le_of_ble_eq_true rfl)) hS (fun _ h => h) rfl rfl (fun r1_ H lo h2_ _ _ hS => ?_)
  exact g_iretW hC hr dX5_sumByPapers_5 hS (Nat.le_of_ble_eq_true rfl) (Nat.le_of_ble_eq_true rfl) (by assumption)
set_option maxHeartbeats 4000000 in
set_option maxRecDepth 100000 in
theorem c_X5_stands {l : Launch} {E : gV} (hE : gOK l E) {β : Nat → Nat} {μ : F2} {K : Nat → Nat} {dp th : Int32} (hI : MI μ K) (d0 : Int32) : gM l E yX5_stands cX5_stands 2 (some .boolean) ({ frames := 2, cells := 0, slots := 0, locals := 43 } : Room) [.ref (β 19), .int d0] (fun H => RM E β μ K dp th H) (gQW (mA β) (gWi (fun r H => (mPost E β μ K (kPow (K 2) d0) (μ) (K) (bz (μ 17 (ix d0) = 115 ∨ μ 17 (ix d0) = 114) r) H) ∧ narrow .boolean (.int r) = .int r))) (fun _ => False) (mA β) := by
  refine gM_body hE (by decide +kernel) (Nat.le_of_ble_eq_true rfl) ?_
  intro p_ e_ s m args below meth c hC ht hr hname hP ls hl
  have hx := hC.2.2.1
  have hb := hC.2.2.2.1
  have hl : lv_has ls 2 [(0, .ref (β 19)), (1, .int d0)] := hl
  have hS : va_S ((mA β)) s.heap s.heap [] := va_S.rf
  have hR : RM E β μ K dp th s.heap := hP
  obtain ⟨hK0, hK1, hK2, hSr, hHo, hTd⟩ := hI
  refine lv_aload_n hx hb dX5_stands_0 rfl (lv_at hl 0 rfl) ?_
  refine lv_iload_n hx hb dX5_stands_1 rfl (lv_at hl 1 rfl) ?_
  refine g_cWi (k2 := 0) (n2 := 0) (g_runV (rest := []) hC (c_X5_isNoDeed hE (β := β) (μ := μ) (K := K) (dp := dp) (th := th) (by omega) d0) Y_X5_isNoDeed k_1240 I_X5_isNoDeed V_X5_isNoDeed hR.obj rfl hR rfl hl.1 dX5_stands_2 ⟨Nat.le_of_ble_eq_true rfl, Nat.le_of_ble_eq_true rfl⟩ ⟨Nat.le_of_ble_eq_true rfl, Nat.le_of_ble_eq_true rfl⟩ rfl (Nat.le_of_ble_eq_true rfl)) hS (fun _ h => h) rfl rfl (fun r1_ H lo h2_ _ _ hS => ?_)
  obtain ⟨f3_, hR⟩ := h2_
  refine lv_if_ne (tgt := 20) hx hb dX5_stands_5 (by decide) (fun c4_ => ?_) (fun c4_ => ?_)
  · have q5_ := bz.t f3_ c4_
    rw [thr_1 c4_] at hR
    refine lv_iconst (v := 0) hx hb dX5_stands_20 (by decide) ?_
    exact g_zretW hC hr rfl dX5_stands_21 hS (Nat.le_of_ble_eq_true rfl) (Nat.le_of_ble_eq_true rfl) ⟨(mPost_k 1 (by unfold kPow; rw [cif_pos (by grind)]) (by decide) rfl hR), rfl⟩
  · have q5_ := bz.f f3_ c4_
    rw [thr_0 c4_] at hR
    refine lv_aload_n hx hb dX5_stands_8 rfl (lv_at hl 0 rfl) ?_
    refine lv_iload_n hx hb dX5_stands_9 rfl (lv_at hl 1 rfl) ?_
    obtain ⟨j_d0, hj_d0, rfl⟩ := isP_of (n := K 2) (p := d0) (by first | exact Classical.not_not.mp (by assumption) | assumption) (by omega)
    have ej_d0 : (nI j_d0).toNatClampNeg = j_d0 := nI_clamp (by omega)
    have ipj_d0 : isP (K 2) (nI j_d0) := isP_nI hj_d0 (by omega)
    refine g_cRi (k2 := 0) (n2 := 0) (g_runV (rest := []) hC (c_X5_isGood hE (β := β) (μ := μ) (K := K) (dp := dp) (th := 0) j_d0 (by omega)) Y_X5_isGood k_1261 I_X5_isGood V_X5_isGood hR.obj rfl hR rfl hl.1 dX5_stands_10 ⟨Nat.le_of_ble_eq_true rfl, Nat.le_of_ble_eq_true rfl⟩ ⟨Nat.le_of_ble_eq_true rfl, Nat.le_of_ble_eq_true rfl⟩ rfl (Nat.le_of_ble_eq_true rfl)) rfl rfl g_no (fun r6_ h7_ => ?_)
    refine lv_if_eq (tgt := 20) hx hb dX5_stands_13 (by decide) (fun c8_ => ?_) (fun c8_ => ?_)
    · have q9_ := bz.f h7_ c8_
      refine lv_iconst (v := 0) hx hb dX5_stands_20 (by decide) ?_
      exact g_zretW hC hr rfl dX5_stands_21 hS (Nat.le_of_ble_eq_true rfl) (Nat.le_of_ble_eq_true rfl) ⟨(mPost_0 (by unfold kPow; rw [cif_neg (by first | grind | (simp only [ix, ej_d0, mv, mw]; grind))]) hR rfl rfl (bz_0 (by simp only [ix, ej_d0]; assumption))), rfl⟩
    · have q9_ := bz.t h7_ c8_
      refine lv_iconst (v := 1) hx hb dX5_stands_16 (by decide) ?_
      refine lv_goto (tgt := 21) hx hb dX5_stands_17 (by decide) ?_
      exact g_zretW hC hr rfl dX5_stands_21 hS (Nat.le_of_ble_eq_true rfl) (Nat.le_of_ble_eq_true rfl) ⟨(mPost_0 (by unfold kPow; rw [cif_neg (by first | grind | (simp only [ix, ej_d0, mv, mw]; grind))]) hR rfl rfl (bz_1 (by simp only [ix, ej_d0]; assumption))), rfl⟩
