set_option maxHeartbeats 4000000 in
set_option maxRecDepth 100000 in
theorem c_X5_reach {l : Launch} {E : gV} (hE : gOK l E) {β : Nat → Nat} {μ : F2} {K : Nat → Nat} {dp th : Int32} (hI : MI μ K) (p0 : Int32) : gM l E yX5_reach cX5_reach 4 (some .int) ({ frames := 2, cells := 0, slots := 0, locals := 43 } : Room) [.ref (β 19), .int p0] (fun H => RM E β μ K dp th H) (gQW (mA β) (gWi (fun r H => mPost E β μ K (kPow (K 1) p0) (μ) (K) (r = mRe (mv μ) (μ 22 0) (ix p0) (ix p0) 99999) H))) (fun _ => False) (mA β) := by
  refine gM_body hE (by decide +kernel) (Nat.le_of_ble_eq_true rfl) ?_
  intro p_ e_ s m args below meth c hC ht hr hname hP ls hl
  have hx := hC.2.2.1
  have hb := hC.2.2.2.1
  have hl : lv_has ls 4 [(0, .ref (β 19)), (1, .int p0)] := hl
  have hS : va_S ((mA β)) s.heap s.heap [] := va_S.rf
  have hR : RM E β μ K dp th s.heap := hP
  obtain ⟨hK0, hK1, hK2, hSr, hHo, hTd⟩ := hI
  refine lv_aload_n hx hb dX5_reach_0 rfl (lv_at hl 0 rfl) ?_
  refine lv_iload_n hx hb dX5_reach_1 rfl (lv_at hl 1 rfl) ?_
  refine g_cWi (k2 := 0) (n2 := 0) (g_runV (rest := []) hC (c_X5_isNoPower hE (β := β) (μ := μ) (K := K) (dp := dp) (th := th) (by omega) p0) Y_X5_isNoPower k_1131 I_X5_isNoPower V_X5_isNoPower hR.obj rfl hR rfl hl.1 dX5_reach_2 ⟨Nat.le_of_ble_eq_true rfl, Nat.le_of_ble_eq_true rfl⟩ ⟨Nat.le_of_ble_eq_true rfl, Nat.le_of_ble_eq_true rfl⟩ rfl (Nat.le_of_ble_eq_true rfl)) hS (fun _ h => h) rfl rfl (fun r1_ H lo h2_ _ _ hS => ?_)
  obtain ⟨f3_, hR⟩ := h2_
  refine lv_if_eq (tgt := 10) hx hb dX5_reach_5 (by decide) (fun c4_ => ?_) (fun c4_ => ?_)
  · have q5_ := bz.f f3_ c4_
    rw [thr_0 c4_] at hR
    refine lv_ldc (own := "SignatoryModel") (v := 99999) hx hb hC.2.2.2.2.2.1 (gw hC.1 hC.2.1 k_1118 rfl) dX5_reach_10 ?_
    refine lv_istore_n (lv' := [(2, .int 99999), (0, .ref (β 19)), (1, .int p0)]) hx hb dX5_reach_12 rfl hl (by decide) rfl (fun ls hl => ?_)
    refine lv_iload_n hx hb dX5_reach_13 rfl (lv_at hl 2 rfl) ?_
    refine lv_istore_n (lv' := [(3, .int p0), (2, .int 99999), (0, .ref (β 19)), (1, .int p0)]) hx hb dX5_reach_14 rfl hl (by decide) rfl (fun ls hl => ?_)
    obtain ⟨j_p0, hj_p0, rfl⟩ := isP_of (n := K 1) (p := p0) (by first | exact Classical.not_not.mp (by assumption) | assumption) (by omega)
    have ej_p0 : (nI j_p0).toNatClampNeg = j_p0 := nI_clamp (by omega)
    have ipj_p0 : isP (K 1) (nI j_p0) := isP_nI hj_p0 (by omega)
    have loop : ∀ (n_ : Nat) (q : Nat) (a : Int32) (H : Heap) (lo : List Loc) (ls : Array Slot), q < n_ → (q < K 1) → (mRe (mv μ) (μ 22 0) q q a = mRe (mv μ) (μ 22 0) j_p0 j_p0 99999) → RM E β μ K dp 0 H → va_S ((mA β)) s.heap H lo → lv_has ls 4 [(0, .ref (β 19)), (1, .int (nI j_p0)), (2, .int a), (3, .int (nI q))] → W p_ l e_ ({ frames := 2, cells := 0, slots := 0, locals := 43 } : Room) s m args below meth c H lo 0 0 (vx_MQ below (gQW (mA β) (gWi (fun r H => mPost E β μ K (kPow (K 1) (nI j_p0)) (μ) (K) (r = mRe (mv μ) (μ 22 0) (ix (nI j_p0)) (ix (nI j_p0)) 99999) H))) (gX (fun _ => False)) args s 0 0 (mA β)) (F0 m 15 ls []) := by
      intro n_
      induction n_ with
      | zero => intro q a H lo ls h_; exact absurd h_ (Nat.not_lt_zero _)
      | succ n_ ih_loop =>
        intro q a H lo ls hn_ i1 i2 hR hS hl
        refine lv_iload_n hx hb dX5_reach_15 rfl (lv_at hl 3 rfl) ?_
        refine lv_if_lt (tgt := 75) hx hb dX5_reach_16 (by decide) (fun c6_ => ?_) (fun c6_ => ?_)
        · exact absurd c6_ (nI_pos (by omega))
        · refine lv_iload_n hx hb dX5_reach_19 rfl (lv_at hl 2 rfl) ?_
          refine lv_aload_n hx hb dX5_reach_20 rfl (lv_at hl 0 rfl) ?_
          refine g_get (v := .int (μ 22 0)) hC hR.obj (C := RX5) (T := TX5) (N := 26) rfl u5_in 22 (by decide) k_1018 rfl dX5_reach_21 ?_
          refine lv_aload_n hx hb dX5_reach_24 rfl (lv_at hl 0 rfl) ?_
          refine g_get (v := .ref (β 6)) hC hR.obj (C := RX5) (T := TX5) (N := 26) rfl u5_in 6 (by decide) k_1002 rfl dX5_reach_25 ?_
          refine lv_iload_n hx hb dX5_reach_28 rfl (lv_at hl 3 rfl) ?_
          refine g_iald (n := 20) (f := μ 6) (j := q) hC (hR.arr 6 (by decide) rfl rfl) (by omega) (by decide) dX5_reach_29 ?_
          refine lv_aload_n hx hb dX5_reach_30 rfl (lv_at hl 0 rfl) ?_
          refine g_get (v := .ref (β 7)) hC hR.obj (C := RX5) (T := TX5) (N := 26) rfl u5_in 7 (by decide) k_1003 rfl dX5_reach_31 ?_
          refine lv_iload_n hx hb dX5_reach_34 rfl (lv_at hl 3 rfl) ?_
          refine g_iald (n := 20) (f := μ 7) (j := q) hC (hR.arr 7 (by decide) rfl rfl) (by omega) (by decide) dX5_reach_35 ?_
          refine g_cRi (k2 := 0) (n2 := 0) (g_runS (rest := [.int a]) hC (c_X5_isIn hE (μ 22 0) (μ 6 q) (μ 7 q)) Y_X5_isIn k_1096 S_X5_isIn trivial rfl hl.1 dX5_reach_36 ⟨Nat.le_of_ble_eq_true rfl, Nat.le_of_ble_eq_true rfl⟩ ⟨Nat.le_of_ble_eq_true rfl, Nat.le_of_ble_eq_true rfl⟩ rfl (Nat.le_of_ble_eq_true rfl)) rfl rfl g_no (fun r7_ h8_ => ?_)
          refine lv_if_eq (tgt := 60) hx hb dX5_reach_39 (by decide) (fun c9_ => ?_) (fun c9_ => ?_)
          · have q10_ := bz.f h8_ c9_
            refine lv_iconst (v := 0) hx hb dX5_reach_60 (by decide) ?_
            refine va_mmin (own := "SignatoryModel") (index := 128) (rest := []) hx hb (hC.2.2.2.2.1.trans hl.1.symm) hC.2.2.2.2.2.1 (gw hC.1 hC.2.1 k_1171 rfl) (gw hC.1 hC.2.1 k_371 rfl) (gw hC.1 hC.2.1 k_15 rfl) (gw hC.1 hC.2.1 k_372 rfl) (Nat.le_of_ble_eq_true rfl) (Nat.le_of_ble_eq_true rfl) (Nat.le_of_ble_eq_true rfl) (Nat.le_of_ble_eq_true rfl) dX5_reach_61 ?_
            refine lv_istore_n (lv' := [(2, .int (if 0 < a then 0 else a)), (0, .ref (β 19)), (1, .int (nI j_p0)), (3, .int (nI q))]) hx hb dX5_reach_64 rfl hl (by decide) rfl (fun ls hl => ?_)
            refine lv_aload_n hx hb dX5_reach_65 rfl (lv_at hl 1 rfl) ?_
            refine g_get (v := .ref (β 8)) hC hR.obj (C := RX5) (T := TX5) (N := 26) rfl u5_in 8 (by decide) k_1004 rfl dX5_reach_66 ?_
            refine lv_iload_n hx hb dX5_reach_69 rfl (lv_at hl 3 rfl) ?_
            refine g_iald (n := 20) (f := μ 8) (j := q) hC (hR.arr 8 (by decide) rfl rfl) (by omega) (by decide) dX5_reach_70 ?_
            rcases hSr q (by omega) with hs0 | ⟨q2, hq2, hs0⟩
            · have hs8 : μ 8 q < 0 := hs0
              refine lv_istore_n (lv' := [(3, .int (μ 8 q)), (2, .int (if 0 < a then 0 else a)), (0, .ref (β 19)), (1, .int (nI j_p0))]) hx hb dX5_reach_71 rfl hl (by decide) rfl (fun ls hl => ?_)
              refine lv_goto (tgt := 15) hx hb dX5_reach_72 (by decide) ?_
              refine lv_iload_n hx hb dX5_reach_15 rfl (lv_at hl 0 rfl) ?_
              refine lv_if_lt (tgt := 75) hx hb dX5_reach_16 (by decide) (fun c11_ => ?_) (fun c11_ => ?_)
              · refine lv_iload_n hx hb dX5_reach_75 rfl (lv_at hl 1 rfl) ?_
                exact g_iretW hC hr dX5_reach_76 hS (Nat.le_of_ble_eq_true rfl) (Nat.le_of_ble_eq_true rfl) (mPost_0 (by unfold kPow; rw [cif_neg (by first | grind | (simp only [ix, ej_p0, mv, mw]; grind))]) hR rfl rfl (by simp only [ix, ej_p0]; rw [← i2, mRe_0 hs0, show mR1 (mv μ) (μ 22 0) q = 0 from (by unfold mR1; simp only [mv]; grind)]))
              · exact absurd (by assumption) c11_
            · rw [show μ 8 q = nI q2 from hs0]
              refine lv_istore_n (lv' := [(3, .int (nI q2)), (2, .int (if 0 < a then 0 else a)), (0, .ref (β 19)), (1, .int (nI j_p0))]) hx hb dX5_reach_71 rfl hl (by decide) rfl (fun ls hl => ?_)
              refine lv_goto (tgt := 15) hx hb dX5_reach_72 (by decide) ?_
              exact ih_loop q2 (if 0 < a then 0 else a) H lo ls (by omega) (by omega) (by rw [← i2, mRe_s hSr (by omega) i1 hq2 hs0, show mR1 (mv μ) (μ 22 0) q = 0 from (by unfold mR1; simp only [mv]; grind)]) hR hS (lv_sub hl [2, 3, 1, 0] rfl)
          · have q10_ := bz.t h8_ c9_
            refine lv_aload_n hx hb dX5_reach_42 rfl (lv_at hl 0 rfl) ?_
            refine g_get (v := .ref (β 1)) hC hR.obj (C := RX5) (T := TX5) (N := 26) rfl u5_in 1 (by decide) k_997 rfl dX5_reach_43 ?_
            refine lv_iload_n hx hb dX5_reach_46 rfl (lv_at hl 3 rfl) ?_
            refine g_zald (n := 20) (f := μ 1) (j := q) hC (hR.arr 1 (by decide) rfl rfl) (by omega) (by decide) dX5_reach_47 ?_
            refine lv_if_ne (tgt := 60) hx hb dX5_reach_48 (by decide) (fun c12_ => ?_) (fun c12_ => ?_)
            · refine lv_iconst (v := 0) hx hb dX5_reach_60 (by decide) ?_
              refine va_mmin (own := "SignatoryModel") (index := 128) (rest := []) hx hb (hC.2.2.2.2.1.trans hl.1.symm) hC.2.2.2.2.2.1 (gw hC.1 hC.2.1 k_1171 rfl) (gw hC.1 hC.2.1 k_371 rfl) (gw hC.1 hC.2.1 k_15 rfl) (gw hC.1 hC.2.1 k_372 rfl) (Nat.le_of_ble_eq_true rfl) (Nat.le_of_ble_eq_true rfl) (Nat.le_of_ble_eq_true rfl) (Nat.le_of_ble_eq_true rfl) dX5_reach_61 ?_
              refine lv_istore_n (lv' := [(2, .int (if 0 < a then 0 else a)), (0, .ref (β 19)), (1, .int (nI j_p0)), (3, .int (nI q))]) hx hb dX5_reach_64 rfl hl (by decide) rfl (fun ls hl => ?_)
              refine lv_aload_n hx hb dX5_reach_65 rfl (lv_at hl 1 rfl) ?_
              refine g_get (v := .ref (β 8)) hC hR.obj (C := RX5) (T := TX5) (N := 26) rfl u5_in 8 (by decide) k_1004 rfl dX5_reach_66 ?_
              refine lv_iload_n hx hb dX5_reach_69 rfl (lv_at hl 3 rfl) ?_
              refine g_iald (n := 20) (f := μ 8) (j := q) hC (hR.arr 8 (by decide) rfl rfl) (by omega) (by decide) dX5_reach_70 ?_
              rcases hSr q (by omega) with hs0 | ⟨q2, hq2, hs0⟩
              · have hs8 : μ 8 q < 0 := hs0
                refine lv_istore_n (lv' := [(3, .int (μ 8 q)), (2, .int (if 0 < a then 0 else a)), (0, .ref (β 19)), (1, .int (nI j_p0))]) hx hb dX5_reach_71 rfl hl (by decide) rfl (fun ls hl => ?_)
                refine lv_goto (tgt := 15) hx hb dX5_reach_72 (by decide) ?_
                refine lv_iload_n hx hb dX5_reach_15 rfl (lv_at hl 0 rfl) ?_
                refine lv_if_lt (tgt := 75) hx hb dX5_reach_16 (by decide) (fun c14_ => ?_) (fun c14_ => ?_)
                · refine lv_iload_n hx hb dX5_reach_75 rfl (lv_at hl 1 rfl) ?_
                  exact g_iretW hC hr dX5_reach_76 hS (Nat.le_of_ble_eq_true rfl) (Nat.le_of_ble_eq_true rfl) (mPost_0 (by unfold kPow; rw [cif_neg (by first | grind | (simp only [ix, ej_p0, mv, mw]; grind))]) hR rfl rfl (by simp only [ix, ej_p0]; rw [← i2, mRe_0 hs0, show mR1 (mv μ) (μ 22 0) q = 0 from (by unfold mR1; simp only [mv]; grind)]))
                · exact absurd (by assumption) c14_
              · rw [show μ 8 q = nI q2 from hs0]
                refine lv_istore_n (lv' := [(3, .int (nI q2)), (2, .int (if 0 < a then 0 else a)), (0, .ref (β 19)), (1, .int (nI j_p0))]) hx hb dX5_reach_71 rfl hl (by decide) rfl (fun ls hl => ?_)
                refine lv_goto (tgt := 15) hx hb dX5_reach_72 (by decide) ?_
                exact ih_loop q2 (if 0 < a then 0 else a) H lo ls (by omega) (by omega) (by rw [← i2, mRe_s hSr (by omega) i1 hq2 hs0, show mR1 (mv μ) (μ 22 0) q = 0 from (by unfold mR1; simp only [mv]; grind)]) hR hS (lv_sub hl [2, 3, 1, 0] rfl)
            · refine lv_aload_n hx hb dX5_reach_51 rfl (lv_at hl 0 rfl) ?_
              refine g_get (v := .ref (β 5)) hC hR.obj (C := RX5) (T := TX5) (N := 26) rfl u5_in 5 (by decide) k_1001 rfl dX5_reach_52 ?_
              refine lv_iload_n hx hb dX5_reach_55 rfl (lv_at hl 3 rfl) ?_
              refine g_iald (n := 20) (f := μ 5) (j := q) hC (hR.arr 5 (by decide) rfl rfl) (by omega) (by decide) dX5_reach_56 ?_
              refine lv_goto (tgt := 61) hx hb dX5_reach_57 (by decide) ?_
              refine va_mmin (own := "SignatoryModel") (index := 128) (rest := []) hx hb (hC.2.2.2.2.1.trans hl.1.symm) hC.2.2.2.2.2.1 (gw hC.1 hC.2.1 k_1171 rfl) (gw hC.1 hC.2.1 k_371 rfl) (gw hC.1 hC.2.1 k_15 rfl) (gw hC.1 hC.2.1 k_372 rfl) (Nat.le_of_ble_eq_true rfl) (Nat.le_of_ble_eq_true rfl) (Nat.le_of_ble_eq_true rfl) (Nat.le_of_ble_eq_true rfl) dX5_reach_61 ?_
              refine lv_istore_n (lv' := [(2, .int (if μ 5 q < a then μ 5 q else a)), (0, .ref (β 19)), (1, .int (nI j_p0)), (3, .int (nI q))]) hx hb dX5_reach_64 rfl hl (by decide) rfl (fun ls hl => ?_)
              refine lv_aload_n hx hb dX5_reach_65 rfl (lv_at hl 1 rfl) ?_
              refine g_get (v := .ref (β 8)) hC hR.obj (C := RX5) (T := TX5) (N := 26) rfl u5_in 8 (by decide) k_1004 rfl dX5_reach_66 ?_
              refine lv_iload_n hx hb dX5_reach_69 rfl (lv_at hl 3 rfl) ?_
              refine g_iald (n := 20) (f := μ 8) (j := q) hC (hR.arr 8 (by decide) rfl rfl) (by omega) (by decide) dX5_reach_70 ?_
              rcases hSr q (by omega) with hs0 | ⟨q2, hq2, hs0⟩
              · have hs8 : μ 8 q < 0 := hs0
                refine lv_istore_n (lv' := [(3, .int (μ 8 q)), (2, .int (if μ 5 q < a then μ 5 q else a)), (0, .ref (β 19)), (1, .int (nI j_p0))]) hx hb dX5_reach_71 rfl hl (by decide) rfl (fun ls hl => ?_)
                refine lv_goto (tgt := 15) hx hb dX5_reach_72 (by decide) ?_
                refine lv_iload_n hx hb dX5_reach_15 rfl (lv_at hl 0 rfl) ?_
                refine lv_if_lt (tgt := 75) hx hb dX5_reach_16 (by decide) (fun c15_ => ?_) (fun c15_ => ?_)
                · refine lv_iload_n hx hb dX5_reach_75 rfl (lv_at hl 1 rfl) ?_
                  exact g_iretW hC hr dX5_reach_76 hS (Nat.le_of_ble_eq_true rfl) (Nat.le_of_ble_eq_true rfl) (mPost_0 (by unfold kPow; rw [cif_neg (by first | grind | (simp only [ix, ej_p0, mv, mw]; grind))]) hR rfl rfl (by simp only [ix, ej_p0]; rw [← i2, mRe_0 hs0, show mR1 (mv μ) (μ 22 0) q = μ 5 q from (by unfold mR1; simp only [mv]; grind)]))
                · exact absurd (by assumption) c15_
              · rw [show μ 8 q = nI q2 from hs0]
                refine lv_istore_n (lv' := [(3, .int (nI q2)), (2, .int (if μ 5 q < a then μ 5 q else a)), (0, .ref (β 19)), (1, .int (nI j_p0))]) hx hb dX5_reach_71 rfl hl (by decide) rfl (fun ls hl => ?_)
                refine lv_goto (tgt := 15) hx hb dX5_reach_72 (by decide) ?_
                exact ih_loop q2 (if μ 5 q < a then μ 5 q else a) H lo ls (by omega) (by omega) (by rw [← i2, mRe_s hSr (by omega) i1 hq2 hs0, show mR1 (mv μ) (μ 22 0) q = μ 5 q from (by unfold mR1; simp only [mv]; grind)]) hR hS (lv_sub hl [2, 3, 1, 0] rfl)
    exact loop (((j_p0)) + 1) j_p0 99999 H lo ls (by omega) (by omega) rfl hR hS (lv_sub hl [2, 3, 1, 0] rfl)
  · have q5_ := bz.t f3_ c4_
    rw [thr_1 c4_] at hR
    refine lv_iconst (v := 0) hx hb dX5_reach_8 (by decide) ?_
    exact g_iretW hC hr dX5_reach_9 hS (Nat.le_of_ble_eq_true rfl) (Nat.le_of_ble_eq_true rfl) (mPost_k 1 (by unfold kPow; rw [cif_pos (by grind)]) (by decide) rfl hR)
set_option maxHeartbeats 4000000 in
set_option maxRecDepth 100000 in
theorem c_X5_canSign {l : Launch} {E : gV} (hE : gOK l E) {β : Nat → Nat} {μ : F2} {K : Nat → Nat} {dp th : Int32} (hI : MI μ K) (p0 : Int32) (k0 : Int32) (s0 : Int32) : gM l E yX5_canSign cX5_canSign 4 (some .boolean) ({ frames := 22, cells := 0, slots := 0, locals := 509 } : Room) [.ref (β 19), .int p0, .int k0, .int s0] (fun H => RM E β μ K dp th H) (gQW (mA β) (gWi (fun r H => mPost E β μ K (kCan (K 0) p0 k0 s0) (μ) (K) (bz (fHas (mv μ) (K 1) (μ 22 0) p0 k0 115 s0) r) H))) (fun _ => False) (mA β) := by
  refine gM_body hE (by decide +kernel) (Nat.le_of_ble_eq_true rfl) ?_
  intro p_ e_ s m args below meth c hC ht hr hname hP ls hl
  have hx := hC.2.2.1
  have hb := hC.2.2.2.1
  have hl : lv_has ls 4 [(0, .ref (β 19)), (1, .int p0), (2, .int k0), (3, .int s0)] := hl
  have hS : va_S ((mA β)) s.heap s.heap [] := va_S.rf
  have hR : RM E β μ K dp th s.heap := hP
  obtain ⟨hK0, hK1, hK2, hSr, hHo, hTd⟩ := hI
  refine lv_aload_n hx hb dX5_canSign_0 rfl (lv_at hl 0 rfl) ?_
  refine lv_aload_n hx hb dX5_canSign_1 rfl (lv_at hl 0 rfl) ?_
  refine lv_iload_n hx hb dX5_canSign_2 rfl (lv_at hl 1 rfl) ?_
  refine g_cRi (k2 := 0) (n2 := 0) (g_runV (rest := [.ref (β 19)]) hC (c_X5_isNobody hE (β := β) (μ := μ) (K := K) (dp := dp) (th := th) (by omega) p0) Y_X5_isNobody k_1092 I_X5_isNobody V_X5_isNobody hR.obj rfl hR rfl hl.1 dX5_canSign_3 ⟨Nat.le_of_ble_eq_true rfl, Nat.le_of_ble_eq_true rfl⟩ ⟨Nat.le_of_ble_eq_true rfl, Nat.le_of_ble_eq_true rfl⟩ rfl (Nat.le_of_ble_eq_true rfl)) rfl rfl g_no (fun r1_ h2_ => ?_)
  refine lv_iconst (v := 1) hx hb dX5_canSign_6 (by decide) ?_
  refine g_cWi (k2 := 0) (n2 := 0) (g_runV (rest := []) hC (c_X5_isThrown hE (β := β) (μ := μ) (K := K) (dp := dp) (th := th) r1_ 1 (bz.nar h2_)) Y_X5_isThrown k_1084 I_X5_isThrown V_X5_isThrown hR.obj rfl hR rfl hl.1 dX5_canSign_7 ⟨Nat.le_of_ble_eq_true rfl, Nat.le_of_ble_eq_true rfl⟩ ⟨Nat.le_of_ble_eq_true rfl, Nat.le_of_ble_eq_true rfl⟩ rfl (Nat.le_of_ble_eq_true rfl)) hS (fun _ h => h) rfl rfl (fun r3_ H lo h4_ _ _ hS => ?_)
  obtain ⟨rfl, hR⟩ := h4_
  refine lv_if_ne (tgt := 39) hx hb dX5_canSign_10 (by decide) (fun c5_ => ?_) (fun c5_ => ?_)
  · have q6_ := bz.t h2_ c5_
    rw [thr_1 c5_] at hR
    refine lv_iconst (v := 0) hx hb dX5_canSign_39 (by decide) ?_
    exact g_zretW hC hr rfl dX5_canSign_40 hS (Nat.le_of_ble_eq_true rfl) (Nat.le_of_ble_eq_true rfl) (mPost_k 1 (by unfold kCan; rw [cif_pos (by grind)]) (by decide) rfl hR)
  · have q6_ := bz.f h2_ c5_
    rw [thr_0 c5_] at hR
    refine lv_aload_n hx hb dX5_canSign_13 rfl (lv_at hl 0 rfl) ?_
    refine lv_iload_n hx hb dX5_canSign_14 rfl (lv_at hl 2 rfl) ?_
    refine lv_iload_n hx hb dX5_canSign_15 rfl (lv_at hl 3 rfl) ?_
    refine lv_iconst (v := 2) hx hb dX5_canSign_16 (by decide) ?_
    refine g_cWi (k2 := 0) (n2 := 0) (g_runV (rest := []) hC (c_X5_isNoAsk hE (β := β) (μ := μ) (K := K) (dp := dp) (th := 0) k0 s0 2) Y_X5_isNoAsk k_1176 I_X5_isNoAsk V_X5_isNoAsk hR.obj rfl hR rfl hl.1 dX5_canSign_17 ⟨Nat.le_of_ble_eq_true rfl, Nat.le_of_ble_eq_true rfl⟩ ⟨Nat.le_of_ble_eq_true rfl, Nat.le_of_ble_eq_true rfl⟩ rfl (Nat.le_of_ble_eq_true rfl)) hS (fun _ h => h) rfl rfl (fun r7_ H lo h8_ _ _ hS => ?_)
    obtain ⟨f9_, hR⟩ := h8_
    refine lv_if_ne (tgt := 39) hx hb dX5_canSign_20 (by decide) (fun c10_ => ?_) (fun c10_ => ?_)
    · have q11_ := bz.t f9_ c10_
      rw [thr_1 c10_] at hR
      refine lv_iconst (v := 0) hx hb dX5_canSign_39 (by decide) ?_
      exact g_zretW hC hr rfl dX5_canSign_40 hS (Nat.le_of_ble_eq_true rfl) (Nat.le_of_ble_eq_true rfl) (mPost_k 2 (by unfold kCan; rw [cif_neg (by grind), cif_pos (by grind)]) (by decide) rfl hR)
    · have q11_ := bz.f f9_ c10_
      rw [thr_0 c10_] at hR
      refine lv_aload_n hx hb dX5_canSign_23 rfl (lv_at hl 0 rfl) ?_
      refine lv_iload_n hx hb dX5_canSign_24 rfl (lv_at hl 1 rfl) ?_
      refine lv_iload_n hx hb dX5_canSign_25 rfl (lv_at hl 2 rfl) ?_
      refine lv_bipush (v := 115) hx hb dX5_canSign_26 (by decide) ?_
      refine lv_iload_n hx hb dX5_canSign_28 rfl (lv_at hl 3 rfl) ?_
      obtain ⟨j_p0, hj_p0, rfl⟩ := isP_of (n := K 0) (p := p0) (by first | exact Classical.not_not.mp (by assumption) | assumption) (by omega)
      have ej_p0 : (nI j_p0).toNatClampNeg = j_p0 := nI_clamp (by omega)
      have ipj_p0 : isP (K 0) (nI j_p0) := isP_nI hj_p0 (by omega)
      refine g_cWi (k2 := 0) (n2 := 0) (g_runV (rest := []) hC (c_X5_has hE (β := β) (μ := μ) (K := K) (dp := dp) (th := 0) ⟨hK0, hK1, hK2, hSr, hHo, hTd⟩ (nI j_p0) k0 115 s0 (by first | assumption | exact nI_m2 _ (by omega))) Y_X5_has k_1180 I_X5_has V_X5_has hR.obj rfl hR rfl hl.1 dX5_canSign_29 ⟨Nat.le_of_ble_eq_true rfl, Nat.le_of_ble_eq_true rfl⟩ ⟨Nat.le_of_ble_eq_true rfl, Nat.le_of_ble_eq_true rfl⟩ rfl (Nat.le_of_ble_eq_true rfl)) hS (fun _ h => h) rfl rfl (fun r12_ H lo h13_ _ _ hS => ?_)
      obtain ⟨f15_, dp14_, hR⟩ := h13_
      refine lv_if_eq (tgt := 39) hx hb dX5_canSign_32 (by decide) (fun c16_ => ?_) (fun c16_ => ?_)
      · have q17_ := bz.f f15_ c16_
        refine lv_iconst (v := 0) hx hb dX5_canSign_39 (by decide) ?_
        exact g_zretW hC hr rfl dX5_canSign_40 hS (Nat.le_of_ble_eq_true rfl) (Nat.le_of_ble_eq_true rfl) (mPost_0 (by unfold kCan; rw [cif_neg (by first | grind | (simp only [ix, ej_p0, mv, mw]; grind)), cif_neg (by first | grind | (simp only [ix, ej_p0, mv, mw]; grind))]) hR rfl rfl (bz_0 (by assumption)))
      · have q17_ := bz.t f15_ c16_
        refine lv_iconst (v := 1) hx hb dX5_canSign_35 (by decide) ?_
        refine lv_goto (tgt := 40) hx hb dX5_canSign_36 (by decide) ?_
        exact g_zretW hC hr rfl dX5_canSign_40 hS (Nat.le_of_ble_eq_true rfl) (Nat.le_of_ble_eq_true rfl) (mPost_0 (by unfold kCan; rw [cif_neg (by first | grind | (simp only [ix, ej_p0, mv, mw]; grind)), cif_neg (by first | grind | (simp only [ix, ej_p0, mv, mw]; grind))]) hR rfl rfl (bz_1 (by assumption)))
set_option maxHeartbeats 4000000 in
set_option maxRecDepth 100000 in
theorem c_X5_canSignTogether {l : Launch} {E : gV} (hE : gOK l E) {β : Nat → Nat} {μ : F2} {K : Nat → Nat} {dp th : Int32} (hI : MI μ K) (p0 : Int32) (o0 : Int32) (k0 : Int32) (s0 : Int32) : gM l E yX5_canSignTogether cX5_canSignTogether 5 (some .boolean) ({ frames := 23, cells := 0, slots := 0, locals := 534 } : Room) [.ref (β 19), .int p0, .int o0, .int k0, .int s0] (fun H => RM E β μ K dp th H) (gQW (mA β) (gWi (fun r H => mPost E β μ K (kTog (K 0) p0 o0 k0 s0) (μ) (K) (bz (fTog (mv μ) (K 1) (μ 22 0) p0 o0 k0 s0) r) H))) (fun _ => False) (mA β) := by
  refine gM_body hE (by decide +kernel) (Nat.le_of_ble_eq_true rfl) ?_
  intro p_ e_ s m args below meth c hC ht hr hname hP ls hl
  have hx := hC.2.2.1
  have hb := hC.2.2.2.1
  have hl : lv_has ls 5 [(0, .ref (β 19)), (1, .int p0), (2, .int o0), (3, .int k0), (4, .int s0)] := hl
  have hS : va_S ((mA β)) s.heap s.heap [] := va_S.rf
  have hR : RM E β μ K dp th s.heap := hP
  obtain ⟨hK0, hK1, hK2, hSr, hHo, hTd⟩ := hI
  refine lv_aload_n hx hb dX5_canSignTogether_0 rfl (lv_at hl 0 rfl) ?_
  refine lv_aload_n hx hb dX5_canSignTogether_1 rfl (lv_at hl 0 rfl) ?_
  refine lv_iload_n hx hb dX5_canSignTogether_2 rfl (lv_at hl 1 rfl) ?_
  refine g_cRi (k2 := 0) (n2 := 0) (g_runV (rest := [.ref (β 19)]) hC (c_X5_isNobody hE (β := β) (μ := μ) (K := K) (dp := dp) (th := th) (by omega) p0) Y_X5_isNobody k_1092 I_X5_isNobody V_X5_isNobody hR.obj rfl hR rfl hl.1 dX5_canSignTogether_3 ⟨Nat.le_of_ble_eq_true rfl, Nat.le_of_ble_eq_true rfl⟩ ⟨Nat.le_of_ble_eq_true rfl, Nat.le_of_ble_eq_true rfl⟩ rfl (Nat.le_of_ble_eq_true rfl)) rfl rfl g_no (fun r1_ h2_ => ?_)
  refine lv_if_ne (tgt := 17) hx hb dX5_canSignTogether_6 (by decide) (fun c3_ => ?_) (fun c3_ => ?_)
  · have q4_ := bz.t h2_ c3_
    refine lv_iconst (v := 1) hx hb dX5_canSignTogether_17 (by decide) ?_
    refine lv_goto (tgt := 22) hx hb dX5_canSignTogether_18 (by decide) ?_
    refine lv_iconst (v := 1) hx hb dX5_canSignTogether_22 (by decide) ?_
    refine g_cWi (k2 := 0) (n2 := 0) (g_runV (rest := []) hC (c_X5_isThrown hE (β := β) (μ := μ) (K := K) (dp := dp) (th := th) 1 1 rfl) Y_X5_isThrown k_1084 I_X5_isThrown V_X5_isThrown hR.obj rfl hR rfl hl.1 dX5_canSignTogether_23 ⟨Nat.le_of_ble_eq_true rfl, Nat.le_of_ble_eq_true rfl⟩ ⟨Nat.le_of_ble_eq_true rfl, Nat.le_of_ble_eq_true rfl⟩ rfl (Nat.le_of_ble_eq_true rfl)) hS (fun _ h => h) rfl rfl (fun r5_ H lo h6_ _ _ hS => ?_)
    obtain ⟨rfl, hR⟩ := h6_
    have hR : RM E β μ K dp 1 H := hR
    refine lv_if_ne (tgt := 74) hx hb dX5_canSignTogether_26 (by decide) (fun c7_ => ?_) (fun c7_ => ?_)
    · refine lv_iconst (v := 0) hx hb dX5_canSignTogether_74 (by decide) ?_
      exact g_zretW hC hr rfl dX5_canSignTogether_75 hS (Nat.le_of_ble_eq_true rfl) (Nat.le_of_ble_eq_true rfl) (mPost_k 1 (by unfold kTog; rw [cif_pos (by grind)]) (by decide) rfl hR)
    · exact absurd c7_ (by decide)
  · have q4_ := bz.f h2_ c3_
    refine lv_aload_n hx hb dX5_canSignTogether_9 rfl (lv_at hl 0 rfl) ?_
    refine lv_iload_n hx hb dX5_canSignTogether_10 rfl (lv_at hl 2 rfl) ?_
    refine g_cRi (k2 := 0) (n2 := 0) (g_runV (rest := [.ref (β 19)]) hC (c_X5_isNobody hE (β := β) (μ := μ) (K := K) (dp := dp) (th := th) (by omega) o0) Y_X5_isNobody k_1092 I_X5_isNobody V_X5_isNobody hR.obj rfl hR rfl hl.1 dX5_canSignTogether_11 ⟨Nat.le_of_ble_eq_true rfl, Nat.le_of_ble_eq_true rfl⟩ ⟨Nat.le_of_ble_eq_true rfl, Nat.le_of_ble_eq_true rfl⟩ rfl (Nat.le_of_ble_eq_true rfl)) rfl rfl g_no (fun r8_ h9_ => ?_)
    refine lv_if_eq (tgt := 21) hx hb dX5_canSignTogether_14 (by decide) (fun c10_ => ?_) (fun c10_ => ?_)
    · have q11_ := bz.f h9_ c10_
      refine lv_iconst (v := 0) hx hb dX5_canSignTogether_21 (by decide) ?_
      refine lv_iconst (v := 1) hx hb dX5_canSignTogether_22 (by decide) ?_
      refine g_cWi (k2 := 0) (n2 := 0) (g_runV (rest := []) hC (c_X5_isThrown hE (β := β) (μ := μ) (K := K) (dp := dp) (th := th) 0 1 rfl) Y_X5_isThrown k_1084 I_X5_isThrown V_X5_isThrown hR.obj rfl hR rfl hl.1 dX5_canSignTogether_23 ⟨Nat.le_of_ble_eq_true rfl, Nat.le_of_ble_eq_true rfl⟩ ⟨Nat.le_of_ble_eq_true rfl, Nat.le_of_ble_eq_true rfl⟩ rfl (Nat.le_of_ble_eq_true rfl)) hS (fun _ h => h) rfl rfl (fun r12_ H lo h13_ _ _ hS => ?_)
      obtain ⟨rfl, hR⟩ := h13_
      have hR : RM E β μ K dp 0 H := hR
      refine lv_if_ne (tgt := 74) hx hb dX5_canSignTogether_26 (by decide) (fun c14_ => ?_) (fun c14_ => ?_)
      · exact absurd c14_ (by decide)
      · refine lv_aload_n hx hb dX5_canSignTogether_29 rfl (lv_at hl 0 rfl) ?_
        refine lv_iload_n hx hb dX5_canSignTogether_30 rfl (lv_at hl 3 rfl) ?_
        refine lv_iload hx hb dX5_canSignTogether_31 (lv_at hl 4 rfl) ?_
        refine lv_iconst (v := 2) hx hb dX5_canSignTogether_33 (by decide) ?_
        refine g_cWi (k2 := 0) (n2 := 0) (g_runV (rest := []) hC (c_X5_isNoAsk hE (β := β) (μ := μ) (K := K) (dp := dp) (th := 0) k0 s0 2) Y_X5_isNoAsk k_1176 I_X5_isNoAsk V_X5_isNoAsk hR.obj rfl hR rfl hl.1 dX5_canSignTogether_34 ⟨Nat.le_of_ble_eq_true rfl, Nat.le_of_ble_eq_true rfl⟩ ⟨Nat.le_of_ble_eq_true rfl, Nat.le_of_ble_eq_true rfl⟩ rfl (Nat.le_of_ble_eq_true rfl)) hS (fun _ h => h) rfl rfl (fun r15_ H lo h16_ _ _ hS => ?_)
        obtain ⟨f17_, hR⟩ := h16_
        refine lv_if_ne (tgt := 74) hx hb dX5_canSignTogether_37 (by decide) (fun c18_ => ?_) (fun c18_ => ?_)
        · have q19_ := bz.t f17_ c18_
          rw [thr_1 c18_] at hR
          refine lv_iconst (v := 0) hx hb dX5_canSignTogether_74 (by decide) ?_
          exact g_zretW hC hr rfl dX5_canSignTogether_75 hS (Nat.le_of_ble_eq_true rfl) (Nat.le_of_ble_eq_true rfl) (mPost_k 2 (by unfold kTog; rw [cif_neg (by grind), cif_pos (by grind)]) (by decide) rfl hR)
        · have q19_ := bz.f f17_ c18_
          rw [thr_0 c18_] at hR
          refine lv_aload_n hx hb dX5_canSignTogether_40 rfl (lv_at hl 0 rfl) ?_
          refine lv_iload_n hx hb dX5_canSignTogether_41 rfl (lv_at hl 1 rfl) ?_
          refine lv_iload_n hx hb dX5_canSignTogether_42 rfl (lv_at hl 2 rfl) ?_
          refine lv_icmp_ne (tgt := 50) hx hb dX5_canSignTogether_43 (by decide) (fun c20_ => ?_) (fun c20_ => ?_)
          · refine lv_iconst (v := 0) hx hb dX5_canSignTogether_50 (by decide) ?_
            refine lv_iconst (v := 3) hx hb dX5_canSignTogether_51 (by decide) ?_
            refine g_cWi (k2 := 0) (n2 := 0) (g_runV (rest := []) hC (c_X5_isThrown hE (β := β) (μ := μ) (K := K) (dp := dp) (th := 0) 0 3 rfl) Y_X5_isThrown k_1084 I_X5_isThrown V_X5_isThrown hR.obj rfl hR rfl hl.1 dX5_canSignTogether_52 ⟨Nat.le_of_ble_eq_true rfl, Nat.le_of_ble_eq_true rfl⟩ ⟨Nat.le_of_ble_eq_true rfl, Nat.le_of_ble_eq_true rfl⟩ rfl (Nat.le_of_ble_eq_true rfl)) hS (fun _ h => h) rfl rfl (fun r21_ H lo h22_ _ _ hS => ?_)
            obtain ⟨rfl, hR⟩ := h22_
            have hR : RM E β μ K dp 0 H := hR
            refine lv_if_ne (tgt := 74) hx hb dX5_canSignTogether_55 (by decide) (fun c23_ => ?_) (fun c23_ => ?_)
            · exact absurd c23_ (by decide)
            · refine lv_aload_n hx hb dX5_canSignTogether_58 rfl (lv_at hl 0 rfl) ?_
              refine lv_iload_n hx hb dX5_canSignTogether_59 rfl (lv_at hl 1 rfl) ?_
              refine lv_iload_n hx hb dX5_canSignTogether_60 rfl (lv_at hl 2 rfl) ?_
              refine lv_iload_n hx hb dX5_canSignTogether_61 rfl (lv_at hl 3 rfl) ?_
              refine lv_iload hx hb dX5_canSignTogether_62 (lv_at hl 4 rfl) ?_
              obtain ⟨j_p0, hj_p0, rfl⟩ := isP_of (n := K 0) (p := p0) (by first | exact Classical.not_not.mp (by assumption) | assumption) (by omega)
              have ej_p0 : (nI j_p0).toNatClampNeg = j_p0 := nI_clamp (by omega)
              have ipj_p0 : isP (K 0) (nI j_p0) := isP_nI hj_p0 (by omega)
              obtain ⟨j_o0, hj_o0, rfl⟩ := isP_of (n := K 0) (p := o0) (by first | exact Classical.not_not.mp (by assumption) | assumption) (by omega)
              have ej_o0 : (nI j_o0).toNatClampNeg = j_o0 := nI_clamp (by omega)
              have ipj_o0 : isP (K 0) (nI j_o0) := isP_nI hj_o0 (by omega)
              refine g_cWi (k2 := 0) (n2 := 0) (g_runV (rest := []) hC (c_X5_canTogether hE (β := β) (μ := μ) (K := K) (dp := dp) (th := 0) ⟨hK0, hK1, hK2, hSr, hHo, hTd⟩ (nI j_p0) (nI j_o0) k0 s0 (by first | assumption | exact nI_m2 _ (by omega)) (by first | assumption | exact nI_m2 _ (by omega))) Y_X5_canTogether k_1188 I_X5_canTogether V_X5_canTogether hR.obj rfl hR rfl hl.1 dX5_canSignTogether_64 ⟨Nat.le_of_ble_eq_true rfl, Nat.le_of_ble_eq_true rfl⟩ ⟨Nat.le_of_ble_eq_true rfl, Nat.le_of_ble_eq_true rfl⟩ rfl (Nat.le_of_ble_eq_true rfl)) hS (fun _ h => h) rfl rfl (fun r24_ H lo h25_ _ _ hS => ?_)
              obtain ⟨f27_, dp26_, hR⟩ := h25_
              refine lv_if_eq (tgt := 74) hx hb dX5_canSignTogether_67 (by decide) (fun c28_ => ?_) (fun c28_ => ?_)
              · have q29_ := bz.f f27_ c28_
                refine lv_iconst (v := 0) hx hb dX5_canSignTogether_74 (by decide) ?_
                exact g_zretW hC hr rfl dX5_canSignTogether_75 hS (Nat.le_of_ble_eq_true rfl) (Nat.le_of_ble_eq_true rfl) (mPost_0 (by unfold kTog; rw [cif_neg (by first | grind | (simp only [ix, ej_p0, ej_o0, mv, mw]; grind)), cif_neg (by first | grind | (simp only [ix, ej_p0, ej_o0, mv, mw]; grind)), cif_neg (by first | grind | (simp only [ix, ej_p0, ej_o0, mv, mw]; grind))]) hR rfl rfl (bz_0 (by assumption)))
              · have q29_ := bz.t f27_ c28_
                refine lv_iconst (v := 1) hx hb dX5_canSignTogether_70 (by decide) ?_
                refine lv_goto (tgt := 75) hx hb dX5_canSignTogether_71 (by decide) ?_
                exact g_zretW hC hr rfl dX5_canSignTogether_75 hS (Nat.le_of_ble_eq_true rfl) (Nat.le_of_ble_eq_true rfl) (mPost_0 (by unfold kTog; rw [cif_neg (by first | grind | (simp only [ix, ej_p0, ej_o0, mv, mw]; grind)), cif_neg (by first | grind | (simp only [ix, ej_p0, ej_o0, mv, mw]; grind)), cif_neg (by first | grind | (simp only [ix, ej_p0, ej_o0, mv, mw]; grind))]) hR rfl rfl (bz_1 (by assumption)))
          · refine lv_iconst (v := 1) hx hb dX5_canSignTogether_46 (by decide) ?_
            refine lv_goto (tgt := 51) hx hb dX5_canSignTogether_47 (by decide) ?_
            refine lv_iconst (v := 3) hx hb dX5_canSignTogether_51 (by decide) ?_
            refine g_cWi (k2 := 0) (n2 := 0) (g_runV (rest := []) hC (c_X5_isThrown hE (β := β) (μ := μ) (K := K) (dp := dp) (th := 0) 1 3 rfl) Y_X5_isThrown k_1084 I_X5_isThrown V_X5_isThrown hR.obj rfl hR rfl hl.1 dX5_canSignTogether_52 ⟨Nat.le_of_ble_eq_true rfl, Nat.le_of_ble_eq_true rfl⟩ ⟨Nat.le_of_ble_eq_true rfl, Nat.le_of_ble_eq_true rfl⟩ rfl (Nat.le_of_ble_eq_true rfl)) hS (fun _ h => h) rfl rfl (fun r30_ H lo h31_ _ _ hS => ?_)
            obtain ⟨rfl, hR⟩ := h31_
            have hR : RM E β μ K dp 3 H := hR
            refine lv_if_ne (tgt := 74) hx hb dX5_canSignTogether_55 (by decide) (fun c32_ => ?_) (fun c32_ => ?_)
            · refine lv_iconst (v := 0) hx hb dX5_canSignTogether_74 (by decide) ?_
              exact g_zretW hC hr rfl dX5_canSignTogether_75 hS (Nat.le_of_ble_eq_true rfl) (Nat.le_of_ble_eq_true rfl) (mPost_k 3 (by unfold kTog; rw [cif_neg (by grind), cif_neg (by grind), cif_pos (by grind)]) (by decide) rfl hR)
            · exact absurd c32_ (by decide)
    · have q11_ := bz.t h9_ c10_
      refine lv_iconst (v := 1) hx hb dX5_canSignTogether_17 (by decide) ?_
      refine lv_goto (tgt := 22) hx hb dX5_canSignTogether_18 (by decide) ?_
      refine lv_iconst (v := 1) hx hb dX5_canSignTogether_22 (by decide) ?_
      refine g_cWi (k2 := 0) (n2 := 0) (g_runV (rest := []) hC (c_X5_isThrown hE (β := β) (μ := μ) (K := K) (dp := dp) (th := th) 1 1 rfl) Y_X5_isThrown k_1084 I_X5_isThrown V_X5_isThrown hR.obj rfl hR rfl hl.1 dX5_canSignTogether_23 ⟨Nat.le_of_ble_eq_true rfl, Nat.le_of_ble_eq_true rfl⟩ ⟨Nat.le_of_ble_eq_true rfl, Nat.le_of_ble_eq_true rfl⟩ rfl (Nat.le_of_ble_eq_true rfl)) hS (fun _ h => h) rfl rfl (fun r33_ H lo h34_ _ _ hS => ?_)
      obtain ⟨rfl, hR⟩ := h34_
      have hR : RM E β μ K dp 1 H := hR
      refine lv_if_ne (tgt := 74) hx hb dX5_canSignTogether_26 (by decide) (fun c35_ => ?_) (fun c35_ => ?_)
      · refine lv_iconst (v := 0) hx hb dX5_canSignTogether_74 (by decide) ?_
        exact g_zretW hC hr rfl dX5_canSignTogether_75 hS (Nat.le_of_ble_eq_true rfl) (Nat.le_of_ble_eq_true rfl) (mPost_k 1 (by unfold kTog; rw [cif_pos (by grind)]) (by decide) rfl hR)
      · exact absurd c35_ (by decide)
set_option maxHeartbeats 4000000 in
set_option maxRecDepth 100000 in
theorem c_X5_signers {l : Launch} {E : gV} (hE : gOK l E) {β : Nat → Nat} {μ : F2} {K : Nat → Nat} {dp th : Int32} (hI : MI μ K) (k0 : Int32) (s0 : Int32) : gM l E yX5_signers cX5_signers 5 (some .int) ({ frames := 22, cells := 0, slots := 0, locals := 509 } : Room) [.ref (β 19), .int k0, .int s0] (fun H => RM E β μ K dp th H) (gQW (mA β) (gWi (fun r H => mPost E β μ K (kAsk k0 s0) (μ) (K) (r = nI (fCnt (fun t => fHas (mv μ) (K 1) (μ 22 0) (nI t) k0 115 s0) (K 0))) H))) (fun _ => False) (mA β) := by
  refine gM_body hE (by decide +kernel) (Nat.le_of_ble_eq_true rfl) ?_
  intro p_ e_ s m args below meth c hC ht hr hname hP ls hl
  have hx := hC.2.2.1
  have hb := hC.2.2.2.1
  have hl : lv_has ls 5 [(0, .ref (β 19)), (1, .int k0), (2, .int s0)] := hl
  have hS : va_S ((mA β)) s.heap s.heap [] := va_S.rf
  have hR : RM E β μ K dp th s.heap := hP
  obtain ⟨hK0, hK1, hK2, hSr, hHo, hTd⟩ := hI
  refine lv_aload_n hx hb dX5_signers_0 rfl (lv_at hl 0 rfl) ?_
  refine lv_iload_n hx hb dX5_signers_1 rfl (lv_at hl 1 rfl) ?_
  refine lv_iload_n hx hb dX5_signers_2 rfl (lv_at hl 2 rfl) ?_
  refine lv_iconst (v := 1) hx hb dX5_signers_3 (by decide) ?_
  refine g_cWi (k2 := 0) (n2 := 0) (g_runV (rest := []) hC (c_X5_isNoAsk hE (β := β) (μ := μ) (K := K) (dp := dp) (th := th) k0 s0 1) Y_X5_isNoAsk k_1176 I_X5_isNoAsk V_X5_isNoAsk hR.obj rfl hR rfl hl.1 dX5_signers_4 ⟨Nat.le_of_ble_eq_true rfl, Nat.le_of_ble_eq_true rfl⟩ ⟨Nat.le_of_ble_eq_true rfl, Nat.le_of_ble_eq_true rfl⟩ rfl (Nat.le_of_ble_eq_true rfl)) hS (fun _ h => h) rfl rfl (fun r1_ H lo h2_ _ _ hS => ?_)
  obtain ⟨f3_, hR⟩ := h2_
  refine lv_if_eq (tgt := 12) hx hb dX5_signers_7 (by decide) (fun c4_ => ?_) (fun c4_ => ?_)
  · have q5_ := bz.f f3_ c4_
    rw [thr_0 c4_] at hR
    refine lv_iconst (v := 0) hx hb dX5_signers_12 (by decide) ?_
    refine lv_istore_n (lv' := [(3, .int 0), (0, .ref (β 19)), (1, .int k0), (2, .int s0)]) hx hb dX5_signers_13 rfl hl (by decide) rfl (fun ls hl => ?_)
    refine lv_iconst (v := 0) hx hb dX5_signers_14 (by decide) ?_
    refine lv_istore (lv' := [(4, .int 0), (3, .int 0), (0, .ref (β 19)), (1, .int k0), (2, .int s0)]) hx hb dX5_signers_15 hl (by decide) rfl (fun ls hl => ?_)
    have loop : ∀ (n_ : Nat) (q : Nat) (r : Int32) (dp : Int32) (H : Heap) (lo : List Loc) (ls : Array Slot), K 0 - q < n_ → (q ≤ K 0) → (r = nI (fCnt (fun t => fHas (mv μ) (K 1) (μ 22 0) (nI t) k0 115 s0) q)) → RM E β μ K dp 0 H → va_S ((mA β)) s.heap H lo → lv_has ls 5 [(0, .ref (β 19)), (1, .int k0), (2, .int s0), (3, .int r), (4, .int (nI q))] → W p_ l e_ ({ frames := 22, cells := 0, slots := 0, locals := 509 } : Room) s m args below meth c H lo 0 0 (vx_MQ below (gQW (mA β) (gWi (fun r H => mPost E β μ K (kAsk k0 s0) (μ) (K) (r = nI (fCnt (fun t => fHas (mv μ) (K 1) (μ 22 0) (nI t) k0 115 s0) (K 0))) H))) (gX (fun _ => False)) args s 0 0 (mA β)) (F0 m 17 ls []) := by
      intro n_
      induction n_ with
      | zero => intro q r dp H lo ls h_; exact absurd h_ (Nat.not_lt_zero _)
      | succ n_ ih_loop =>
        intro q r dp H lo ls hn_ i1 i2 hR hS hl
        refine lv_iload hx hb dX5_signers_17 (lv_at hl 4 rfl) ?_
        refine lv_aload_n hx hb dX5_signers_19 rfl (lv_at hl 0 rfl) ?_
        refine g_get (v := .int (nI (K 0))) hC hR.obj (C := RX5) (T := TX5) (N := 26) rfl u5_in 19 (by decide) k_1015 rfl dX5_signers_20 ?_
        refine lv_icmp_ge (tgt := 53) hx hb dX5_signers_23 (by decide) (fun c6_ => ?_) (fun c6_ => ?_)
        · have n7_ : (K 0) ≤ q := le_nI (by omega) (by omega) c6_
          refine lv_iload_n hx hb dX5_signers_53 rfl (lv_at hl 3 rfl) ?_
          exact g_iretW hC hr dX5_signers_54 hS (Nat.le_of_ble_eq_true rfl) (Nat.le_of_ble_eq_true rfl) (mPost_0 (by unfold kAsk; rw [cif_neg (by grind)]) hR rfl rfl (by rw [i2, show q = K 0 by omega]))
        · have n7_ : q < (K 0) := not_le_nI (by omega) (by omega) c6_
          refine lv_iload_n hx hb dX5_signers_26 rfl (lv_at hl 3 rfl) ?_
          refine lv_aload_n hx hb dX5_signers_27 rfl (lv_at hl 0 rfl) ?_
          refine lv_iload hx hb dX5_signers_28 (lv_at hl 4 rfl) ?_
          refine lv_iload_n hx hb dX5_signers_30 rfl (lv_at hl 1 rfl) ?_
          refine lv_bipush (v := 115) hx hb dX5_signers_31 (by decide) ?_
          refine lv_iload_n hx hb dX5_signers_33 rfl (lv_at hl 2 rfl) ?_
          refine g_cWi (k2 := 0) (n2 := 0) (g_runV (rest := [.int r]) hC (c_X5_has hE (β := β) (μ := μ) (K := K) (dp := dp) (th := 0) ⟨hK0, hK1, hK2, hSr, hHo, hTd⟩ (nI q) k0 115 s0 (by first | assumption | exact nI_m2 _ (by omega))) Y_X5_has k_1180 I_X5_has V_X5_has hR.obj rfl hR rfl hl.1 dX5_signers_34 ⟨Nat.le_of_ble_eq_true rfl, Nat.le_of_ble_eq_true rfl⟩ ⟨Nat.le_of_ble_eq_true rfl, Nat.le_of_ble_eq_true rfl⟩ rfl (Nat.le_of_ble_eq_true rfl)) hS (fun _ h => h) rfl rfl (fun r8_ H lo h9_ _ _ hS => ?_)
          obtain ⟨f11_, dp10_, hR⟩ := h9_
          refine lv_if_eq (tgt := 44) hx hb dX5_signers_37 (by decide) (fun c12_ => ?_) (fun c12_ => ?_)
          · have q13_ := bz.f f11_ c12_
            refine lv_iconst (v := 0) hx hb dX5_signers_44 (by decide) ?_
            refine lv_iadd hx hb dX5_signers_45 ?_
            refine lv_istore_n (lv' := [(3, .int (r + 0)), (0, .ref (β 19)), (1, .int k0), (2, .int s0), (4, .int (nI q))]) hx hb dX5_signers_46 rfl hl (by decide) rfl (fun ls hl => ?_)
            refine lv_iinc (v := nI (q + 1)) (lv' := [(4, .int (nI (q + 1))), (3, .int (r + 0)), (0, .ref (β 19)), (1, .int k0), (2, .int s0)]) hx hb dX5_signers_47 hl (k := 4) rfl (g_inc _) (by decide) rfl (fun ls hl => ?_)
            refine lv_goto (tgt := 17) hx hb dX5_signers_50 (by decide) ?_
            exact ih_loop (q + 1) (r + 0) _ H lo ls (by omega) (by omega) (by rw [i2]; exact nI_cnt_f (by assumption)) hR hS (lv_sub hl [2, 3, 4, 1, 0] rfl)
          · have q13_ := bz.t f11_ c12_
            refine lv_iconst (v := 1) hx hb dX5_signers_40 (by decide) ?_
            refine lv_goto (tgt := 45) hx hb dX5_signers_41 (by decide) ?_
            refine lv_iadd hx hb dX5_signers_45 ?_
            refine lv_istore_n (lv' := [(3, .int (r + 1)), (0, .ref (β 19)), (1, .int k0), (2, .int s0), (4, .int (nI q))]) hx hb dX5_signers_46 rfl hl (by decide) rfl (fun ls hl => ?_)
            refine lv_iinc (v := nI (q + 1)) (lv' := [(4, .int (nI (q + 1))), (3, .int (r + 1)), (0, .ref (β 19)), (1, .int k0), (2, .int s0)]) hx hb dX5_signers_47 hl (k := 4) rfl (g_inc _) (by decide) rfl (fun ls hl => ?_)
            refine lv_goto (tgt := 17) hx hb dX5_signers_50 (by decide) ?_
            exact ih_loop (q + 1) (r + 1) _ H lo ls (by omega) (by omega) (by rw [i2]; exact nI_cnt_t (by assumption)) hR hS (lv_sub hl [2, 3, 4, 1, 0] rfl)
    exact loop ((K 0 - (0)) + 1) 0 0 _ H lo ls (by omega) (by omega) rfl hR hS (lv_sub hl [2, 3, 4, 1, 0] rfl)
  · have q5_ := bz.t f3_ c4_
    rw [thr_1 c4_] at hR
    refine lv_iconst (v := 0) hx hb dX5_signers_10 (by decide) ?_
    exact g_iretW hC hr dX5_signers_11 hS (Nat.le_of_ble_eq_true rfl) (Nat.le_of_ble_eq_true rfl) (mPost_k 1 (by unfold kAsk; rw [cif_pos (by grind)]) (by decide) rfl hR)
set_option maxHeartbeats 4000000 in
set_option maxRecDepth 100000 in
theorem c_X5_pairs {l : Launch} {E : gV} (hE : gOK l E) {β : Nat → Nat} {μ : F2} {K : Nat → Nat} {dp th : Int32} (hI : MI μ K) (k0 : Int32) (s0 : Int32) : gM l E yX5_pairs cX5_pairs 6 (some .int) ({ frames := 23, cells := 0, slots := 0, locals := 534 } : Room) [.ref (β 19), .int k0, .int s0] (fun H => RM E β μ K dp th H) (gQW (mA β) (gWi (fun r H => mPost E β μ K (kAsk k0 s0) (μ) (K) (r = nI (fPr (fun a b => fTog (mv μ) (K 1) (μ 22 0) (nI a) (nI b) k0 s0) (K 0))) H))) (fun _ => False) (mA β) := by
  refine gM_body hE (by decide +kernel) (Nat.le_of_ble_eq_true rfl) ?_
  intro p_ e_ s m args below meth c hC ht hr hname hP ls hl
  have hx := hC.2.2.1
  have hb := hC.2.2.2.1
  have hl : lv_has ls 6 [(0, .ref (β 19)), (1, .int k0), (2, .int s0)] := hl
  have hS : va_S ((mA β)) s.heap s.heap [] := va_S.rf
  have hR : RM E β μ K dp th s.heap := hP
  obtain ⟨hK0, hK1, hK2, hSr, hHo, hTd⟩ := hI
  refine lv_aload_n hx hb dX5_pairs_0 rfl (lv_at hl 0 rfl) ?_
  refine lv_iload_n hx hb dX5_pairs_1 rfl (lv_at hl 1 rfl) ?_
  refine lv_iload_n hx hb dX5_pairs_2 rfl (lv_at hl 2 rfl) ?_
  refine lv_iconst (v := 1) hx hb dX5_pairs_3 (by decide) ?_
  refine g_cWi (k2 := 0) (n2 := 0) (g_runV (rest := []) hC (c_X5_isNoAsk hE (β := β) (μ := μ) (K := K) (dp := dp) (th := th) k0 s0 1) Y_X5_isNoAsk k_1176 I_X5_isNoAsk V_X5_isNoAsk hR.obj rfl hR rfl hl.1 dX5_pairs_4 ⟨Nat.le_of_ble_eq_true rfl, Nat.le_of_ble_eq_true rfl⟩ ⟨Nat.le_of_ble_eq_true rfl, Nat.le_of_ble_eq_true rfl⟩ rfl (Nat.le_of_ble_eq_true rfl)) hS (fun _ h => h) rfl rfl (fun r1_ H lo h2_ _ _ hS => ?_)
  obtain ⟨f3_, hR⟩ := h2_
  refine lv_if_eq (tgt := 12) hx hb dX5_pairs_7 (by decide) (fun c4_ => ?_) (fun c4_ => ?_)
  · have q5_ := bz.f f3_ c4_
    rw [thr_0 c4_] at hR
    refine lv_iconst (v := 0) hx hb dX5_pairs_12 (by decide) ?_
    refine lv_istore_n (lv' := [(3, .int 0), (0, .ref (β 19)), (1, .int k0), (2, .int s0)]) hx hb dX5_pairs_13 rfl hl (by decide) rfl (fun ls hl => ?_)
    refine lv_iconst (v := 0) hx hb dX5_pairs_14 (by decide) ?_
    refine lv_istore (lv' := [(4, .int 0), (3, .int 0), (0, .ref (β 19)), (1, .int k0), (2, .int s0)]) hx hb dX5_pairs_15 hl (by decide) rfl (fun ls hl => ?_)
    have loop : ∀ (n_ : Nat) (pp : Nat) (r : Int32) (dp : Int32) (H : Heap) (lo : List Loc) (ls : Array Slot), K 0 - pp < n_ → (pp ≤ K 0) → (r = nI (fPr (fun a b => fTog (mv μ) (K 1) (μ 22 0) (nI a) (nI b) k0 s0) pp)) → RM E β μ K dp 0 H → va_S ((mA β)) s.heap H lo → lv_has ls 6 [(0, .ref (β 19)), (1, .int k0), (2, .int s0), (3, .int r), (4, .int (nI pp))] → W p_ l e_ ({ frames := 23, cells := 0, slots := 0, locals := 534 } : Room) s m args below meth c H lo 0 0 (vx_MQ below (gQW (mA β) (gWi (fun r H => mPost E β μ K (kAsk k0 s0) (μ) (K) (r = nI (fPr (fun a b => fTog (mv μ) (K 1) (μ 22 0) (nI a) (nI b) k0 s0) (K 0))) H))) (gX (fun _ => False)) args s 0 0 (mA β)) (F0 m 17 ls []) := by
      intro n_
      induction n_ with
      | zero => intro pp r dp H lo ls h_; exact absurd h_ (Nat.not_lt_zero _)
      | succ n_ ih_loop =>
        intro pp r dp H lo ls hn_ i1 i2 hR hS hl
        refine lv_iload hx hb dX5_pairs_17 (lv_at hl 4 rfl) ?_
        refine lv_aload_n hx hb dX5_pairs_19 rfl (lv_at hl 0 rfl) ?_
        refine g_get (v := .int (nI (K 0))) hC hR.obj (C := RX5) (T := TX5) (N := 26) rfl u5_in 19 (by decide) k_1015 rfl dX5_pairs_20 ?_
        refine lv_icmp_ge (tgt := 69) hx hb dX5_pairs_23 (by decide) (fun c6_ => ?_) (fun c6_ => ?_)
        · have n7_ : (K 0) ≤ pp := le_nI (by omega) (by omega) c6_
          refine lv_iload_n hx hb dX5_pairs_69 rfl (lv_at hl 3 rfl) ?_
          exact g_iretW hC hr dX5_pairs_70 hS (Nat.le_of_ble_eq_true rfl) (Nat.le_of_ble_eq_true rfl) (mPost_0 (by unfold kAsk; rw [cif_neg (by grind)]) hR rfl rfl (by rw [i2, show pp = K 0 by omega]))
        · have n7_ : pp < (K 0) := not_le_nI (by omega) (by omega) c6_
          refine lv_iconst (v := 0) hx hb dX5_pairs_26 (by decide) ?_
          refine lv_istore (lv' := [(5, .int 0), (0, .ref (β 19)), (1, .int k0), (2, .int s0), (3, .int r), (4, .int (nI pp))]) hx hb dX5_pairs_27 hl (by decide) rfl (fun ls hl => ?_)
          have loop2 : ∀ (n_ : Nat) (q : Nat) (r2 : Int32) (dp2 : Int32) (H : Heap) (lo : List Loc) (ls : Array Slot), pp - q < n_ → (q ≤ pp) → (r2 = nI (fPr (fun a b => fTog (mv μ) (K 1) (μ 22 0) (nI a) (nI b) k0 s0) pp + fCnt ((fun a b => fTog (mv μ) (K 1) (μ 22 0) (nI a) (nI b) k0 s0) pp) q)) → RM E β μ K dp2 0 H → va_S ((mA β)) s.heap H lo → lv_has ls 6 [(0, .ref (β 19)), (1, .int k0), (2, .int s0), (3, .int r2), (4, .int (nI pp)), (5, .int (nI q))] → W p_ l e_ ({ frames := 23, cells := 0, slots := 0, locals := 534 } : Room) s m args below meth c H lo 0 0 (vx_MQ below (gQW (mA β) (gWi (fun r H => mPost E β μ K (kAsk k0 s0) (μ) (K) (r = nI (fPr (fun a b => fTog (mv μ) (K 1) (μ 22 0) (nI a) (nI b) k0 s0) (K 0))) H))) (gX (fun _ => False)) args s 0 0 (mA β)) (F0 m 29 ls []) := by
            intro n_
            induction n_ with
            | zero => intro q r2 dp2 H lo ls h_; exact absurd h_ (Nat.not_lt_zero _)
            | succ n_ ih_loop2 =>
              intro q r2 dp2 H lo ls hn_ i3 i4 hR hS hl
              refine lv_iload hx hb dX5_pairs_29 (lv_at hl 5 rfl) ?_
              refine lv_iload hx hb dX5_pairs_31 (lv_at hl 4 rfl) ?_
              refine lv_icmp_ge (tgt := 63) hx hb dX5_pairs_33 (by decide) (fun c8_ => ?_) (fun c8_ => ?_)
              · have n9_ : pp ≤ q := le_nI (by omega) (by omega) c8_
                refine lv_iinc (v := nI (pp + 1)) (lv' := [(4, .int (nI (pp + 1))), (0, .ref (β 19)), (1, .int k0), (2, .int s0), (3, .int r2), (5, .int (nI q))]) hx hb dX5_pairs_63 hl (k := 4) rfl (g_inc _) (by decide) rfl (fun ls hl => ?_)
                refine lv_goto (tgt := 17) hx hb dX5_pairs_66 (by decide) ?_
                exact ih_loop (pp + 1) r2 _ H lo ls (by omega) (by omega) (by rw [i4, show q = pp by omega]; rfl) hR hS (lv_sub hl [1, 2, 3, 4, 0] rfl)
              · have n9_ : q < pp := not_le_nI (by omega) (by omega) c8_
                refine lv_iload_n hx hb dX5_pairs_36 rfl (lv_at hl 3 rfl) ?_
                refine lv_aload_n hx hb dX5_pairs_37 rfl (lv_at hl 0 rfl) ?_
                refine lv_iload hx hb dX5_pairs_38 (lv_at hl 4 rfl) ?_
                refine lv_iload hx hb dX5_pairs_40 (lv_at hl 5 rfl) ?_
                refine lv_iload_n hx hb dX5_pairs_42 rfl (lv_at hl 1 rfl) ?_
                refine lv_iload_n hx hb dX5_pairs_43 rfl (lv_at hl 2 rfl) ?_
                refine g_cWi (k2 := 0) (n2 := 0) (g_runV (rest := [.int r2]) hC (c_X5_canTogether hE (β := β) (μ := μ) (K := K) (dp := dp2) (th := 0) ⟨hK0, hK1, hK2, hSr, hHo, hTd⟩ (nI pp) (nI q) k0 s0 (by first | assumption | exact nI_m2 _ (by omega)) (by first | assumption | exact nI_m2 _ (by omega))) Y_X5_canTogether k_1188 I_X5_canTogether V_X5_canTogether hR.obj rfl hR rfl hl.1 dX5_pairs_44 ⟨Nat.le_of_ble_eq_true rfl, Nat.le_of_ble_eq_true rfl⟩ ⟨Nat.le_of_ble_eq_true rfl, Nat.le_of_ble_eq_true rfl⟩ rfl (Nat.le_of_ble_eq_true rfl)) hS (fun _ h => h) rfl rfl (fun r10_ H lo h11_ _ _ hS => ?_)
                obtain ⟨f13_, dp12_, hR⟩ := h11_
                refine lv_if_eq (tgt := 54) hx hb dX5_pairs_47 (by decide) (fun c14_ => ?_) (fun c14_ => ?_)
                · have q15_ := bz.f f13_ c14_
                  refine lv_iconst (v := 0) hx hb dX5_pairs_54 (by decide) ?_
                  refine lv_iadd hx hb dX5_pairs_55 ?_
                  refine lv_istore_n (lv' := [(3, .int (r2 + 0)), (0, .ref (β 19)), (1, .int k0), (2, .int s0), (4, .int (nI pp)), (5, .int (nI q))]) hx hb dX5_pairs_56 rfl hl (by decide) rfl (fun ls hl => ?_)
                  refine lv_iinc (v := nI (q + 1)) (lv' := [(5, .int (nI (q + 1))), (3, .int (r2 + 0)), (0, .ref (β 19)), (1, .int k0), (2, .int s0), (4, .int (nI pp))]) hx hb dX5_pairs_57 hl (k := 5) rfl (g_inc _) (by decide) rfl (fun ls hl => ?_)
                  refine lv_goto (tgt := 29) hx hb dX5_pairs_60 (by decide) ?_
                  exact ih_loop2 (q + 1) (r2 + 0) _ H lo ls (by omega) (by omega) (by rw [i4]; exact nI_cntA_f (C := (fun a b => fTog (mv μ) (K 1) (μ 22 0) (nI a) (nI b) k0 s0) pp) (by assumption)) hR hS (lv_sub hl [2, 3, 4, 1, 5, 0] rfl)
                · have q15_ := bz.t f13_ c14_
                  refine lv_iconst (v := 1) hx hb dX5_pairs_50 (by decide) ?_
                  refine lv_goto (tgt := 55) hx hb dX5_pairs_51 (by decide) ?_
                  refine lv_iadd hx hb dX5_pairs_55 ?_
                  refine lv_istore_n (lv' := [(3, .int (r2 + 1)), (0, .ref (β 19)), (1, .int k0), (2, .int s0), (4, .int (nI pp)), (5, .int (nI q))]) hx hb dX5_pairs_56 rfl hl (by decide) rfl (fun ls hl => ?_)
                  refine lv_iinc (v := nI (q + 1)) (lv' := [(5, .int (nI (q + 1))), (3, .int (r2 + 1)), (0, .ref (β 19)), (1, .int k0), (2, .int s0), (4, .int (nI pp))]) hx hb dX5_pairs_57 hl (k := 5) rfl (g_inc _) (by decide) rfl (fun ls hl => ?_)
                  refine lv_goto (tgt := 29) hx hb dX5_pairs_60 (by decide) ?_
                  exact ih_loop2 (q + 1) (r2 + 1) _ H lo ls (by omega) (by omega) (by rw [i4]; exact nI_cntA_t (C := (fun a b => fTog (mv μ) (K 1) (μ 22 0) (nI a) (nI b) k0 s0) pp) (by assumption)) hR hS (lv_sub hl [2, 3, 4, 1, 5, 0] rfl)
          exact loop2 ((pp - (0)) + 1) 0 r _ H lo ls (by omega) (by omega) (by rw [i2]; rfl) hR hS (lv_sub hl [1, 2, 3, 4, 5, 0] rfl)
    exact loop ((K 0 - (0)) + 1) 0 0 _ H lo ls (by omega) (by omega) rfl hR hS (lv_sub hl [2, 3, 4, 1, 0] rfl)
  · have q5_ := bz.t f3_ c4_
    rw [thr_1 c4_] at hR
    refine lv_iconst (v := 0) hx hb dX5_pairs_10 (by decide) ?_
    exact g_iretW hC hr dX5_pairs_11 hS (Nat.le_of_ble_eq_true rfl) (Nat.le_of_ble_eq_true rfl) (mPost_k 1 (by unfold kAsk; rw [cif_pos (by grind)]) (by decide) rfl hR)
set_option maxHeartbeats 4000000 in
set_option maxRecDepth 100000 in
theorem c_X5_pairsByTrying {l : Launch} {E : gV} (hE : gOK l E) {β : Nat → Nat} {μ : F2} {K : Nat → Nat} {dp th : Int32} (hI : MI μ K) (k0 : Int32) (s0 : Int32) : gM l E yX5_pairsByTrying cX5_pairsByTrying 3 (some .int) ({ frames := 24, cells := 0, slots := 0, locals := 559 } : Room) [.ref (β 19), .int k0, .int s0] (fun H => RM E β μ K dp th H) (gQW (mA β) (gWi (fun r H => mPost E β μ K (kAsk k0 s0) (μ) (K) (r = nI (fPr (fun a b => fTog (mv μ) (K 1) (μ 22 0) (nI a) (nI b) k0 s0) (K 0))) H))) (fun _ => False) (mA β) := by
  refine gM_body hE (by decide +kernel) (Nat.le_of_ble_eq_true rfl) ?_
  intro p_ e_ s m args below meth c hC ht hr hname hP ls hl
  have hx := hC.2.2.1
  have hb := hC.2.2.2.1
  have hl : lv_has ls 3 [(0, .ref (β 19)), (1, .int k0), (2, .int s0)] := hl
  have hS : va_S ((mA β)) s.heap s.heap [] := va_S.rf
  have hR : RM E β μ K dp th s.heap := hP
  obtain ⟨hK0, hK1, hK2, hSr, hHo, hTd⟩ := hI
  refine lv_aload_n hx hb dX5_pairsByTrying_0 rfl (lv_at hl 0 rfl) ?_
  refine lv_iload_n hx hb dX5_pairsByTrying_1 rfl (lv_at hl 1 rfl) ?_
  refine lv_iload_n hx hb dX5_pairsByTrying_2 rfl (lv_at hl 2 rfl) ?_
  refine g_cWi (k2 := 0) (n2 := 0) (g_runV (rest := []) hC (c_X5_pairs hE (β := β) (μ := μ) (K := K) (dp := dp) (th := th) ⟨hK0, hK1, hK2, hSr, hHo, hTd⟩ k0 s0) Y_X5_pairs k_1204 I_X5_pairs V_X5_pairs hR.obj rfl hR rfl hl.1 dX5_pairsByTrying_3 ⟨Nat.le_of_ble_eq_true rfl, Nat.le_of_ble_eq_true rfl⟩ ⟨Nat.le_of_ble_eq_true rfl, Nat.le_of_ble_eq_true rfl⟩ rfl (Nat.le_of_ble_eq_true rfl)) hS (fun _ h => h) rfl rfl (fun r1_ H lo h2_ _ _ hS => ?_)
  exact g_iretW hC hr dX5_pairsByTrying_6 hS (Nat.le_of_ble_eq_true rfl) (Nat.le_of_ble_eq_true rfl) (by assumption)
set_option maxHeartbeats 4000000 in
set_option maxRecDepth 100000 in
theorem c_X5_added {l : Launch} {E : gV} (hE : gOK l E) {β : Nat → Nat} {μ : F2} {K : Nat → Nat} {dp th : Int32} (hI : MI μ K) (k0 a0 pa0 : Int32) : gM l E yX5_added cX5_added 6 (some .int) ({ frames := 0, cells := 0, slots := 0, locals := 0 } : Room) [.ref (β 19), .int k0, .int a0, .int pa0] (fun H => RM E β μ K dp th H) (gQR (gPi (fun r => r = fAdd (mw μ) (fun t => μ 17 t = 110) (μ 22 0) (μ 23 0) k0 pa0 (K 2) a0))) (fun _ => False) gN := by
  refine gM_body hE (by decide +kernel) (Nat.le_of_ble_eq_true rfl) ?_
  intro p_ e_ s m args below meth c hC ht hr hname hP ls hl
  have hx := hC.2.2.1
  have hb := hC.2.2.2.1
  have hl : lv_has ls 6 [(0, .ref (β 19)), (1, .int k0), (2, .int a0), (3, .int pa0)] := hl
  have hR : RM E β μ K dp th s.heap := hP
  obtain ⟨hK0, hK1, hK2, hSr, hHo, hTd⟩ := hI
  refine lv_iload_n hx hb dX5_added_0 rfl (lv_at hl 2 rfl) ?_
  refine lv_istore (lv' := [(4, .int a0), (0, .ref (β 19)), (1, .int k0), (2, .int a0), (3, .int pa0)]) hx hb dX5_added_1 hl (by decide) rfl (fun ls hl => ?_)
  refine lv_iconst (v := 0) hx hb dX5_added_3 (by decide) ?_
  refine lv_istore (lv' := [(5, .int 0), (4, .int a0), (0, .ref (β 19)), (1, .int k0), (2, .int a0), (3, .int pa0)]) hx hb dX5_added_4 hl (by decide) rfl (fun ls hl => ?_)
  have loop : ∀ (n_ : Nat) (q : Nat) (r : Int32) (ls : Array Slot), K 2 - q < n_ → (q ≤ K 2) → (r = fAdd (mw μ) (fun t => μ 17 t = 110) (μ 22 0) (μ 23 0) k0 pa0 q a0) → lv_has ls 6 [(0, .ref (β 19)), (1, .int k0), (2, .int a0), (3, .int pa0), (4, .int r), (5, .int (nI q))] → W p_ l e_ ({ frames := 0, cells := 0, slots := 0, locals := 0 } : Room) s m args below meth c s.heap [] 0 0 (vx_MQ below (gQR (gPi (fun r => r = fAdd (mw μ) (fun t => μ 17 t = 110) (μ 22 0) (μ 23 0) k0 pa0 (K 2) a0))) (gX (fun _ => False)) args s 0 0 gN) (F0 m 6 ls []) := by
    intro n_
    induction n_ with
    | zero => intro q r ls h_; exact absurd h_ (Nat.not_lt_zero _)
    | succ n_ ih_loop =>
      intro q r ls hn_ i1 i2 hl
      refine lv_iload hx hb dX5_added_6 (lv_at hl 5 rfl) ?_
      refine lv_aload_n hx hb dX5_added_8 rfl (lv_at hl 0 rfl) ?_
      refine g_get (v := .int (nI (K 2))) hC hR.obj (C := RX5) (T := TX5) (N := 26) rfl u5_in 21 (by decide) k_1017 rfl dX5_added_9 ?_
      refine lv_icmp_ge (tgt := 90) hx hb dX5_added_12 (by decide) (fun c1_ => ?_) (fun c1_ => ?_)
      · have n2_ : (K 2) ≤ q := le_nI (by omega) (by omega) c1_
        refine lv_iload hx hb dX5_added_90 (lv_at hl 4 rfl) ?_
        exact g_iret hC hr dX5_added_92 (Nat.le_of_ble_eq_true rfl) (Nat.le_of_ble_eq_true rfl) (by rw [i2, show q = K 2 by omega])
      · have n2_ : q < (K 2) := not_le_nI (by omega) (by omega) c1_
        refine lv_iload hx hb dX5_added_15 (lv_at hl 4 rfl) ?_
        refine lv_aload_n hx hb dX5_added_17 rfl (lv_at hl 0 rfl) ?_
        refine g_get (v := .ref (β 10)) hC hR.obj (C := RX5) (T := TX5) (N := 26) rfl u5_in 10 (by decide) k_1006 rfl dX5_added_18 ?_
        refine lv_iload hx hb dX5_added_21 (lv_at hl 5 rfl) ?_
        refine g_iald (n := 24) (f := μ 10) (j := q) hC (hR.arr 10 (by decide) rfl rfl) (by omega) (by decide) dX5_added_23 ?_
        refine lv_iload_n hx hb dX5_added_24 rfl (lv_at hl 1 rfl) ?_
        refine lv_icmp_ne (tgt := 80) hx hb dX5_added_25 (by decide) (fun c3_ => ?_) (fun c3_ => ?_)
        · refine lv_iconst (v := 0) hx hb dX5_added_80 (by decide) ?_
          refine lv_iadd hx hb dX5_added_81 ?_
          refine lv_istore (lv' := [(4, .int (r + 0)), (0, .ref (β 19)), (1, .int k0), (2, .int a0), (3, .int pa0), (5, .int (nI q))]) hx hb dX5_added_82 hl (by decide) rfl (fun ls hl => ?_)
          refine lv_iinc (v := nI (q + 1)) (lv' := [(5, .int (nI (q + 1))), (4, .int (r + 0)), (0, .ref (β 19)), (1, .int k0), (2, .int a0), (3, .int pa0)]) hx hb dX5_added_84 hl (k := 5) rfl (g_inc _) (by decide) rfl (fun ls hl => ?_)
          refine lv_goto (tgt := 6) hx hb dX5_added_87 (by decide) ?_
          exact ih_loop (q + 1) (r + 0) ls (by omega) (by omega) (by rw [i2, Int32.add_zero]; exact (cif_neg (by
            rintro ⟨z1, z2, z3, z4⟩
            first
            | exact absurd z1 (by assumption)
            | exact absurd z2 (by assumption)
            | exact absurd (by assumption) z3
            | exact absurd z4 (Int32.not_lt.mpr (by assumption)))).symm) (lv_sub hl [2, 3, 4, 5, 1, 0] rfl)
        · refine lv_aload_n hx hb dX5_added_28 rfl (lv_at hl 0 rfl) ?_
          refine g_get (v := .ref (β 12)) hC hR.obj (C := RX5) (T := TX5) (N := 26) rfl u5_in 12 (by decide) k_1008 rfl dX5_added_29 ?_
          refine lv_iload hx hb dX5_added_32 (lv_at hl 5 rfl) ?_
          refine g_iald (n := 24) (f := μ 12) (j := q) hC (hR.arr 12 (by decide) rfl rfl) (by omega) (by decide) dX5_added_34 ?_
          refine lv_iload_n hx hb dX5_added_35 rfl (lv_at hl 3 rfl) ?_
          refine lv_icmp_ne (tgt := 80) hx hb dX5_added_36 (by decide) (fun c4_ => ?_) (fun c4_ => ?_)
          · refine lv_iconst (v := 0) hx hb dX5_added_80 (by decide) ?_
            refine lv_iadd hx hb dX5_added_81 ?_
            refine lv_istore (lv' := [(4, .int (r + 0)), (0, .ref (β 19)), (1, .int k0), (2, .int a0), (3, .int pa0), (5, .int (nI q))]) hx hb dX5_added_82 hl (by decide) rfl (fun ls hl => ?_)
            refine lv_iinc (v := nI (q + 1)) (lv' := [(5, .int (nI (q + 1))), (4, .int (r + 0)), (0, .ref (β 19)), (1, .int k0), (2, .int a0), (3, .int pa0)]) hx hb dX5_added_84 hl (k := 5) rfl (g_inc _) (by decide) rfl (fun ls hl => ?_)
            refine lv_goto (tgt := 6) hx hb dX5_added_87 (by decide) ?_
            exact ih_loop (q + 1) (r + 0) ls (by omega) (by omega) (by rw [i2, Int32.add_zero]; exact (cif_neg (by
            rintro ⟨z1, z2, z3, z4⟩
            first
            | exact absurd z1 (by assumption)
            | exact absurd z2 (by assumption)
            | exact absurd (by assumption) z3
            | exact absurd z4 (Int32.not_lt.mpr (by assumption)))).symm) (lv_sub hl [2, 3, 4, 5, 1, 0] rfl)
          · refine lv_aload_n hx hb dX5_added_39 rfl (lv_at hl 0 rfl) ?_
            refine g_get (v := .ref (β 17)) hC hR.obj (C := RX5) (T := TX5) (N := 26) rfl u5_in 17 (by decide) k_1013 rfl dX5_added_40 ?_
            refine lv_iload hx hb dX5_added_43 (lv_at hl 5 rfl) ?_
            refine g_cald (n := 24) (f := μ 17) (j := q) hC (hR.arr 17 (by decide) rfl rfl) (by omega) (by decide) dX5_added_45 ?_
            refine lv_bipush (v := 110) hx hb dX5_added_46 (by decide) ?_
            refine lv_icmp_eq (tgt := 80) hx hb dX5_added_48 (by decide) (fun c5_ => ?_) (fun c5_ => ?_)
            · refine lv_iconst (v := 0) hx hb dX5_added_80 (by decide) ?_
              refine lv_iadd hx hb dX5_added_81 ?_
              refine lv_istore (lv' := [(4, .int (r + 0)), (0, .ref (β 19)), (1, .int k0), (2, .int a0), (3, .int pa0), (5, .int (nI q))]) hx hb dX5_added_82 hl (by decide) rfl (fun ls hl => ?_)
              refine lv_iinc (v := nI (q + 1)) (lv' := [(5, .int (nI (q + 1))), (4, .int (r + 0)), (0, .ref (β 19)), (1, .int k0), (2, .int a0), (3, .int pa0)]) hx hb dX5_added_84 hl (k := 5) rfl (g_inc _) (by decide) rfl (fun ls hl => ?_)
              refine lv_goto (tgt := 6) hx hb dX5_added_87 (by decide) ?_
              exact ih_loop (q + 1) (r + 0) ls (by omega) (by omega) (by rw [i2, Int32.add_zero]; exact (cif_neg (by
            rintro ⟨z1, z2, z3, z4⟩
            first
            | exact absurd z1 (by assumption)
            | exact absurd z2 (by assumption)
            | exact absurd (by assumption) z3
            | exact absurd z4 (Int32.not_lt.mpr (by assumption)))).symm) (lv_sub hl [2, 3, 4, 5, 1, 0] rfl)
            · refine lv_aload_n hx hb dX5_added_51 rfl (lv_at hl 0 rfl) ?_
              refine g_get (v := .int (μ 22 0)) hC hR.obj (C := RX5) (T := TX5) (N := 26) rfl u5_in 22 (by decide) k_1018 rfl dX5_added_52 ?_
              refine lv_aload_n hx hb dX5_added_55 rfl (lv_at hl 0 rfl) ?_
              refine g_get (v := .ref (β 13)) hC hR.obj (C := RX5) (T := TX5) (N := 26) rfl u5_in 13 (by decide) k_1009 rfl dX5_added_56 ?_
              refine lv_iload hx hb dX5_added_59 (lv_at hl 5 rfl) ?_
              refine g_iald (n := 24) (f := μ 13) (j := q) hC (hR.arr 13 (by decide) rfl rfl) (by omega) (by decide) dX5_added_61 ?_
              refine lv_isub hx hb dX5_added_62 ?_
              refine lv_aload_n hx hb dX5_added_63 rfl (lv_at hl 0 rfl) ?_
              refine g_get (v := .int (μ 23 0)) hC hR.obj (C := RX5) (T := TX5) (N := 26) rfl u5_in 23 (by decide) k_1019 rfl dX5_added_64 ?_
              refine lv_icmp_ge (tgt := 80) hx hb dX5_added_67 (by decide) (fun c6_ => ?_) (fun c6_ => ?_)
              · refine lv_iconst (v := 0) hx hb dX5_added_80 (by decide) ?_
                refine lv_iadd hx hb dX5_added_81 ?_
                refine lv_istore (lv' := [(4, .int (r + 0)), (0, .ref (β 19)), (1, .int k0), (2, .int a0), (3, .int pa0), (5, .int (nI q))]) hx hb dX5_added_82 hl (by decide) rfl (fun ls hl => ?_)
                refine lv_iinc (v := nI (q + 1)) (lv' := [(5, .int (nI (q + 1))), (4, .int (r + 0)), (0, .ref (β 19)), (1, .int k0), (2, .int a0), (3, .int pa0)]) hx hb dX5_added_84 hl (k := 5) rfl (g_inc _) (by decide) rfl (fun ls hl => ?_)
                refine lv_goto (tgt := 6) hx hb dX5_added_87 (by decide) ?_
                exact ih_loop (q + 1) (r + 0) ls (by omega) (by omega) (by rw [i2, Int32.add_zero]; exact (cif_neg (by
            rintro ⟨z1, z2, z3, z4⟩
            first
            | exact absurd z1 (by assumption)
            | exact absurd z2 (by assumption)
            | exact absurd (by assumption) z3
            | exact absurd z4 (Int32.not_lt.mpr (by assumption)))).symm) (lv_sub hl [2, 3, 4, 5, 1, 0] rfl)
              · refine lv_aload_n hx hb dX5_added_70 rfl (lv_at hl 0 rfl) ?_
                refine g_get (v := .ref (β 11)) hC hR.obj (C := RX5) (T := TX5) (N := 26) rfl u5_in 11 (by decide) k_1007 rfl dX5_added_71 ?_
                refine lv_iload hx hb dX5_added_74 (lv_at hl 5 rfl) ?_
                refine g_iald (n := 24) (f := μ 11) (j := q) hC (hR.arr 11 (by decide) rfl rfl) (by omega) (by decide) dX5_added_76 ?_
                refine lv_goto (tgt := 81) hx hb dX5_added_77 (by decide) ?_
                refine lv_iadd hx hb dX5_added_81 ?_
                refine lv_istore (lv' := [(4, .int (r + (μ 11 q))), (0, .ref (β 19)), (1, .int k0), (2, .int a0), (3, .int pa0), (5, .int (nI q))]) hx hb dX5_added_82 hl (by decide) rfl (fun ls hl => ?_)
                refine lv_iinc (v := nI (q + 1)) (lv' := [(5, .int (nI (q + 1))), (4, .int (r + (μ 11 q))), (0, .ref (β 19)), (1, .int k0), (2, .int a0), (3, .int pa0)]) hx hb dX5_added_84 hl (k := 5) rfl (g_inc _) (by decide) rfl (fun ls hl => ?_)
                refine lv_goto (tgt := 6) hx hb dX5_added_87 (by decide) ?_
                exact ih_loop (q + 1) (r + (μ 11 q)) ls (by omega) (by omega) (by rw [i2]; exact (cif_pos ⟨by assumption, by assumption, by assumption, Int32.not_le.mp (by assumption)⟩).symm) (lv_sub hl [2, 3, 4, 5, 1, 0] rfl)
  exact loop ((K 2 - (0)) + 1) 0 a0 ls (by omega) (by omega) rfl (lv_sub hl [2, 3, 4, 5, 1, 0] rfl)
