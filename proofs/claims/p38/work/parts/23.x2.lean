set_option maxHeartbeats 4000000 in
set_option maxRecDepth 100000 in
theorem c_X1_stepsToFault {l : Launch} {E : gV} (hE : gOK l E) {α : Nat → Nat → Nat} {ξ : F2} {M : Nat → F2} {N : Nat → Nat}(w : Nat) (hw : w < 2) (i : Nat) (hi : i < N 0) (s0 : Int32) : gM l E yX1_stepsToFault cX1_stepsToFault 6 (some .int) ({ frames := 2, cells := 0, slots := 0, locals := 44 } : Room) [.ref (α 3 (4 + w)), .ref (α 0 i), .int s0] (fun H => RX E α ξ M N H) (gQR (gPi (fun r => r = fStep (xv ξ (M w)) (M w 5 0) s0 i))) (fun _ => False) gN := by
  refine gM_body hE (by decide +kernel) (Nat.le_of_ble_eq_true rfl) ?_
  intro p_ e_ s m args below meth c hC ht hr hname hP ls hl
  have hx := hC.2.2.1
  have hb := hC.2.2.2.1
  have hl : lv_has ls 6 [(0, .ref (α 3 (4 + w))), (1, .ref (α 0 i)), (2, .int s0)] := hl
  have hR : RX E α ξ M N s.heap := hP
  have hSr := hR.inv.src (M 0)
  obtain ⟨hN0, hN1, hN2, hN3, -, hHo, hDe⟩ := hR.inv
  have hSw := hR.inv.src (M w)
  refine lv_iconst (v := (-1)) hx hb dX1_stepsToFault_0 (by decide) ?_
  refine lv_istore_n (lv' := [(3, .int ((-1))), (0, .ref (α 3 (4 + w))), (1, .ref (α 0 i)), (2, .int s0)]) hx hb dX1_stepsToFault_1 rfl hl (by decide) rfl (fun ls hl => ?_)
  refine lv_iconst (v := 0) hx hb dX1_stepsToFault_2 (by decide) ?_
  refine lv_istore (lv' := [(4, .int 0), (3, .int ((-1))), (0, .ref (α 3 (4 + w))), (1, .ref (α 0 i)), (2, .int s0)]) hx hb dX1_stepsToFault_3 hl (by decide) rfl (fun ls hl => ?_)
  refine lv_aload_n hx hb dX1_stepsToFault_5 rfl (lv_at hl 3 rfl) ?_
  refine lv_astore (lv' := [(5, .ref (α 0 i)), (4, .int 0), (3, .int ((-1))), (0, .ref (α 3 (4 + w))), (1, .ref (α 0 i)), (2, .int s0)]) hx hb dX1_stepsToFault_6 hl (by decide) rfl (fun ls hl => ?_)
  have loop : ∀ (n_ : Nat) (q : Nat) (f : Int32) (n : Nat) (ls : Array Slot), q < n_ → (q < N 0) → (fStV (xv ξ (M w)) (M w 5 0) s0 q f n = fStep (xv ξ (M w)) (M w 5 0) s0 i) → lv_has ls 6 [(0, .ref (α 3 (4 + w))), (1, .ref (α 0 i)), (2, .int s0), (3, .int f), (4, .int (nI n)), (5, .ref (α 0 q))] → W p_ l e_ ({ frames := 2, cells := 0, slots := 0, locals := 44 } : Room) s m args below meth c s.heap [] 0 0 (vx_MQ below (gQR (gPi (fun r => r = fStep (xv ξ (M w)) (M w 5 0) s0 i))) (gX (fun _ => False)) args s 0 0 gN) (F0 m 8 ls []) := by
    intro n_
    induction n_ with
    | zero => intro q f n ls h_; exact absurd h_ (Nat.not_lt_zero _)
    | succ n_ ih_loop =>
      intro q f n ls hn_ i1 i2 hl
      refine lv_aload hx hb dX1_stepsToFault_8 (lv_at hl 5 rfl) ?_
      refine lv_ifnull hx hb dX1_stepsToFault_10 ?_
      refine lv_aload_n hx hb dX1_stepsToFault_13 rfl (lv_at hl 0 rfl) ?_
      refine lv_aload hx hb dX1_stepsToFault_14 (lv_at hl 5 rfl) ?_
      refine lv_iload_n hx hb dX1_stepsToFault_16 rfl (lv_at hl 2 rfl) ?_
      refine g_cRi (k2 := 0) (n2 := 0) (g_runV (rest := []) hC (c_X1_ownFault hE (α := α) (ξ := ξ) (M := M) (N := N) w hw q (by omega) s0) Y_X1_ownFault k_409 I_X1_ownFault V_X1_ownFault (hR.mom w hw) rfl hR rfl hl.1 dX1_stepsToFault_17 ⟨Nat.le_of_ble_eq_true rfl, Nat.le_of_ble_eq_true rfl⟩ ⟨Nat.le_of_ble_eq_true rfl, Nat.le_of_ble_eq_true rfl⟩ rfl (Nat.le_of_ble_eq_true rfl)) rfl rfl g_no (fun r1_ h2_ => ?_)
      refine lv_bipush (v := 45) hx hb dX1_stepsToFault_20 (by decide) ?_
      refine lv_icmp_eq (tgt := 28) hx hb dX1_stepsToFault_22 (by decide) (fun c3_ => ?_) (fun c3_ => ?_)
      · refine lv_iinc (v := nI (n + 1)) (lv' := [(4, .int (nI (n + 1))), (0, .ref (α 3 (4 + w))), (1, .ref (α 0 i)), (2, .int s0), (3, .int f), (5, .ref (α 0 q))]) hx hb dX1_stepsToFault_28 hl (k := 4) rfl (g_inc _) (by decide) rfl (fun ls hl => ?_)
        refine lv_aload hx hb dX1_stepsToFault_31 (lv_at hl 5 rfl) ?_
        refine g_get (v := srcV α (ξ 6 q)) hC (hR.pow (i := q) (by omega)) (C := RX3) (T := TX3) (N := 7) rfl u3_in 6 (by decide) k_804 rfl dX1_stepsToFault_33 ?_
        rcases hSr q (by omega) with hs5_ | ⟨q4_, hq6_, hs5_⟩
        · have hs5_ : ξ 6 q < 0 := hs5_
          rw [srcV_n hs5_]
          refine lv_astoreN (lv' := [(5, .null), (4, .int (nI (n + 1))), (0, .ref (α 3 (4 + w))), (1, .ref (α 0 i)), (2, .int s0), (3, .int f)]) hx hb dX1_stepsToFault_36 hl (by decide) rfl (fun ls hl => ?_)
          refine lv_goto (tgt := 8) hx hb dX1_stepsToFault_38 (by decide) ?_
          refine lv_aloadN hx hb dX1_stepsToFault_8 (lv_at hl 0 rfl) ?_
          refine lv_ifnullN (tgt := 41) hx hb dX1_stepsToFault_10 (by decide) ?_
          refine lv_iload_n hx hb dX1_stepsToFault_41 rfl (lv_at hl 5 rfl) ?_
          exact g_iret hC hr dX1_stepsToFault_42 (Nat.le_of_ble_eq_true rfl) (Nat.le_of_ble_eq_true rfl) (by rw [← i2, fStV_0 (show xv ξ (M w) 4 q < 0 from hs5_), if_pos (by rw [← h2_]; assumption)])
        · have hs5_ : ξ 6 q = nI q4_ := hs5_
          rw [srcV_s hs5_ (by omega)]
          refine lv_astore (lv' := [(5, .ref (α 0 q4_)), (4, .int (nI (n + 1))), (0, .ref (α 3 (4 + w))), (1, .ref (α 0 i)), (2, .int s0), (3, .int f)]) hx hb dX1_stepsToFault_36 hl (by decide) rfl (fun ls hl => ?_)
          refine lv_goto (tgt := 8) hx hb dX1_stepsToFault_38 (by decide) ?_
          exact ih_loop q4_ f (n + 1) ls (by omega) (by omega) (by rw [← i2, fStV_s hSw (by omega) i1 hq6_ (show xv ξ (M w) 4 q = nI q4_ from hs5_), if_pos (by rw [← h2_]; assumption)]) (lv_sub hl [2, 3, 4, 5, 1, 0] rfl)
      · refine lv_iload hx hb dX1_stepsToFault_25 (lv_at hl 4 rfl) ?_
        refine lv_istore_n (lv' := [(3, .int (nI n)), (0, .ref (α 3 (4 + w))), (1, .ref (α 0 i)), (2, .int s0), (4, .int (nI n)), (5, .ref (α 0 q))]) hx hb dX1_stepsToFault_27 rfl hl (by decide) rfl (fun ls hl => ?_)
        refine lv_iinc (v := nI (n + 1)) (lv' := [(4, .int (nI (n + 1))), (3, .int (nI n)), (0, .ref (α 3 (4 + w))), (1, .ref (α 0 i)), (2, .int s0), (5, .ref (α 0 q))]) hx hb dX1_stepsToFault_28 hl (k := 4) rfl (g_inc _) (by decide) rfl (fun ls hl => ?_)
        refine lv_aload hx hb dX1_stepsToFault_31 (lv_at hl 5 rfl) ?_
        refine g_get (v := srcV α (ξ 6 q)) hC (hR.pow (i := q) (by omega)) (C := RX3) (T := TX3) (N := 7) rfl u3_in 6 (by decide) k_804 rfl dX1_stepsToFault_33 ?_
        rcases hSr q (by omega) with hs8_ | ⟨q7_, hq9_, hs8_⟩
        · have hs8_ : ξ 6 q < 0 := hs8_
          rw [srcV_n hs8_]
          refine lv_astoreN (lv' := [(5, .null), (4, .int (nI (n + 1))), (3, .int (nI n)), (0, .ref (α 3 (4 + w))), (1, .ref (α 0 i)), (2, .int s0)]) hx hb dX1_stepsToFault_36 hl (by decide) rfl (fun ls hl => ?_)
          refine lv_goto (tgt := 8) hx hb dX1_stepsToFault_38 (by decide) ?_
          refine lv_aloadN hx hb dX1_stepsToFault_8 (lv_at hl 0 rfl) ?_
          refine lv_ifnullN (tgt := 41) hx hb dX1_stepsToFault_10 (by decide) ?_
          refine lv_iload_n hx hb dX1_stepsToFault_41 rfl (lv_at hl 2 rfl) ?_
          exact g_iret hC hr dX1_stepsToFault_42 (Nat.le_of_ble_eq_true rfl) (Nat.le_of_ble_eq_true rfl) (by rw [← i2, fStV_0 (show xv ξ (M w) 4 q < 0 from hs8_), if_neg (by rw [← h2_]; assumption)])
        · have hs8_ : ξ 6 q = nI q7_ := hs8_
          rw [srcV_s hs8_ (by omega)]
          refine lv_astore (lv' := [(5, .ref (α 0 q7_)), (4, .int (nI (n + 1))), (3, .int (nI n)), (0, .ref (α 3 (4 + w))), (1, .ref (α 0 i)), (2, .int s0)]) hx hb dX1_stepsToFault_36 hl (by decide) rfl (fun ls hl => ?_)
          refine lv_goto (tgt := 8) hx hb dX1_stepsToFault_38 (by decide) ?_
          exact ih_loop q7_ (nI n) (n + 1) ls (by omega) (by omega) (by rw [← i2, fStV_s hSw (by omega) i1 hq9_ (show xv ξ (M w) 4 q = nI q7_ from hs8_), if_neg (by rw [← h2_]; assumption)]) (lv_sub hl [3, 4, 5, 2, 1, 0] rfl)
  exact loop (((i)) + 1) i (-1) 0 ls (by omega) hi (fStV_i _ _ _ _) (lv_sub hl [3, 4, 5, 2, 1, 0] rfl)
set_option maxHeartbeats 4000000 in
set_option maxRecDepth 100000 in
theorem c_X3_comesFrom {l : Launch} {E : gV} (hE : gOK l E) {α : Nat → Nat → Nat} {ξ : F2} {M : Nat → F2} {N : Nat → Nat} (p o : Nat) (hp : p < N 0) (ho : o < N 0) : gM l E yX3_comesFrom cX3_comesFrom 3 (some .boolean) ({ frames := 0, cells := 0, slots := 0, locals := 0 } : Room) [.ref (α 0 p), .ref (α 0 o)] (fun H => RX E α ξ M N H) (gQR (gPi (bz (fCome (xv ξ (M 0)) p o)))) (fun _ => False) gN := by
  refine gM_body hE (by decide +kernel) (Nat.le_of_ble_eq_true rfl) ?_
  intro p_ e_ s m args below meth c hC ht hr hname hP ls hl
  have hx := hC.2.2.1
  have hb := hC.2.2.2.1
  have hl : lv_has ls 3 [(0, .ref (α 0 p)), (1, .ref (α 0 o))] := hl
  have hR : RX E α ξ M N s.heap := hP
  have hSr := hR.inv.src (M 0)
  obtain ⟨hN0, hN1, hN2, hN3, -, hHo, hDe⟩ := hR.inv
  refine lv_aload_n hx hb dX3_comesFrom_0 rfl (lv_at hl 0 rfl) ?_
  refine lv_astore_n (lv' := [(2, .ref (α 0 p)), (0, .ref (α 0 p)), (1, .ref (α 0 o))]) hx hb dX3_comesFrom_1 rfl hl (by decide) rfl (fun ls hl => ?_)
  have loop : ∀ (n_ : Nat) (q : Nat) (ls : Array Slot), q < n_ → (q < N 0) → (fCome (xv ξ (M 0)) q o ↔ fCome (xv ξ (M 0)) p o) → lv_has ls 3 [(0, .ref (α 0 p)), (1, .ref (α 0 o)), (2, .ref (α 0 q))] → W p_ l e_ ({ frames := 0, cells := 0, slots := 0, locals := 0 } : Room) s m args below meth c s.heap [] 0 0 (vx_MQ below (gQR (gPi (bz (fCome (xv ξ (M 0)) p o)))) (gX (fun _ => False)) args s 0 0 gN) (F0 m 2 ls []) := by
    intro n_
    induction n_ with
    | zero => intro q ls h_; exact absurd h_ (Nat.not_lt_zero _)
    | succ n_ ih_loop =>
      intro q ls hn_ i1 i2 hl
      refine lv_aload_n hx hb dX3_comesFrom_2 rfl (lv_at hl 2 rfl) ?_
      refine lv_ifnull hx hb dX3_comesFrom_3 ?_
      refine lv_aload_n hx hb dX3_comesFrom_6 rfl (lv_at hl 2 rfl) ?_
      refine lv_aload_n hx hb dX3_comesFrom_7 rfl (lv_at hl 1 rfl) ?_
      refine W.eq (g2 := F0 m 8 ls (va_rf (some (α 0 o)) :: va_rf (some (α 0 q)) :: [])) rfl ?_
      refine lv_acmp_ne (tgt := 13) hx hb dX3_comesFrom_8 (by decide) (fun c1_ => ?_) (fun c1_ => ?_)
      · have hne : ¬ q = o := fun z => c1_ (by rw [z])
        refine lv_aload_n hx hb dX3_comesFrom_13 rfl (lv_at hl 2 rfl) ?_
        refine g_get (v := srcV α (ξ 6 q)) hC (hR.pow (i := q) (by omega)) (C := RX3) (T := TX3) (N := 7) rfl u3_in 6 (by decide) k_803 rfl dX3_comesFrom_14 ?_
        rcases hSr q (by omega) with hs3_ | ⟨q2_, hq4_, hs3_⟩
        · have hs3_ : ξ 6 q < 0 := hs3_
          rw [srcV_n hs3_]
          refine lv_astore_nN (lv' := [(2, .null), (0, .ref (α 0 p)), (1, .ref (α 0 o))]) hx hb dX3_comesFrom_17 rfl hl (by decide) rfl (fun ls hl => ?_)
          refine lv_goto (tgt := 2) hx hb dX3_comesFrom_18 (by decide) ?_
          refine lv_aload_nN hx hb dX3_comesFrom_2 rfl (lv_at hl 0 rfl) ?_
          refine lv_ifnullN (tgt := 21) hx hb dX3_comesFrom_3 (by decide) ?_
          refine lv_iconst (v := 0) hx hb dX3_comesFrom_21 (by decide) ?_
          exact g_zret hC hr rfl dX3_comesFrom_22 (Nat.le_of_ble_eq_true rfl) (Nat.le_of_ble_eq_true rfl) (bz_0 (fun z => hne ((fCome_0 (show xv ξ (M 0) 4 q < 0 from hs3_)).mp (i2.mpr z))))
        · have hs3_ : ξ 6 q = nI q2_ := hs3_
          rw [srcV_s hs3_ (by omega)]
          refine lv_astore_n (lv' := [(2, .ref (α 0 q2_)), (0, .ref (α 0 p)), (1, .ref (α 0 o))]) hx hb dX3_comesFrom_17 rfl hl (by decide) rfl (fun ls hl => ?_)
          refine lv_goto (tgt := 2) hx hb dX3_comesFrom_18 (by decide) ?_
          exact ih_loop q2_ ls (by omega) (by omega) (by rw [← i2, fCome_s hSr (by omega) i1 hq4_ (show xv ξ (M 0) 4 q = nI q2_ from hs3_)]; exact ⟨Or.inr, fun z => z.resolve_left hne⟩) (lv_sub hl [1, 2, 0] rfl)
      · have hqe : q = o := (hR.apart (k := 0) (k' := 0) (Or.inl ⟨by decide, by omega⟩) (Or.inl ⟨by decide, by omega⟩) (by simpa using c1_)).2
        refine lv_iconst (v := 1) hx hb dX3_comesFrom_11 (by decide) ?_
        exact g_zret hC hr rfl dX3_comesFrom_12 (Nat.le_of_ble_eq_true rfl) (Nat.le_of_ble_eq_true rfl) (bz_1 (i2.mp (fCome_r hqe)))
  exact loop (((p)) + 1) p ls (by omega) hp Iff.rfl (lv_sub hl [1, 2, 0] rfl)
set_option maxHeartbeats 4000000 in
set_option maxRecDepth 100000 in
theorem c_X0_isStanding {l : Launch} {E : gV} (hE : gOK l E) {α : Nat → Nat → Nat} {ξ : F2} {M : Nat → F2} {N : Nat → Nat} (i : Nat) (hi : i < N 1) : gM l E yX0_isStanding cX0_isStanding 1 (some .boolean) ({ frames := 0, cells := 0, slots := 0, locals := 0 } : Room) [.ref (α 1 i)] (fun H => RX E α ξ M N H) (gQR (gPi (bz (isGd (ξ 19 i))))) (fun _ => False) gN := by
  refine gM_body hE (by decide +kernel) (Nat.le_of_ble_eq_true rfl) ?_
  intro p_ e_ s m args below meth c hC ht hr hname hP ls hl
  have hx := hC.2.2.1
  have hb := hC.2.2.2.1
  have hl : lv_has ls 1 [(0, .ref (α 1 i))] := hl
  have hR : RX E α ξ M N s.heap := hP
  have hSr := hR.inv.src (M 0)
  obtain ⟨hN0, hN1, hN2, hN3, -, hHo, hDe⟩ := hR.inv
  refine lv_aload_n hx hb dX0_isStanding_0 rfl (lv_at hl 0 rfl) ?_
  refine g_get (v := .int (ξ 19 i)) hC (hR.deed (i := i) (by omega)) (C := RX0) (T := TX0) (N := 16) rfl u0_in 9 (by decide) k_316 rfl dX0_isStanding_1 ?_
  refine lv_bipush (v := 115) hx hb dX0_isStanding_4 (by decide) ?_
  refine lv_icmp_eq (tgt := 18) hx hb dX0_isStanding_6 (by decide) (fun c1_ => ?_) (fun c1_ => ?_)
  · refine lv_iconst (v := 1) hx hb dX0_isStanding_18 (by decide) ?_
    refine lv_goto (tgt := 23) hx hb dX0_isStanding_19 (by decide) ?_
    exact g_zret hC hr rfl dX0_isStanding_23 (Nat.le_of_ble_eq_true rfl) (Nat.le_of_ble_eq_true rfl) (bz_1 (by unfold isGd; grind))
  · refine lv_aload_n hx hb dX0_isStanding_9 rfl (lv_at hl 0 rfl) ?_
    refine g_get (v := .int (ξ 19 i)) hC (hR.deed (i := i) (by omega)) (C := RX0) (T := TX0) (N := 16) rfl u0_in 9 (by decide) k_316 rfl dX0_isStanding_10 ?_
    refine lv_bipush (v := 114) hx hb dX0_isStanding_13 (by decide) ?_
    refine lv_icmp_ne (tgt := 22) hx hb dX0_isStanding_15 (by decide) (fun c2_ => ?_) (fun c2_ => ?_)
    · refine lv_iconst (v := 0) hx hb dX0_isStanding_22 (by decide) ?_
      exact g_zret hC hr rfl dX0_isStanding_23 (Nat.le_of_ble_eq_true rfl) (Nat.le_of_ble_eq_true rfl) (bz_0 (by unfold isGd; grind))
    · refine lv_iconst (v := 1) hx hb dX0_isStanding_18 (by decide) ?_
      refine lv_goto (tgt := 23) hx hb dX0_isStanding_19 (by decide) ?_
      exact g_zret hC hr rfl dX0_isStanding_23 (Nat.le_of_ble_eq_true rfl) (Nat.le_of_ble_eq_true rfl) (bz_1 (by unfold isGd; grind))
set_option maxHeartbeats 4000000 in
set_option maxRecDepth 100000 in
theorem c_X4_handsOf {l : Launch} {E : gV} (hE : gOK l E) {α : Nat → Nat → Nat} {ξ : F2} {M : Nat → F2} {N : Nat → Nat} (i k0 s0 : Int32)(w : Nat) (hw : w < 2) : gM l E yX4_handsOf cX4_handsOf 8 (some .int) ({ frames := 3, cells := 0, slots := 0, locals := 69 } : Room) [.ref (α 3 0), .int i, .int k0, .int s0, .ref (α 3 (4 + w))] (fun H => RX E α ξ M N H) (gQR (gPi (fun r => r = fHnd (xv ξ (M w)) (M w 5 0) i k0 s0 (N 0)))) (fun _ => False) gN := by
  refine gM_body hE (by decide +kernel) (Nat.le_of_ble_eq_true rfl) ?_
  intro p_ e_ s m args below meth c hC ht hr hname hP ls hl
  have hx := hC.2.2.1
  have hb := hC.2.2.2.1
  have hl : lv_has ls 8 [(0, .ref (α 3 0)), (1, .int i), (2, .int k0), (3, .int s0), (4, .ref (α 3 (4 + w)))] := hl
  have hR : RX E α ξ M N s.heap := hP
  have hSr := hR.inv.src (M 0)
  obtain ⟨hN0, hN1, hN2, hN3, -, hHo, hDe⟩ := hR.inv
  refine lv_iconst (v := 0) hx hb dX4_handsOf_0 (by decide) ?_
  refine lv_istore (lv' := [(5, .int 0), (0, .ref (α 3 0)), (1, .int i), (2, .int k0), (3, .int s0), (4, .ref (α 3 (4 + w)))]) hx hb dX4_handsOf_1 hl (by decide) rfl (fun ls hl => ?_)
  refine lv_iconst (v := 0) hx hb dX4_handsOf_3 (by decide) ?_
  refine lv_istore (lv' := [(6, .int 0), (5, .int 0), (0, .ref (α 3 0)), (1, .int i), (2, .int k0), (3, .int s0), (4, .ref (α 3 (4 + w)))]) hx hb dX4_handsOf_4 hl (by decide) rfl (fun ls hl => ?_)
  have loop : ∀ (n_ : Nat) (q : Nat) (r : Int32) (ls : Array Slot), N 0 - q < n_ → (q ≤ N 0) → (r = fHnd (xv ξ (M w)) (M w 5 0) i k0 s0 q) → lv_has ls 8 [(0, .ref (α 3 0)), (1, .int i), (2, .int k0), (3, .int s0), (4, .ref (α 3 (4 + w))), (5, .int r), (6, .int (nI q))] → W p_ l e_ ({ frames := 3, cells := 0, slots := 0, locals := 69 } : Room) s m args below meth c s.heap [] 0 0 (vx_MQ below (gQR (gPi (fun r => r = fHnd (xv ξ (M w)) (M w 5 0) i k0 s0 (N 0)))) (gX (fun _ => False)) args s 0 0 gN) (F0 m 6 ls []) := by
    intro n_
    induction n_ with
    | zero => intro q r ls h_; exact absurd h_ (Nat.not_lt_zero _)
    | succ n_ ih_loop =>
      intro q r ls hn_ i1 i2 hl
      refine lv_iload hx hb dX4_handsOf_6 (lv_at hl 6 rfl) ?_
      refine lv_aload_n hx hb dX4_handsOf_8 rfl (lv_at hl 0 rfl) ?_
      refine g_get (v := .ref (α 3 1)) hC hR.sig (C := RX4) (T := TX4) (N := 6) rfl u4_in 0 (by decide) k_726 rfl dX4_handsOf_9 ?_
      refine g_cRFi (k2 := 0) (n2 := 0) (g_runF (rest := [.int (nI q)]) hC (c_Jx4a65c_size_8abf5 hE (α 3 1) (α 3 (14 + 0)) (N 0) (α 0)) Y_Jx4a65c_size_8abf5 k_165 F_Jx4a65c_size_8abf5 (hR.list 0 (by decide)).rcv rfl (hR.list 0 (by decide)) rfl hl.1 dX4_handsOf_12 ⟨Nat.le_of_ble_eq_true rfl, Nat.le_of_ble_eq_true rfl⟩ ⟨Nat.le_of_ble_eq_true rfl, Nat.le_of_ble_eq_true rfl⟩ rfl (Nat.le_of_ble_eq_true rfl)) rfl rfl g_no (fun r1_ h2_ => ?_)
      obtain rfl := h2_
      refine lv_icmp_ge (tgt := 88) hx hb dX4_handsOf_17 (by decide) (fun c3_ => ?_) (fun c3_ => ?_)
      · have n4_ : (N 0) ≤ q := le_nI (by omega) (by omega) c3_
        refine lv_iload hx hb dX4_handsOf_88 (lv_at hl 5 rfl) ?_
        exact g_iret hC hr dX4_handsOf_90 (Nat.le_of_ble_eq_true rfl) (Nat.le_of_ble_eq_true rfl) (by rw [i2, show q = N 0 by omega])
      · have n4_ : q < (N 0) := not_le_nI (by omega) (by omega) c3_
        refine lv_aload_n hx hb dX4_handsOf_20 rfl (lv_at hl 0 rfl) ?_
        refine g_get (v := .ref (α 3 1)) hC hR.sig (C := RX4) (T := TX4) (N := 6) rfl u4_in 0 (by decide) k_726 rfl dX4_handsOf_21 ?_
        refine lv_iload hx hb dX4_handsOf_24 (lv_at hl 6 rfl) ?_
        refine g_cRFr (k2 := 0) (n2 := 0) (g_runF (rest := []) hC (c_Jx4a65c_get_915e3 hE (α 3 1) (α 3 (14 + 0)) (N 0) (α 0) (q) (by omega) (by omega)) Y_Jx4a65c_get_915e3 k_369 F_Jx4a65c_get_915e3 (hR.list 0 (by decide)).rcv rfl (hR.list 0 (by decide)) rfl hl.1 dX4_handsOf_26 ⟨Nat.le_of_ble_eq_true rfl, Nat.le_of_ble_eq_true rfl⟩ ⟨Nat.le_of_ble_eq_true rfl, Nat.le_of_ble_eq_true rfl⟩ rfl (Nat.le_of_ble_eq_true rfl)) rfl rfl g_no (fun r5_ h6_ => ?_)
        obtain rfl := h6_
        refine g_cast2 (T := TX3) (N := 7) hC (hR.pow (i := q) (by omega)) rfl k_399 dX4_handsOf_31 ?_
        refine lv_astore (lv' := [(7, .ref (α 0 q)), (0, .ref (α 3 0)), (1, .int i), (2, .int k0), (3, .int s0), (4, .ref (α 3 (4 + w))), (5, .int r), (6, .int (nI q))]) hx hb dX4_handsOf_34 hl (by decide) rfl (fun ls hl => ?_)
        refine lv_aload hx hb dX4_handsOf_36 (lv_at hl 0 rfl) ?_
        refine g_get (v := .int (ξ 2 q)) hC (hR.pow (i := q) (by omega)) (C := RX3) (T := TX3) (N := 7) rfl u3_in 2 (by decide) k_794 rfl dX4_handsOf_38 ?_
        refine lv_iload_n hx hb dX4_handsOf_41 rfl (lv_at hl 3 rfl) ?_
        refine lv_icmp_ne (tgt := 82) hx hb dX4_handsOf_42 (by decide) (fun c7_ => ?_) (fun c7_ => ?_)
        · refine lv_iinc (v := nI (q + 1)) (lv' := [(6, .int (nI (q + 1))), (7, .ref (α 0 q)), (0, .ref (α 3 0)), (1, .int i), (2, .int k0), (3, .int s0), (4, .ref (α 3 (4 + w))), (5, .int r)]) hx hb dX4_handsOf_82 hl (k := 7) rfl (g_inc _) (by decide) rfl (fun ls hl => ?_)
          refine lv_goto (tgt := 6) hx hb dX4_handsOf_85 (by decide) ?_
          exact ih_loop (q + 1) r ls (by omega) (by omega) (by rw [i2]; exact (cif_neg (fun z => absurd z.1 (by assumption))).symm) (lv_sub hl [2, 3, 4, 5, 6, 7, 0] rfl)
        · refine lv_aload hx hb dX4_handsOf_45 (lv_at hl 5 rfl) ?_
          refine lv_iload_n hx hb dX4_handsOf_47 rfl (lv_at hl 2 rfl) ?_
          refine lv_aload hx hb dX4_handsOf_48 (lv_at hl 0 rfl) ?_
          refine g_get (v := .int (ξ 1 q)) hC (hR.pow (i := q) (by omega)) (C := RX3) (T := TX3) (N := 7) rfl u3_in 1 (by decide) k_792 rfl dX4_handsOf_50 ?_
          obtain ⟨j_h, hj_h, ej_h⟩ := hHo q (by omega)
          rw [ej_h]
          refine g_cRi (k2 := 0) (n2 := 0) (g_runV (rest := []) hC (c_X1_actsByPowersOf hE (α := α) (ξ := ξ) (M := M) (N := N) w hw i j_h (by omega)) Y_X1_actsByPowersOf k_400 I_X1_actsByPowersOf V_X1_actsByPowersOf (hR.mom w hw) rfl hR rfl hl.1 dX4_handsOf_53 ⟨Nat.le_of_ble_eq_true rfl, Nat.le_of_ble_eq_true rfl⟩ ⟨Nat.le_of_ble_eq_true rfl, Nat.le_of_ble_eq_true rfl⟩ rfl (Nat.le_of_ble_eq_true rfl)) rfl rfl g_no (fun r8_ h9_ => ?_)
          refine lv_if_eq (tgt := 82) hx hb dX4_handsOf_56 (by decide) (fun c10_ => ?_) (fun c10_ => ?_)
          · have q11_ := bz.f h9_ c10_
            refine lv_iinc (v := nI (q + 1)) (lv' := [(6, .int (nI (q + 1))), (7, .ref (α 0 q)), (0, .ref (α 3 0)), (1, .int i), (2, .int k0), (3, .int s0), (4, .ref (α 3 (4 + w))), (5, .int r)]) hx hb dX4_handsOf_82 hl (k := 7) rfl (g_inc _) (by decide) rfl (fun ls hl => ?_)
            refine lv_goto (tgt := 6) hx hb dX4_handsOf_85 (by decide) ?_
            exact ih_loop (q + 1) r ls (by omega) (by omega) (by rw [i2]; exact (cif_neg (fun z => absurd (show fAct (xv ξ (M w)) i (nI j_h) from ej_h ▸ z.2.1) (by assumption))).symm) (lv_sub hl [2, 3, 4, 5, 6, 7, 0] rfl)
          · have q11_ := bz.t h9_ c10_
            refine lv_aload hx hb dX4_handsOf_59 (lv_at hl 5 rfl) ?_
            refine lv_aload hx hb dX4_handsOf_61 (lv_at hl 0 rfl) ?_
            refine lv_iload_n hx hb dX4_handsOf_63 rfl (lv_at hl 4 rfl) ?_
            refine g_cRi (k2 := 0) (n2 := 0) (g_runV (rest := []) hC (c_X1_faultOf hE (α := α) (ξ := ξ) (M := M) (N := N) w hw q (by omega) s0) Y_X1_faultOf k_405 I_X1_faultOf V_X1_faultOf (hR.mom w hw) rfl hR rfl hl.1 dX4_handsOf_64 ⟨Nat.le_of_ble_eq_true rfl, Nat.le_of_ble_eq_true rfl⟩ ⟨Nat.le_of_ble_eq_true rfl, Nat.le_of_ble_eq_true rfl⟩ rfl (Nat.le_of_ble_eq_true rfl)) rfl rfl g_no (fun r12_ h13_ => ?_)
            refine lv_bipush (v := 45) hx hb dX4_handsOf_67 (by decide) ?_
            refine lv_icmp_ne (tgt := 82) hx hb dX4_handsOf_69 (by decide) (fun c14_ => ?_) (fun c14_ => ?_)
            · refine lv_iinc (v := nI (q + 1)) (lv' := [(6, .int (nI (q + 1))), (7, .ref (α 0 q)), (0, .ref (α 3 0)), (1, .int i), (2, .int k0), (3, .int s0), (4, .ref (α 3 (4 + w))), (5, .int r)]) hx hb dX4_handsOf_82 hl (k := 7) rfl (g_inc _) (by decide) rfl (fun ls hl => ?_)
              refine lv_goto (tgt := 6) hx hb dX4_handsOf_85 (by decide) ?_
              exact ih_loop (q + 1) r ls (by omega) (by omega) (by rw [i2]; exact (cif_neg (fun z => absurd z.2.2 (by rw [← h13_]; assumption))).symm) (lv_sub hl [2, 3, 4, 5, 6, 7, 0] rfl)
            · refine lv_iload hx hb dX4_handsOf_72 (lv_at hl 6 rfl) ?_
              refine lv_aload hx hb dX4_handsOf_74 (lv_at hl 0 rfl) ?_
              refine g_get (v := .int (fBit (ξ 3 q))) hC (hR.pow (i := q) (by omega)) (C := RX3) (T := TX3) (N := 7) rfl u3_in 3 (by decide) k_796 rfl dX4_handsOf_76 ?_
              refine lv_ior hx hb dX4_handsOf_79 ?_
              refine lv_istore (lv' := [(5, .int (r ||| (fBit (ξ 3 q)))), (7, .ref (α 0 q)), (0, .ref (α 3 0)), (1, .int i), (2, .int k0), (3, .int s0), (4, .ref (α 3 (4 + w))), (6, .int (nI q))]) hx hb dX4_handsOf_80 hl (by decide) rfl (fun ls hl => ?_)
              refine lv_iinc (v := nI (q + 1)) (lv' := [(6, .int (nI (q + 1))), (5, .int (r ||| (fBit (ξ 3 q)))), (7, .ref (α 0 q)), (0, .ref (α 3 0)), (1, .int i), (2, .int k0), (3, .int s0), (4, .ref (α 3 (4 + w)))]) hx hb dX4_handsOf_82 hl (k := 7) rfl (g_inc _) (by decide) rfl (fun ls hl => ?_)
              refine lv_goto (tgt := 6) hx hb dX4_handsOf_85 (by decide) ?_
              exact ih_loop (q + 1) (r ||| (fBit (ξ 3 q))) ls (by omega) (by omega) (by rw [i2]; exact (cif_pos ⟨by assumption, by rw [show xv ξ (M w) 5 q = nI j_h from ej_h]; assumption, by rw [← h13_]; assumption⟩).symm) (lv_sub hl [3, 4, 5, 6, 7, 1, 0] rfl)
  exact loop ((N 0 - (0)) + 1) 0 0 ls (by omega) (by omega) rfl (lv_sub hl [2, 3, 4, 5, 6, 1, 0] rfl)
set_option maxHeartbeats 4000000 in
set_option maxRecDepth 100000 in
theorem c_X4_signsAlone {l : Launch} {E : gV} (hE : gOK l E) {α : Nat → Nat → Nat} {ξ : F2} {M : Nat → F2} {N : Nat → Nat} (i k0 s0 : Int32)(w : Nat) (hw : w < 2) : gM l E yX4_signsAlone cX4_signsAlone 5 (some .boolean) ({ frames := 4, cells := 0, slots := 0, locals := 96 } : Room) [.ref (α 3 0), .int i, .int k0, .int s0, .ref (α 3 (4 + w))] (fun H => RX E α ξ M N H) (gQR (gPi (bz (fHas (xv ξ (M w)) (N 0) (M w 5 0) i k0 115 s0)))) (fun _ => False) gN := by
  refine gM_body hE (by decide +kernel) (Nat.le_of_ble_eq_true rfl) ?_
  intro p_ e_ s m args below meth c hC ht hr hname hP ls hl
  have hx := hC.2.2.1
  have hb := hC.2.2.2.1
  have hl : lv_has ls 5 [(0, .ref (α 3 0)), (1, .int i), (2, .int k0), (3, .int s0), (4, .ref (α 3 (4 + w)))] := hl
  have hR : RX E α ξ M N s.heap := hP
  have hSr := hR.inv.src (M 0)
  obtain ⟨hN0, hN1, hN2, hN3, -, hHo, hDe⟩ := hR.inv
  refine lv_aload_n hx hb dX4_signsAlone_0 rfl (lv_at hl 0 rfl) ?_
  refine lv_iload_n hx hb dX4_signsAlone_1 rfl (lv_at hl 1 rfl) ?_
  refine lv_iload_n hx hb dX4_signsAlone_2 rfl (lv_at hl 2 rfl) ?_
  refine lv_iload_n hx hb dX4_signsAlone_3 rfl (lv_at hl 3 rfl) ?_
  refine lv_aload hx hb dX4_signsAlone_4 (lv_at hl 4 rfl) ?_
  refine g_cRi (k2 := 0) (n2 := 0) (g_runV (rest := []) hC (c_X4_handsOf hE (α := α) (ξ := ξ) (M := M) (N := N) i k0 s0 w hw) Y_X4_handsOf k_395 I_X4_handsOf V_X4_handsOf hR.sig rfl hR rfl hl.1 dX4_signsAlone_6 ⟨Nat.le_of_ble_eq_true rfl, Nat.le_of_ble_eq_true rfl⟩ ⟨Nat.le_of_ble_eq_true rfl, Nat.le_of_ble_eq_true rfl⟩ rfl (Nat.le_of_ble_eq_true rfl)) rfl rfl g_no (fun r1_ h2_ => ?_)
  refine lv_iconst (v := 0) hx hb dX4_signsAlone_9 (by decide) ?_
  refine g_cRi (k2 := 0) (n2 := 0) (g_runS (rest := []) hC (c_X4_suffice hE r1_ 0) Y_X4_suffice k_423 S_X4_suffice trivial rfl hl.1 dX4_signsAlone_10 ⟨Nat.le_of_ble_eq_true rfl, Nat.le_of_ble_eq_true rfl⟩ ⟨Nat.le_of_ble_eq_true rfl, Nat.le_of_ble_eq_true rfl⟩ rfl (Nat.le_of_ble_eq_true rfl)) rfl rfl g_no (fun r3_ h4_ => ?_)
  have f5_ := h4_.iff (P' := fHas (xv ξ (M w)) (N 0) (M w 5 0) i k0 115 s0) (by rw [h2_]; exact fSuf_1)
  exact g_zret hC hr (bz.nar f5_) dX4_signsAlone_13 (Nat.le_of_ble_eq_true rfl) (Nat.le_of_ble_eq_true rfl) f5_
