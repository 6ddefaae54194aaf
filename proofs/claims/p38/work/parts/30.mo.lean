set_option maxHeartbeats 4000000 in
set_option maxRecDepth 100000 in
theorem c_X1_forget {l : Launch} {E : gV} (hE : gOK l E)  {q : Nat → Nat} {mm : F2} {sz : Nat} : gM l E yX1_forget cX1_forget 2 none ({ frames := 0, cells := 0, slots := 0, locals := 0 } : Room) [.ref (q 0)] (fun H => gMz E q mm sz H) (gQW (oA q) (gWv (fun H => gMz E q mZ sz H))) (fun _ => False) (oA q) := by
  refine gM_body hE (by decide +kernel) (Nat.le_of_ble_eq_true rfl) ?_
  intro p_ e_ s m args below meth c hC ht hr hname hP ls hl
  have hx := hC.2.2.1
  have hb := hC.2.2.2.1
  have hl : lv_has ls 2 [(0, .ref (q 0))] := hl
  have hS : va_S ((oA q)) s.heap s.heap [] := va_S.rf
  have hR : gMz E q mm sz s.heap := hP
  refine lv_iconst (v := 0) hx hb dX1_forget_0 (by decide) ?_
  refine lv_istore_n (lv' := [(1, .int 0), (0, .ref (q 0))]) hx hb dX1_forget_1 rfl hl (by decide) rfl (fun ls hl => ?_)
  have loop : ∀ (n_ : Nat) (j : Nat) (m1 : F2) (H : Heap) (lo : List Loc) (ls : Array Slot), 20 - j < n_ → (j ≤ 20) → (∀ i, i < j → m1 0 i = 0 ∧ m1 1 i = 0) → gMz E q m1 sz H → va_S ((oA q)) s.heap H lo → lv_has ls 2 [(0, .ref (q 0)), (1, .int (nI j))] → W p_ l e_ ({ frames := 0, cells := 0, slots := 0, locals := 0 } : Room) s m args below meth c H lo 0 0 (vx_MQ below (gQW (oA q) (gWv (fun H => gMz E q mZ sz H))) (gX (fun _ => False)) args s 0 0 (oA q)) (F0 m 2 ls []) := by
    intro n_
    induction n_ with
    | zero => intro j m1 H lo ls h_; exact absurd h_ (Nat.not_lt_zero _)
    | succ n_ ih_loop =>
      intro j m1 H lo ls hn_ i1 i2 hR hS hl
      refine lv_iload_n hx hb dX1_forget_2 rfl (lv_at hl 1 rfl) ?_
      refine lv_aload_n hx hb dX1_forget_3 rfl (lv_at hl 0 rfl) ?_
      refine g_get (v := .ref (q 1)) hC hR.1.1 (C := RX1) (T := TX1) (N := 6) rfl u1_in 0 (by decide) k_703 rfl dX1_forget_4 ?_
      refine g_alen 0 hC (hR.1.arr 0 (by decide) (n := 20) rfl rfl) rfl dX1_forget_7 ?_
      refine lv_icmp_ge (tgt := 40) hx hb dX1_forget_8 (by decide) (fun c1_ => ?_) (fun c1_ => ?_)
      · have n2_ : 20 ≤ j := le_nI (by omega) (by omega) c1_
        refine lv_iconst (v := 0) hx hb dX1_forget_40 (by decide) ?_
        refine lv_istore_n (lv' := [(1, .int 0), (0, .ref (q 0))]) hx hb dX1_forget_41 rfl hl (by decide) rfl (fun ls hl => ?_)
        have loop2 : ∀ (n_ : Nat) (j2 : Nat) (m2 : F2) (H : Heap) (lo : List Loc) (ls : Array Slot), 8 - j2 < n_ → (j2 ≤ 8) → ((∀ i, i < 20 → m2 0 i = 0 ∧ m2 1 i = 0) ∧ ∀ i, i < j2 → m2 2 i = -2) → gMz E q m2 sz H → va_S ((oA q)) s.heap H lo → lv_has ls 2 [(0, .ref (q 0)), (1, .int (nI j2))] → W p_ l e_ ({ frames := 0, cells := 0, slots := 0, locals := 0 } : Room) s m args below meth c H lo 0 0 (vx_MQ below (gQW (oA q) (gWv (fun H => gMz E q mZ sz H))) (gX (fun _ => False)) args s 0 0 (oA q)) (F0 m 42 ls []) := by
          intro n_
          induction n_ with
          | zero => intro j2 m2 H lo ls h_; exact absurd h_ (Nat.not_lt_zero _)
          | succ n_ ih_loop2 =>
            intro j2 m2 H lo ls hn_ i3 i4 hR hS hl
            refine lv_iload_n hx hb dX1_forget_42 rfl (lv_at hl 1 rfl) ?_
            refine lv_aload_n hx hb dX1_forget_43 rfl (lv_at hl 0 rfl) ?_
            refine g_get (v := .ref (q 3)) hC hR.1.1 (C := RX1) (T := TX1) (N := 6) rfl u1_in 2 (by decide) k_705 rfl dX1_forget_44 ?_
            refine g_alen 0 hC (hR.1.arr 2 (by decide) (n := 8) rfl rfl) rfl dX1_forget_47 ?_
            refine lv_icmp_ge (tgt := 65) hx hb dX1_forget_48 (by decide) (fun c3_ => ?_) (fun c3_ => ?_)
            · have n4_ : 8 ≤ j2 := le_nI (by omega) (by omega) c3_
              refine lv_iconst (v := 0) hx hb dX1_forget_65 (by decide) ?_
              refine lv_istore_n (lv' := [(1, .int 0), (0, .ref (q 0))]) hx hb dX1_forget_66 rfl hl (by decide) rfl (fun ls hl => ?_)
              have loop3 : ∀ (n_ : Nat) (j3 : Nat) (m3 : F2) (H : Heap) (lo : List Loc) (ls : Array Slot), 24 - j3 < n_ → (j3 ≤ 24) → ((∀ i, i < 20 → m3 0 i = 0 ∧ m3 1 i = 0) ∧ (∀ i, i < 8 → m3 2 i = -2) ∧ ∀ i, i < j3 → m3 3 i = 0) → gMz E q m3 sz H → va_S ((oA q)) s.heap H lo → lv_has ls 2 [(0, .ref (q 0)), (1, .int (nI j3))] → W p_ l e_ ({ frames := 0, cells := 0, slots := 0, locals := 0 } : Room) s m args below meth c H lo 0 0 (vx_MQ below (gQW (oA q) (gWv (fun H => gMz E q mZ sz H))) (gX (fun _ => False)) args s 0 0 (oA q)) (F0 m 67 ls []) := by
                intro n_
                induction n_ with
                | zero => intro j3 m3 H lo ls h_; exact absurd h_ (Nat.not_lt_zero _)
                | succ n_ ih_loop3 =>
                  intro j3 m3 H lo ls hn_ i5 i6 hR hS hl
                  refine lv_iload_n hx hb dX1_forget_67 rfl (lv_at hl 1 rfl) ?_
                  refine lv_aload_n hx hb dX1_forget_68 rfl (lv_at hl 0 rfl) ?_
                  refine g_get (v := .ref (q 4)) hC hR.1.1 (C := RX1) (T := TX1) (N := 6) rfl u1_in 3 (by decide) k_706 rfl dX1_forget_69 ?_
                  refine g_alen 1 hC (hR.1.arr 3 (by decide) (n := 24) rfl rfl) rfl dX1_forget_72 ?_
                  refine lv_icmp_ge (tgt := 89) hx hb dX1_forget_73 (by decide) (fun c5_ => ?_) (fun c5_ => ?_)
                  · have n6_ : 24 ≤ j3 := le_nI (by omega) (by omega) c5_
                    refine lv_aload_n hx hb dX1_forget_89 rfl (lv_at hl 0 rfl) ?_
                    refine lv_bipush (v := 30) hx hb dX1_forget_90 (by decide) ?_
                    refine o_put 4 (by decide) hC hR hS k_707 dX1_forget_92 (fun H lo hR hS => ?_)
                    refine lv_aload_n hx hb dX1_forget_95 rfl (lv_at hl 0 rfl) ?_
                    refine lv_iconst (v := 0) hx hb dX1_forget_96 (by decide) ?_
                    refine o_put 5 (by decide) hC hR hS k_709 dX1_forget_97 (fun H lo hR hS => ?_)
                    exact g_vretW hC hr dX1_forget_100 hS (Nat.le_of_ble_eq_true rfl) (Nat.le_of_ble_eq_true rfl) ⟨mZ_of hR.1 (fun i hi => (i6.1 i hi).1) (fun i hi => (i6.1 i hi).2) i6.2.1 (fun i hi => i6.2.2 i (by omega)), hR.2⟩
                  · have n6_ : j3 < 24 := not_le_nI (by omega) (by omega) c5_
                    refine lv_aload_n hx hb dX1_forget_76 rfl (lv_at hl 0 rfl) ?_
                    refine g_get (v := .ref (q 4)) hC hR.1.1 (C := RX1) (T := TX1) (N := 6) rfl u1_in 3 (by decide) k_706 rfl dX1_forget_77 ?_
                    refine lv_iload_n hx hb dX1_forget_80 rfl (lv_at hl 1 rfl) ?_
                    refine lv_iconst (v := 0) hx hb dX1_forget_81 (by decide) ?_
                    refine o_zast (n := 24) (j := j3) 3 (by decide) rfl rfl hC hR hS (by omega) rfl dX1_forget_82 (fun H lo hR hS => ?_)
                    refine lv_iinc (v := nI (j3 + 1)) (lv' := [(1, .int (nI (j3 + 1))), (0, .ref (q 0))]) hx hb dX1_forget_83 hl (k := 1) rfl (g_inc _) (by decide) rfl (fun ls hl => ?_)
                    refine lv_goto (tgt := 67) hx hb dX1_forget_86 (by decide) ?_
                    exact ih_loop3 (j3 + 1) (up2 m3 3 j3 0) H lo ls (by omega) (by omega) (by refine ⟨fun i hi => ?_, fun i hi => ?_, fun i hi => ?_⟩ <;> simp (decide := true) only [up2_k, up2_o, ne_eq, not_false_eq_true] <;> grind) hR hS (lv_sub hl [1, 0] rfl)
              exact loop3 ((24 - (0)) + 1) 0 m2 H lo ls (by omega) (by omega) ⟨i4.1, fun i hi => i4.2 i (by omega), fun i hi => by omega⟩ hR hS (lv_sub hl [1, 0] rfl)
            · have n4_ : j2 < 8 := not_le_nI (by omega) (by omega) c3_
              refine lv_aload_n hx hb dX1_forget_51 rfl (lv_at hl 0 rfl) ?_
              refine g_get (v := .ref (q 3)) hC hR.1.1 (C := RX1) (T := TX1) (N := 6) rfl u1_in 2 (by decide) k_705 rfl dX1_forget_52 ?_
              refine lv_iload_n hx hb dX1_forget_55 rfl (lv_at hl 1 rfl) ?_
              refine lv_bipush (v := (-2)) hx hb dX1_forget_56 (by decide) ?_
              refine o_iast (n := 8) (j := j2) 2 (by decide) rfl rfl hC hR hS (by omega) dX1_forget_58 (fun H lo hR hS => ?_)
              refine lv_iinc (v := nI (j2 + 1)) (lv' := [(1, .int (nI (j2 + 1))), (0, .ref (q 0))]) hx hb dX1_forget_59 hl (k := 1) rfl (g_inc _) (by decide) rfl (fun ls hl => ?_)
              refine lv_goto (tgt := 42) hx hb dX1_forget_62 (by decide) ?_
              exact ih_loop2 (j2 + 1) (up2 m2 2 j2 (-2)) H lo ls (by omega) (by omega) (by refine ⟨fun i hi => ?_, fun i hi => ?_⟩ <;> simp (decide := true) only [up2_k, up2_o, ne_eq, not_false_eq_true] <;> grind) hR hS (lv_sub hl [1, 0] rfl)
        exact loop2 ((8 - (0)) + 1) 0 m1 H lo ls (by omega) (by omega) ⟨fun i hi => i2 i (by omega), fun i hi => by omega⟩ hR hS (lv_sub hl [1, 0] rfl)
      · have n2_ : j < 20 := not_le_nI (by omega) (by omega) c1_
        refine lv_iload_n hx hb dX1_forget_11 rfl (lv_at hl 1 rfl) ?_
        refine lv_aload_n hx hb dX1_forget_12 rfl (lv_at hl 0 rfl) ?_
        refine g_get (v := .ref (q 2)) hC hR.1.1 (C := RX1) (T := TX1) (N := 6) rfl u1_in 1 (by decide) k_704 rfl dX1_forget_13 ?_
        refine g_alen 1 hC (hR.1.arr 1 (by decide) (n := 20) rfl rfl) rfl dX1_forget_16 ?_
        refine lv_icmp_ge (tgt := 40) hx hb dX1_forget_17 (by decide) (fun c7_ => ?_) (fun c7_ => ?_)
        · exact absurd (le_nI (by omega) (by omega) c7_) (by omega)
        · refine lv_aload_n hx hb dX1_forget_20 rfl (lv_at hl 0 rfl) ?_
          refine g_get (v := .ref (q 1)) hC hR.1.1 (C := RX1) (T := TX1) (N := 6) rfl u1_in 0 (by decide) k_703 rfl dX1_forget_21 ?_
          refine lv_iload_n hx hb dX1_forget_24 rfl (lv_at hl 1 rfl) ?_
          refine lv_iconst (v := 0) hx hb dX1_forget_25 (by decide) ?_
          refine o_iast (n := 20) (j := j) 0 (by decide) rfl rfl hC hR hS (by omega) dX1_forget_26 (fun H lo hR hS => ?_)
          refine lv_aload_n hx hb dX1_forget_27 rfl (lv_at hl 0 rfl) ?_
          refine g_get (v := .ref (q 2)) hC hR.1.1 (C := RX1) (T := TX1) (N := 6) rfl u1_in 1 (by decide) k_704 rfl dX1_forget_28 ?_
          refine lv_iload_n hx hb dX1_forget_31 rfl (lv_at hl 1 rfl) ?_
          refine lv_iconst (v := 0) hx hb dX1_forget_32 (by decide) ?_
          refine o_zast (n := 20) (j := j) 1 (by decide) rfl rfl hC hR hS (by omega) rfl dX1_forget_33 (fun H lo hR hS => ?_)
          refine lv_iinc (v := nI (j + 1)) (lv' := [(1, .int (nI (j + 1))), (0, .ref (q 0))]) hx hb dX1_forget_34 hl (k := 1) rfl (g_inc _) (by decide) rfl (fun ls hl => ?_)
          refine lv_goto (tgt := 2) hx hb dX1_forget_37 (by decide) ?_
          exact ih_loop (j + 1) (up2 (up2 m1 0 j 0) 1 j 0) H lo ls (by omega) (by omega) (by intro i hi; simp (decide := true) only [up2_k, up2_o, ne_eq, not_false_eq_true]; grind) hR hS (lv_sub hl [1, 0] rfl)
  exact loop ((20 - (0)) + 1) 0 mm s.heap [] ls (by omega) (by omega) (fun i hi => by omega) hR hS (lv_sub hl [1, 0] rfl)
set_option maxHeartbeats 4000000 in
set_option maxRecDepth 100000 in
theorem c_X1_take {l : Launch} {E : gV} (hE : gOK l E)  {q : Nat → Nat} {mm : F2} {sz : Nat} (pa : Nat) (ma b v : Int32) : gM l E yX1_take cX1_take 3 none ({ frames := 1, cells := 0, slots := 0, locals := 21 } : Room) [.ref (q 0), .ref pa] (fun H => gMz E q mm sz H ∧ gA E pa (.inr (3, [.int ma, .int b, .int v])) H) (gQW (oA q) (gWv (fun H => gMz E q (tk mm ma b v) sz H))) (fun _ => False) (oA q) := by
  refine gM_body hE (by decide +kernel) (Nat.le_of_ble_eq_true rfl) ?_
  intro p_ e_ s m args below meth c hC ht hr hname hP ls hl
  have hx := hC.2.2.1
  have hb := hC.2.2.2.1
  have hl : lv_has ls 3 [(0, .ref (q 0)), (1, .ref pa)] := hl
  have hS : va_S ((oA q)) s.heap s.heap [] := va_S.rf
  obtain ⟨hR, hp_⟩ := hP
  refine lv_aload_n hx hb dX1_take_0 rfl (lv_at hl 1 rfl) ?_
  refine g_get (v := .int b) hC hp_ (C := RX2) (T := TX2) (N := 3) rfl u2_in 1 (by decide) k_154 rfl dX1_take_1 ?_
  refine lv_istore_n (lv' := [(2, .int b), (0, .ref (q 0)), (1, .ref pa)]) hx hb dX1_take_4 rfl hl (by decide) rfl (fun ls hl => ?_)
  refine lv_aload_n hx hb dX1_take_5 rfl (lv_at hl 2 rfl) ?_
  refine g_get (v := .int ma) hC hp_ (C := RX2) (T := TX2) (N := 3) rfl u2_in 0 (by decide) k_152 rfl dX1_take_6 ?_
  refine lv_if_ne (tgt := 37) hx hb dX1_take_9 (by decide) (fun c1_ => ?_) (fun c1_ => ?_)
  · refine lv_aload_n hx hb dX1_take_37 rfl (lv_at hl 2 rfl) ?_
    refine g_get (v := .int ma) hC hp_ (C := RX2) (T := TX2) (N := 3) rfl u2_in 0 (by decide) k_152 rfl dX1_take_38 ?_
    refine lv_iconst (v := 1) hx hb dX1_take_41 (by decide) ?_
    refine lv_icmp_ne (tgt := 67) hx hb dX1_take_42 (by decide) (fun c3_ => ?_) (fun c3_ => ?_)
    · refine lv_aload_n hx hb dX1_take_67 rfl (lv_at hl 2 rfl) ?_
      refine g_get (v := .int ma) hC hp_ (C := RX2) (T := TX2) (N := 3) rfl u2_in 0 (by decide) k_152 rfl dX1_take_68 ?_
      refine lv_iconst (v := 2) hx hb dX1_take_71 (by decide) ?_
      refine lv_icmp_ne (tgt := 100) hx hb dX1_take_72 (by decide) (fun c4_ => ?_) (fun c4_ => ?_)
      · refine lv_aload_n hx hb dX1_take_100 rfl (lv_at hl 2 rfl) ?_
        refine g_get (v := .int ma) hC hp_ (C := RX2) (T := TX2) (N := 3) rfl u2_in 0 (by decide) k_152 rfl dX1_take_101 ?_
        refine lv_iconst (v := 3) hx hb dX1_take_104 (by decide) ?_
        refine lv_icmp_ne (tgt := 119) hx hb dX1_take_105 (by decide) (fun c5_ => ?_) (fun c5_ => ?_)
        · refine lv_aload_n hx hb dX1_take_119 rfl (lv_at hl 2 rfl) ?_
          refine g_get (v := .int ma) hC hp_ (C := RX2) (T := TX2) (N := 3) rfl u2_in 0 (by decide) k_152 rfl dX1_take_120 ?_
          refine lv_iconst (v := 4) hx hb dX1_take_123 (by decide) ?_
          refine lv_icmp_ne (tgt := 146) hx hb dX1_take_124 (by decide) (fun c6_ => ?_) (fun c6_ => ?_)
          · exact g_vretW hC hr dX1_take_146 hS (Nat.le_of_ble_eq_true rfl) (Nat.le_of_ble_eq_true rfl) (by unfold tk; rw [cif_neg (by grind), cif_neg (by grind), cif_neg (by grind), cif_neg (by grind), cif_neg (by grind)]; exact hR)
          · refine lv_iload_n hx hb dX1_take_127 rfl (lv_at hl 0 rfl) ?_
            refine lv_aload_n hx hb dX1_take_128 rfl (lv_at hl 1 rfl) ?_
            refine g_get (v := .ref (q 4)) hC hR.1.1 (C := RX1) (T := TX1) (N := 6) rfl u1_in 3 (by decide) k_706 rfl dX1_take_129 ?_
            refine g_alen 1 hC (hR.1.arr 3 (by decide) (n := 24) rfl rfl) rfl dX1_take_132 ?_
            refine g_cRi (k2 := 0) (n2 := 0) (g_runSN (rest := []) hC (c_X4_isIndex hE b (nI 24)) Y_X4_isIndex k_140 S_X4_isIndex trivial rfl hl.1 dX1_take_133 ⟨Nat.le_of_ble_eq_true rfl, Nat.le_of_ble_eq_true rfl⟩ ⟨Nat.le_of_ble_eq_true rfl, Nat.le_of_ble_eq_true rfl⟩ rfl (Nat.le_of_ble_eq_true rfl)) rfl rfl g_no (fun r7_ h8_ => ?_)
            refine lv_if_eq (tgt := 146) hx hb dX1_take_136 (by decide) (fun c9_ => ?_) (fun c9_ => ?_)
            · have q10_ := bz.f h8_ c9_
              exact g_vretW hC hr dX1_take_146 hS (Nat.le_of_ble_eq_true rfl) (Nat.le_of_ble_eq_true rfl) (by unfold tk; rw [cif_neg (by grind), cif_neg (by grind), cif_neg (by grind), cif_neg (by grind), cif_neg (by grind)]; exact hR)
            · have q10_ := bz.t h8_ c9_
              obtain ⟨j_b, hj_b, rfl⟩ := isP_of (n := 24) (p := b) (by assumption) (by omega)
              have ej_b : (nI j_b).toNatClampNeg = j_b := nI_clamp (by omega)
              have ipj_b : isP (24) (nI j_b) := isP_nI hj_b (by omega)
              refine lv_aload_n hx hb dX1_take_139 rfl (lv_at hl 1 rfl) ?_
              refine g_get (v := .ref (q 4)) hC hR.1.1 (C := RX1) (T := TX1) (N := 6) rfl u1_in 3 (by decide) k_706 rfl dX1_take_140 ?_
              refine lv_iload_n hx hb dX1_take_143 rfl (lv_at hl 0 rfl) ?_
              refine lv_iconst (v := 1) hx hb dX1_take_144 (by decide) ?_
              refine o_zast (n := 24) (j := j_b) 3 (by decide) rfl rfl hC hR hS (by omega) rfl dX1_take_145 (fun H lo hR hS => ?_)
              exact g_vretW hC hr dX1_take_146 hS (Nat.le_of_ble_eq_true rfl) (Nat.le_of_ble_eq_true rfl) (by unfold tk; rw [cif_neg (by grind), cif_neg (by grind), cif_neg (by grind), cif_neg (by grind), cif_pos (by grind)]; simp only [ix, ej_b]; exact hR)
        · refine lv_aload_n hx hb dX1_take_108 rfl (lv_at hl 1 rfl) ?_
          refine lv_aload_n hx hb dX1_take_109 rfl (lv_at hl 2 rfl) ?_
          refine g_get (v := .int v) hC hp_ (C := RX2) (T := TX2) (N := 3) rfl u2_in 2 (by decide) k_156 rfl dX1_take_110 ?_
          refine o_put 4 (by decide) hC hR hS k_707 dX1_take_113 (fun H lo hR hS => ?_)
          refine lv_goto (tgt := 146) hx hb dX1_take_116 (by decide) ?_
          exact g_vretW hC hr dX1_take_146 hS (Nat.le_of_ble_eq_true rfl) (Nat.le_of_ble_eq_true rfl) (by unfold tk; rw [cif_neg (by grind), cif_neg (by grind), cif_neg (by grind), cif_pos (by grind)]; exact hR)
      · refine lv_iload_n hx hb dX1_take_75 rfl (lv_at hl 0 rfl) ?_
        refine lv_aload_n hx hb dX1_take_76 rfl (lv_at hl 1 rfl) ?_
        refine g_get (v := .ref (q 3)) hC hR.1.1 (C := RX1) (T := TX1) (N := 6) rfl u1_in 2 (by decide) k_705 rfl dX1_take_77 ?_
        refine g_alen 0 hC (hR.1.arr 2 (by decide) (n := 8) rfl rfl) rfl dX1_take_80 ?_
        refine g_cRi (k2 := 0) (n2 := 0) (g_runSN (rest := []) hC (c_X4_isIndex hE b (nI 8)) Y_X4_isIndex k_140 S_X4_isIndex trivial rfl hl.1 dX1_take_81 ⟨Nat.le_of_ble_eq_true rfl, Nat.le_of_ble_eq_true rfl⟩ ⟨Nat.le_of_ble_eq_true rfl, Nat.le_of_ble_eq_true rfl⟩ rfl (Nat.le_of_ble_eq_true rfl)) rfl rfl g_no (fun r11_ h12_ => ?_)
        refine lv_if_eq (tgt := 100) hx hb dX1_take_84 (by decide) (fun c13_ => ?_) (fun c13_ => ?_)
        · have q14_ := bz.f h12_ c13_
          refine lv_aload_n hx hb dX1_take_100 rfl (lv_at hl 2 rfl) ?_
          refine g_get (v := .int ma) hC hp_ (C := RX2) (T := TX2) (N := 3) rfl u2_in 0 (by decide) k_152 rfl dX1_take_101 ?_
          refine lv_iconst (v := 3) hx hb dX1_take_104 (by decide) ?_
          refine lv_icmp_ne (tgt := 119) hx hb dX1_take_105 (by decide) (fun c15_ => ?_) (fun c15_ => ?_)
          · refine lv_aload_n hx hb dX1_take_119 rfl (lv_at hl 2 rfl) ?_
            refine g_get (v := .int ma) hC hp_ (C := RX2) (T := TX2) (N := 3) rfl u2_in 0 (by decide) k_152 rfl dX1_take_120 ?_
            refine lv_iconst (v := 4) hx hb dX1_take_123 (by decide) ?_
            refine lv_icmp_ne (tgt := 146) hx hb dX1_take_124 (by decide) (fun c16_ => ?_) (fun c16_ => ?_)
            · exact g_vretW hC hr dX1_take_146 hS (Nat.le_of_ble_eq_true rfl) (Nat.le_of_ble_eq_true rfl) (by unfold tk; rw [cif_neg (by grind), cif_neg (by grind), cif_neg (by grind), cif_neg (by grind), cif_neg (by grind)]; exact hR)
            · refine lv_iload_n hx hb dX1_take_127 rfl (lv_at hl 0 rfl) ?_
              refine lv_aload_n hx hb dX1_take_128 rfl (lv_at hl 1 rfl) ?_
              refine g_get (v := .ref (q 4)) hC hR.1.1 (C := RX1) (T := TX1) (N := 6) rfl u1_in 3 (by decide) k_706 rfl dX1_take_129 ?_
              refine g_alen 1 hC (hR.1.arr 3 (by decide) (n := 24) rfl rfl) rfl dX1_take_132 ?_
              refine g_cRi (k2 := 0) (n2 := 0) (g_runSN (rest := []) hC (c_X4_isIndex hE b (nI 24)) Y_X4_isIndex k_140 S_X4_isIndex trivial rfl hl.1 dX1_take_133 ⟨Nat.le_of_ble_eq_true rfl, Nat.le_of_ble_eq_true rfl⟩ ⟨Nat.le_of_ble_eq_true rfl, Nat.le_of_ble_eq_true rfl⟩ rfl (Nat.le_of_ble_eq_true rfl)) rfl rfl g_no (fun r17_ h18_ => ?_)
              refine lv_if_eq (tgt := 146) hx hb dX1_take_136 (by decide) (fun c19_ => ?_) (fun c19_ => ?_)
              · have q20_ := bz.f h18_ c19_
                exact g_vretW hC hr dX1_take_146 hS (Nat.le_of_ble_eq_true rfl) (Nat.le_of_ble_eq_true rfl) (by unfold tk; rw [cif_neg (by grind), cif_neg (by grind), cif_neg (by grind), cif_neg (by grind), cif_neg (by grind)]; exact hR)
              · have q20_ := bz.t h18_ c19_
                obtain ⟨j_b, hj_b, rfl⟩ := isP_of (n := 24) (p := b) (by assumption) (by omega)
                have ej_b : (nI j_b).toNatClampNeg = j_b := nI_clamp (by omega)
                have ipj_b : isP (24) (nI j_b) := isP_nI hj_b (by omega)
                refine lv_aload_n hx hb dX1_take_139 rfl (lv_at hl 1 rfl) ?_
                refine g_get (v := .ref (q 4)) hC hR.1.1 (C := RX1) (T := TX1) (N := 6) rfl u1_in 3 (by decide) k_706 rfl dX1_take_140 ?_
                refine lv_iload_n hx hb dX1_take_143 rfl (lv_at hl 0 rfl) ?_
                refine lv_iconst (v := 1) hx hb dX1_take_144 (by decide) ?_
                refine o_zast (n := 24) (j := j_b) 3 (by decide) rfl rfl hC hR hS (by omega) rfl dX1_take_145 (fun H lo hR hS => ?_)
                exact g_vretW hC hr dX1_take_146 hS (Nat.le_of_ble_eq_true rfl) (Nat.le_of_ble_eq_true rfl) (by unfold tk; rw [cif_neg (by grind), cif_neg (by grind), cif_neg (by grind), cif_neg (by grind), cif_pos (by grind)]; simp only [ix, ej_b]; exact hR)
          · refine lv_aload_n hx hb dX1_take_108 rfl (lv_at hl 1 rfl) ?_
            refine lv_aload_n hx hb dX1_take_109 rfl (lv_at hl 2 rfl) ?_
            refine g_get (v := .int v) hC hp_ (C := RX2) (T := TX2) (N := 3) rfl u2_in 2 (by decide) k_156 rfl dX1_take_110 ?_
            refine o_put 4 (by decide) hC hR hS k_707 dX1_take_113 (fun H lo hR hS => ?_)
            refine lv_goto (tgt := 146) hx hb dX1_take_116 (by decide) ?_
            exact g_vretW hC hr dX1_take_146 hS (Nat.le_of_ble_eq_true rfl) (Nat.le_of_ble_eq_true rfl) (by unfold tk; rw [cif_neg (by grind), cif_neg (by grind), cif_neg (by grind), cif_pos (by grind)]; exact hR)
        · have q14_ := bz.t h12_ c13_
          obtain ⟨j_b, hj_b, rfl⟩ := isP_of (n := 8) (p := b) (by assumption) (by omega)
          have ej_b : (nI j_b).toNatClampNeg = j_b := nI_clamp (by omega)
          have ipj_b : isP (8) (nI j_b) := isP_nI hj_b (by omega)
          refine lv_aload_n hx hb dX1_take_87 rfl (lv_at hl 1 rfl) ?_
          refine g_get (v := .ref (q 3)) hC hR.1.1 (C := RX1) (T := TX1) (N := 6) rfl u1_in 2 (by decide) k_705 rfl dX1_take_88 ?_
          refine lv_iload_n hx hb dX1_take_91 rfl (lv_at hl 0 rfl) ?_
          refine lv_aload_n hx hb dX1_take_92 rfl (lv_at hl 2 rfl) ?_
          refine g_get (v := .int v) hC hp_ (C := RX2) (T := TX2) (N := 3) rfl u2_in 2 (by decide) k_156 rfl dX1_take_93 ?_
          refine o_iast (n := 8) (j := j_b) 2 (by decide) rfl rfl hC hR hS (by omega) dX1_take_96 (fun H lo hR hS => ?_)
          refine lv_goto (tgt := 146) hx hb dX1_take_97 (by decide) ?_
          exact g_vretW hC hr dX1_take_146 hS (Nat.le_of_ble_eq_true rfl) (Nat.le_of_ble_eq_true rfl) (by unfold tk; rw [cif_neg (by grind), cif_neg (by grind), cif_pos (by grind)]; simp only [ix, ej_b]; exact hR)
    · refine lv_iload_n hx hb dX1_take_45 rfl (lv_at hl 0 rfl) ?_
      refine lv_aload_n hx hb dX1_take_46 rfl (lv_at hl 1 rfl) ?_
      refine g_get (v := .ref (q 2)) hC hR.1.1 (C := RX1) (T := TX1) (N := 6) rfl u1_in 1 (by decide) k_704 rfl dX1_take_47 ?_
      refine g_alen 1 hC (hR.1.arr 1 (by decide) (n := 20) rfl rfl) rfl dX1_take_50 ?_
      refine g_cRi (k2 := 0) (n2 := 0) (g_runSN (rest := []) hC (c_X4_isIndex hE b (nI 20)) Y_X4_isIndex k_140 S_X4_isIndex trivial rfl hl.1 dX1_take_51 ⟨Nat.le_of_ble_eq_true rfl, Nat.le_of_ble_eq_true rfl⟩ ⟨Nat.le_of_ble_eq_true rfl, Nat.le_of_ble_eq_true rfl⟩ rfl (Nat.le_of_ble_eq_true rfl)) rfl rfl g_no (fun r21_ h22_ => ?_)
      refine lv_if_eq (tgt := 67) hx hb dX1_take_54 (by decide) (fun c23_ => ?_) (fun c23_ => ?_)
      · have q24_ := bz.f h22_ c23_
        refine lv_aload_n hx hb dX1_take_67 rfl (lv_at hl 2 rfl) ?_
        refine g_get (v := .int ma) hC hp_ (C := RX2) (T := TX2) (N := 3) rfl u2_in 0 (by decide) k_152 rfl dX1_take_68 ?_
        refine lv_iconst (v := 2) hx hb dX1_take_71 (by decide) ?_
        refine lv_icmp_ne (tgt := 100) hx hb dX1_take_72 (by decide) (fun c25_ => ?_) (fun c25_ => ?_)
        · refine lv_aload_n hx hb dX1_take_100 rfl (lv_at hl 2 rfl) ?_
          refine g_get (v := .int ma) hC hp_ (C := RX2) (T := TX2) (N := 3) rfl u2_in 0 (by decide) k_152 rfl dX1_take_101 ?_
          refine lv_iconst (v := 3) hx hb dX1_take_104 (by decide) ?_
          refine lv_icmp_ne (tgt := 119) hx hb dX1_take_105 (by decide) (fun c26_ => ?_) (fun c26_ => ?_)
          · refine lv_aload_n hx hb dX1_take_119 rfl (lv_at hl 2 rfl) ?_
            refine g_get (v := .int ma) hC hp_ (C := RX2) (T := TX2) (N := 3) rfl u2_in 0 (by decide) k_152 rfl dX1_take_120 ?_
            refine lv_iconst (v := 4) hx hb dX1_take_123 (by decide) ?_
            refine lv_icmp_ne (tgt := 146) hx hb dX1_take_124 (by decide) (fun c27_ => ?_) (fun c27_ => ?_)
            · exact g_vretW hC hr dX1_take_146 hS (Nat.le_of_ble_eq_true rfl) (Nat.le_of_ble_eq_true rfl) (by unfold tk; rw [cif_neg (by grind), cif_neg (by grind), cif_neg (by grind), cif_neg (by grind), cif_neg (by grind)]; exact hR)
            · refine lv_iload_n hx hb dX1_take_127 rfl (lv_at hl 0 rfl) ?_
              refine lv_aload_n hx hb dX1_take_128 rfl (lv_at hl 1 rfl) ?_
              refine g_get (v := .ref (q 4)) hC hR.1.1 (C := RX1) (T := TX1) (N := 6) rfl u1_in 3 (by decide) k_706 rfl dX1_take_129 ?_
              refine g_alen 1 hC (hR.1.arr 3 (by decide) (n := 24) rfl rfl) rfl dX1_take_132 ?_
              refine g_cRi (k2 := 0) (n2 := 0) (g_runSN (rest := []) hC (c_X4_isIndex hE b (nI 24)) Y_X4_isIndex k_140 S_X4_isIndex trivial rfl hl.1 dX1_take_133 ⟨Nat.le_of_ble_eq_true rfl, Nat.le_of_ble_eq_true rfl⟩ ⟨Nat.le_of_ble_eq_true rfl, Nat.le_of_ble_eq_true rfl⟩ rfl (Nat.le_of_ble_eq_true rfl)) rfl rfl g_no (fun r28_ h29_ => ?_)
              refine lv_if_eq (tgt := 146) hx hb dX1_take_136 (by decide) (fun c30_ => ?_) (fun c30_ => ?_)
              · have q31_ := bz.f h29_ c30_
                exact g_vretW hC hr dX1_take_146 hS (Nat.le_of_ble_eq_true rfl) (Nat.le_of_ble_eq_true rfl) (by unfold tk; rw [cif_neg (by grind), cif_neg (by grind), cif_neg (by grind), cif_neg (by grind), cif_neg (by grind)]; exact hR)
              · have q31_ := bz.t h29_ c30_
                obtain ⟨j_b, hj_b, rfl⟩ := isP_of (n := 24) (p := b) (by assumption) (by omega)
                have ej_b : (nI j_b).toNatClampNeg = j_b := nI_clamp (by omega)
                have ipj_b : isP (24) (nI j_b) := isP_nI hj_b (by omega)
                refine lv_aload_n hx hb dX1_take_139 rfl (lv_at hl 1 rfl) ?_
                refine g_get (v := .ref (q 4)) hC hR.1.1 (C := RX1) (T := TX1) (N := 6) rfl u1_in 3 (by decide) k_706 rfl dX1_take_140 ?_
                refine lv_iload_n hx hb dX1_take_143 rfl (lv_at hl 0 rfl) ?_
                refine lv_iconst (v := 1) hx hb dX1_take_144 (by decide) ?_
                refine o_zast (n := 24) (j := j_b) 3 (by decide) rfl rfl hC hR hS (by omega) rfl dX1_take_145 (fun H lo hR hS => ?_)
                exact g_vretW hC hr dX1_take_146 hS (Nat.le_of_ble_eq_true rfl) (Nat.le_of_ble_eq_true rfl) (by unfold tk; rw [cif_neg (by grind), cif_neg (by grind), cif_neg (by grind), cif_neg (by grind), cif_pos (by grind)]; simp only [ix, ej_b]; exact hR)
          · refine lv_aload_n hx hb dX1_take_108 rfl (lv_at hl 1 rfl) ?_
            refine lv_aload_n hx hb dX1_take_109 rfl (lv_at hl 2 rfl) ?_
            refine g_get (v := .int v) hC hp_ (C := RX2) (T := TX2) (N := 3) rfl u2_in 2 (by decide) k_156 rfl dX1_take_110 ?_
            refine o_put 4 (by decide) hC hR hS k_707 dX1_take_113 (fun H lo hR hS => ?_)
            refine lv_goto (tgt := 146) hx hb dX1_take_116 (by decide) ?_
            exact g_vretW hC hr dX1_take_146 hS (Nat.le_of_ble_eq_true rfl) (Nat.le_of_ble_eq_true rfl) (by unfold tk; rw [cif_neg (by grind), cif_neg (by grind), cif_neg (by grind), cif_pos (by grind)]; exact hR)
        · refine lv_iload_n hx hb dX1_take_75 rfl (lv_at hl 0 rfl) ?_
          refine lv_aload_n hx hb dX1_take_76 rfl (lv_at hl 1 rfl) ?_
          refine g_get (v := .ref (q 3)) hC hR.1.1 (C := RX1) (T := TX1) (N := 6) rfl u1_in 2 (by decide) k_705 rfl dX1_take_77 ?_
          refine g_alen 0 hC (hR.1.arr 2 (by decide) (n := 8) rfl rfl) rfl dX1_take_80 ?_
          refine g_cRi (k2 := 0) (n2 := 0) (g_runSN (rest := []) hC (c_X4_isIndex hE b (nI 8)) Y_X4_isIndex k_140 S_X4_isIndex trivial rfl hl.1 dX1_take_81 ⟨Nat.le_of_ble_eq_true rfl, Nat.le_of_ble_eq_true rfl⟩ ⟨Nat.le_of_ble_eq_true rfl, Nat.le_of_ble_eq_true rfl⟩ rfl (Nat.le_of_ble_eq_true rfl)) rfl rfl g_no (fun r32_ h33_ => ?_)
          refine lv_if_eq (tgt := 100) hx hb dX1_take_84 (by decide) (fun c34_ => ?_) (fun c34_ => ?_)
          · have q35_ := bz.f h33_ c34_
            refine lv_aload_n hx hb dX1_take_100 rfl (lv_at hl 2 rfl) ?_
            refine g_get (v := .int ma) hC hp_ (C := RX2) (T := TX2) (N := 3) rfl u2_in 0 (by decide) k_152 rfl dX1_take_101 ?_
            refine lv_iconst (v := 3) hx hb dX1_take_104 (by decide) ?_
            refine lv_icmp_ne (tgt := 119) hx hb dX1_take_105 (by decide) (fun c36_ => ?_) (fun c36_ => ?_)
            · refine lv_aload_n hx hb dX1_take_119 rfl (lv_at hl 2 rfl) ?_
              refine g_get (v := .int ma) hC hp_ (C := RX2) (T := TX2) (N := 3) rfl u2_in 0 (by decide) k_152 rfl dX1_take_120 ?_
              refine lv_iconst (v := 4) hx hb dX1_take_123 (by decide) ?_
              refine lv_icmp_ne (tgt := 146) hx hb dX1_take_124 (by decide) (fun c37_ => ?_) (fun c37_ => ?_)
              · exact g_vretW hC hr dX1_take_146 hS (Nat.le_of_ble_eq_true rfl) (Nat.le_of_ble_eq_true rfl) (by unfold tk; rw [cif_neg (by grind), cif_neg (by grind), cif_neg (by grind), cif_neg (by grind), cif_neg (by grind)]; exact hR)
              · refine lv_iload_n hx hb dX1_take_127 rfl (lv_at hl 0 rfl) ?_
                refine lv_aload_n hx hb dX1_take_128 rfl (lv_at hl 1 rfl) ?_
                refine g_get (v := .ref (q 4)) hC hR.1.1 (C := RX1) (T := TX1) (N := 6) rfl u1_in 3 (by decide) k_706 rfl dX1_take_129 ?_
                refine g_alen 1 hC (hR.1.arr 3 (by decide) (n := 24) rfl rfl) rfl dX1_take_132 ?_
                refine g_cRi (k2 := 0) (n2 := 0) (g_runSN (rest := []) hC (c_X4_isIndex hE b (nI 24)) Y_X4_isIndex k_140 S_X4_isIndex trivial rfl hl.1 dX1_take_133 ⟨Nat.le_of_ble_eq_true rfl, Nat.le_of_ble_eq_true rfl⟩ ⟨Nat.le_of_ble_eq_true rfl, Nat.le_of_ble_eq_true rfl⟩ rfl (Nat.le_of_ble_eq_true rfl)) rfl rfl g_no (fun r38_ h39_ => ?_)
                refine lv_if_eq (tgt := 146) hx hb dX1_take_136 (by decide) (fun c40_ => ?_) (fun c40_ => ?_)
                · have q41_ := bz.f h39_ c40_
                  exact g_vretW hC hr dX1_take_146 hS (Nat.le_of_ble_eq_true rfl) (Nat.le_of_ble_eq_true rfl) (by unfold tk; rw [cif_neg (by grind), cif_neg (by grind), cif_neg (by grind), cif_neg (by grind), cif_neg (by grind)]; exact hR)
                · have q41_ := bz.t h39_ c40_
                  obtain ⟨j_b, hj_b, rfl⟩ := isP_of (n := 24) (p := b) (by assumption) (by omega)
                  have ej_b : (nI j_b).toNatClampNeg = j_b := nI_clamp (by omega)
                  have ipj_b : isP (24) (nI j_b) := isP_nI hj_b (by omega)
                  refine lv_aload_n hx hb dX1_take_139 rfl (lv_at hl 1 rfl) ?_
                  refine g_get (v := .ref (q 4)) hC hR.1.1 (C := RX1) (T := TX1) (N := 6) rfl u1_in 3 (by decide) k_706 rfl dX1_take_140 ?_
                  refine lv_iload_n hx hb dX1_take_143 rfl (lv_at hl 0 rfl) ?_
                  refine lv_iconst (v := 1) hx hb dX1_take_144 (by decide) ?_
                  refine o_zast (n := 24) (j := j_b) 3 (by decide) rfl rfl hC hR hS (by omega) rfl dX1_take_145 (fun H lo hR hS => ?_)
                  exact g_vretW hC hr dX1_take_146 hS (Nat.le_of_ble_eq_true rfl) (Nat.le_of_ble_eq_true rfl) (by unfold tk; rw [cif_neg (by grind), cif_neg (by grind), cif_neg (by grind), cif_neg (by grind), cif_pos (by grind)]; simp only [ix, ej_b]; exact hR)
            · refine lv_aload_n hx hb dX1_take_108 rfl (lv_at hl 1 rfl) ?_
              refine lv_aload_n hx hb dX1_take_109 rfl (lv_at hl 2 rfl) ?_
              refine g_get (v := .int v) hC hp_ (C := RX2) (T := TX2) (N := 3) rfl u2_in 2 (by decide) k_156 rfl dX1_take_110 ?_
              refine o_put 4 (by decide) hC hR hS k_707 dX1_take_113 (fun H lo hR hS => ?_)
              refine lv_goto (tgt := 146) hx hb dX1_take_116 (by decide) ?_
              exact g_vretW hC hr dX1_take_146 hS (Nat.le_of_ble_eq_true rfl) (Nat.le_of_ble_eq_true rfl) (by unfold tk; rw [cif_neg (by grind), cif_neg (by grind), cif_neg (by grind), cif_pos (by grind)]; exact hR)
          · have q35_ := bz.t h33_ c34_
            obtain ⟨j_b, hj_b, rfl⟩ := isP_of (n := 8) (p := b) (by assumption) (by omega)
            have ej_b : (nI j_b).toNatClampNeg = j_b := nI_clamp (by omega)
            have ipj_b : isP (8) (nI j_b) := isP_nI hj_b (by omega)
            refine lv_aload_n hx hb dX1_take_87 rfl (lv_at hl 1 rfl) ?_
            refine g_get (v := .ref (q 3)) hC hR.1.1 (C := RX1) (T := TX1) (N := 6) rfl u1_in 2 (by decide) k_705 rfl dX1_take_88 ?_
            refine lv_iload_n hx hb dX1_take_91 rfl (lv_at hl 0 rfl) ?_
            refine lv_aload_n hx hb dX1_take_92 rfl (lv_at hl 2 rfl) ?_
            refine g_get (v := .int v) hC hp_ (C := RX2) (T := TX2) (N := 3) rfl u2_in 2 (by decide) k_156 rfl dX1_take_93 ?_
            refine o_iast (n := 8) (j := j_b) 2 (by decide) rfl rfl hC hR hS (by omega) dX1_take_96 (fun H lo hR hS => ?_)
            refine lv_goto (tgt := 146) hx hb dX1_take_97 (by decide) ?_
            exact g_vretW hC hr dX1_take_146 hS (Nat.le_of_ble_eq_true rfl) (Nat.le_of_ble_eq_true rfl) (by unfold tk; rw [cif_neg (by grind), cif_neg (by grind), cif_pos (by grind)]; simp only [ix, ej_b]; exact hR)
      · have q24_ := bz.t h22_ c23_
        obtain ⟨j_b, hj_b, rfl⟩ := isP_of (n := 20) (p := b) (by assumption) (by omega)
        have ej_b : (nI j_b).toNatClampNeg = j_b := nI_clamp (by omega)
        have ipj_b : isP (20) (nI j_b) := isP_nI hj_b (by omega)
        refine lv_aload_n hx hb dX1_take_57 rfl (lv_at hl 1 rfl) ?_
        refine g_get (v := .ref (q 2)) hC hR.1.1 (C := RX1) (T := TX1) (N := 6) rfl u1_in 1 (by decide) k_704 rfl dX1_take_58 ?_
        refine lv_iload_n hx hb dX1_take_61 rfl (lv_at hl 0 rfl) ?_
        refine lv_iconst (v := 1) hx hb dX1_take_62 (by decide) ?_
        refine o_zast (n := 20) (j := j_b) 1 (by decide) rfl rfl hC hR hS (by omega) rfl dX1_take_63 (fun H lo hR hS => ?_)
        refine lv_goto (tgt := 146) hx hb dX1_take_64 (by decide) ?_
        exact g_vretW hC hr dX1_take_146 hS (Nat.le_of_ble_eq_true rfl) (Nat.le_of_ble_eq_true rfl) (by unfold tk; rw [cif_neg (by grind), cif_pos (by grind)]; simp only [ix, ej_b]; exact hR)
  · refine lv_iload_n hx hb dX1_take_12 rfl (lv_at hl 0 rfl) ?_
    refine lv_aload_n hx hb dX1_take_13 rfl (lv_at hl 1 rfl) ?_
    refine g_get (v := .ref (q 1)) hC hR.1.1 (C := RX1) (T := TX1) (N := 6) rfl u1_in 0 (by decide) k_703 rfl dX1_take_14 ?_
    refine g_alen 0 hC (hR.1.arr 0 (by decide) (n := 20) rfl rfl) rfl dX1_take_17 ?_
    refine g_cRi (k2 := 0) (n2 := 0) (g_runSN (rest := []) hC (c_X4_isIndex hE b (nI 20)) Y_X4_isIndex k_140 S_X4_isIndex trivial rfl hl.1 dX1_take_18 ⟨Nat.le_of_ble_eq_true rfl, Nat.le_of_ble_eq_true rfl⟩ ⟨Nat.le_of_ble_eq_true rfl, Nat.le_of_ble_eq_true rfl⟩ rfl (Nat.le_of_ble_eq_true rfl)) rfl rfl g_no (fun r42_ h43_ => ?_)
    refine lv_if_eq (tgt := 37) hx hb dX1_take_21 (by decide) (fun c44_ => ?_) (fun c44_ => ?_)
    · have q45_ := bz.f h43_ c44_
      refine lv_aload_n hx hb dX1_take_37 rfl (lv_at hl 2 rfl) ?_
      refine g_get (v := .int ma) hC hp_ (C := RX2) (T := TX2) (N := 3) rfl u2_in 0 (by decide) k_152 rfl dX1_take_38 ?_
      refine lv_iconst (v := 1) hx hb dX1_take_41 (by decide) ?_
      refine lv_icmp_ne (tgt := 67) hx hb dX1_take_42 (by decide) (fun c46_ => ?_) (fun c46_ => ?_)
      · refine lv_aload_n hx hb dX1_take_67 rfl (lv_at hl 2 rfl) ?_
        refine g_get (v := .int ma) hC hp_ (C := RX2) (T := TX2) (N := 3) rfl u2_in 0 (by decide) k_152 rfl dX1_take_68 ?_
        refine lv_iconst (v := 2) hx hb dX1_take_71 (by decide) ?_
        refine lv_icmp_ne (tgt := 100) hx hb dX1_take_72 (by decide) (fun c47_ => ?_) (fun c47_ => ?_)
        · refine lv_aload_n hx hb dX1_take_100 rfl (lv_at hl 2 rfl) ?_
          refine g_get (v := .int ma) hC hp_ (C := RX2) (T := TX2) (N := 3) rfl u2_in 0 (by decide) k_152 rfl dX1_take_101 ?_
          refine lv_iconst (v := 3) hx hb dX1_take_104 (by decide) ?_
          refine lv_icmp_ne (tgt := 119) hx hb dX1_take_105 (by decide) (fun c48_ => ?_) (fun c48_ => ?_)
          · refine lv_aload_n hx hb dX1_take_119 rfl (lv_at hl 2 rfl) ?_
            refine g_get (v := .int ma) hC hp_ (C := RX2) (T := TX2) (N := 3) rfl u2_in 0 (by decide) k_152 rfl dX1_take_120 ?_
            refine lv_iconst (v := 4) hx hb dX1_take_123 (by decide) ?_
            refine lv_icmp_ne (tgt := 146) hx hb dX1_take_124 (by decide) (fun c49_ => ?_) (fun c49_ => ?_)
            · exact g_vretW hC hr dX1_take_146 hS (Nat.le_of_ble_eq_true rfl) (Nat.le_of_ble_eq_true rfl) (by unfold tk; rw [cif_neg (by grind), cif_neg (by grind), cif_neg (by grind), cif_neg (by grind), cif_neg (by grind)]; exact hR)
            · refine lv_iload_n hx hb dX1_take_127 rfl (lv_at hl 0 rfl) ?_
              refine lv_aload_n hx hb dX1_take_128 rfl (lv_at hl 1 rfl) ?_
              refine g_get (v := .ref (q 4)) hC hR.1.1 (C := RX1) (T := TX1) (N := 6) rfl u1_in 3 (by decide) k_706 rfl dX1_take_129 ?_
              refine g_alen 1 hC (hR.1.arr 3 (by decide) (n := 24) rfl rfl) rfl dX1_take_132 ?_
              refine g_cRi (k2 := 0) (n2 := 0) (g_runSN (rest := []) hC (c_X4_isIndex hE b (nI 24)) Y_X4_isIndex k_140 S_X4_isIndex trivial rfl hl.1 dX1_take_133 ⟨Nat.le_of_ble_eq_true rfl, Nat.le_of_ble_eq_true rfl⟩ ⟨Nat.le_of_ble_eq_true rfl, Nat.le_of_ble_eq_true rfl⟩ rfl (Nat.le_of_ble_eq_true rfl)) rfl rfl g_no (fun r50_ h51_ => ?_)
              refine lv_if_eq (tgt := 146) hx hb dX1_take_136 (by decide) (fun c52_ => ?_) (fun c52_ => ?_)
              · have q53_ := bz.f h51_ c52_
                exact g_vretW hC hr dX1_take_146 hS (Nat.le_of_ble_eq_true rfl) (Nat.le_of_ble_eq_true rfl) (by unfold tk; rw [cif_neg (by grind), cif_neg (by grind), cif_neg (by grind), cif_neg (by grind), cif_neg (by grind)]; exact hR)
              · have q53_ := bz.t h51_ c52_
                obtain ⟨j_b, hj_b, rfl⟩ := isP_of (n := 24) (p := b) (by assumption) (by omega)
                have ej_b : (nI j_b).toNatClampNeg = j_b := nI_clamp (by omega)
                have ipj_b : isP (24) (nI j_b) := isP_nI hj_b (by omega)
                refine lv_aload_n hx hb dX1_take_139 rfl (lv_at hl 1 rfl) ?_
                refine g_get (v := .ref (q 4)) hC hR.1.1 (C := RX1) (T := TX1) (N := 6) rfl u1_in 3 (by decide) k_706 rfl dX1_take_140 ?_
                refine lv_iload_n hx hb dX1_take_143 rfl (lv_at hl 0 rfl) ?_
                refine lv_iconst (v := 1) hx hb dX1_take_144 (by decide) ?_
                refine o_zast (n := 24) (j := j_b) 3 (by decide) rfl rfl hC hR hS (by omega) rfl dX1_take_145 (fun H lo hR hS => ?_)
                exact g_vretW hC hr dX1_take_146 hS (Nat.le_of_ble_eq_true rfl) (Nat.le_of_ble_eq_true rfl) (by unfold tk; rw [cif_neg (by grind), cif_neg (by grind), cif_neg (by grind), cif_neg (by grind), cif_pos (by grind)]; simp only [ix, ej_b]; exact hR)
          · refine lv_aload_n hx hb dX1_take_108 rfl (lv_at hl 1 rfl) ?_
            refine lv_aload_n hx hb dX1_take_109 rfl (lv_at hl 2 rfl) ?_
            refine g_get (v := .int v) hC hp_ (C := RX2) (T := TX2) (N := 3) rfl u2_in 2 (by decide) k_156 rfl dX1_take_110 ?_
            refine o_put 4 (by decide) hC hR hS k_707 dX1_take_113 (fun H lo hR hS => ?_)
            refine lv_goto (tgt := 146) hx hb dX1_take_116 (by decide) ?_
            exact g_vretW hC hr dX1_take_146 hS (Nat.le_of_ble_eq_true rfl) (Nat.le_of_ble_eq_true rfl) (by unfold tk; rw [cif_neg (by grind), cif_neg (by grind), cif_neg (by grind), cif_pos (by grind)]; exact hR)
        · refine lv_iload_n hx hb dX1_take_75 rfl (lv_at hl 0 rfl) ?_
          refine lv_aload_n hx hb dX1_take_76 rfl (lv_at hl 1 rfl) ?_
          refine g_get (v := .ref (q 3)) hC hR.1.1 (C := RX1) (T := TX1) (N := 6) rfl u1_in 2 (by decide) k_705 rfl dX1_take_77 ?_
          refine g_alen 0 hC (hR.1.arr 2 (by decide) (n := 8) rfl rfl) rfl dX1_take_80 ?_
          refine g_cRi (k2 := 0) (n2 := 0) (g_runSN (rest := []) hC (c_X4_isIndex hE b (nI 8)) Y_X4_isIndex k_140 S_X4_isIndex trivial rfl hl.1 dX1_take_81 ⟨Nat.le_of_ble_eq_true rfl, Nat.le_of_ble_eq_true rfl⟩ ⟨Nat.le_of_ble_eq_true rfl, Nat.le_of_ble_eq_true rfl⟩ rfl (Nat.le_of_ble_eq_true rfl)) rfl rfl g_no (fun r54_ h55_ => ?_)
          refine lv_if_eq (tgt := 100) hx hb dX1_take_84 (by decide) (fun c56_ => ?_) (fun c56_ => ?_)
          · have q57_ := bz.f h55_ c56_
            refine lv_aload_n hx hb dX1_take_100 rfl (lv_at hl 2 rfl) ?_
            refine g_get (v := .int ma) hC hp_ (C := RX2) (T := TX2) (N := 3) rfl u2_in 0 (by decide) k_152 rfl dX1_take_101 ?_
            refine lv_iconst (v := 3) hx hb dX1_take_104 (by decide) ?_
            refine lv_icmp_ne (tgt := 119) hx hb dX1_take_105 (by decide) (fun c58_ => ?_) (fun c58_ => ?_)
            · refine lv_aload_n hx hb dX1_take_119 rfl (lv_at hl 2 rfl) ?_
              refine g_get (v := .int ma) hC hp_ (C := RX2) (T := TX2) (N := 3) rfl u2_in 0 (by decide) k_152 rfl dX1_take_120 ?_
              refine lv_iconst (v := 4) hx hb dX1_take_123 (by decide) ?_
              refine lv_icmp_ne (tgt := 146) hx hb dX1_take_124 (by decide) (fun c59_ => ?_) (fun c59_ => ?_)
              · exact g_vretW hC hr dX1_take_146 hS (Nat.le_of_ble_eq_true rfl) (Nat.le_of_ble_eq_true rfl) (by unfold tk; rw [cif_neg (by grind), cif_neg (by grind), cif_neg (by grind), cif_neg (by grind), cif_neg (by grind)]; exact hR)
              · refine lv_iload_n hx hb dX1_take_127 rfl (lv_at hl 0 rfl) ?_
                refine lv_aload_n hx hb dX1_take_128 rfl (lv_at hl 1 rfl) ?_
                refine g_get (v := .ref (q 4)) hC hR.1.1 (C := RX1) (T := TX1) (N := 6) rfl u1_in 3 (by decide) k_706 rfl dX1_take_129 ?_
                refine g_alen 1 hC (hR.1.arr 3 (by decide) (n := 24) rfl rfl) rfl dX1_take_132 ?_
                refine g_cRi (k2 := 0) (n2 := 0) (g_runSN (rest := []) hC (c_X4_isIndex hE b (nI 24)) Y_X4_isIndex k_140 S_X4_isIndex trivial rfl hl.1 dX1_take_133 ⟨Nat.le_of_ble_eq_true rfl, Nat.le_of_ble_eq_true rfl⟩ ⟨Nat.le_of_ble_eq_true rfl, Nat.le_of_ble_eq_true rfl⟩ rfl (Nat.le_of_ble_eq_true rfl)) rfl rfl g_no (fun r60_ h61_ => ?_)
                refine lv_if_eq (tgt := 146) hx hb dX1_take_136 (by decide) (fun c62_ => ?_) (fun c62_ => ?_)
                · have q63_ := bz.f h61_ c62_
                  exact g_vretW hC hr dX1_take_146 hS (Nat.le_of_ble_eq_true rfl) (Nat.le_of_ble_eq_true rfl) (by unfold tk; rw [cif_neg (by grind), cif_neg (by grind), cif_neg (by grind), cif_neg (by grind), cif_neg (by grind)]; exact hR)
                · have q63_ := bz.t h61_ c62_
                  obtain ⟨j_b, hj_b, rfl⟩ := isP_of (n := 24) (p := b) (by assumption) (by omega)
                  have ej_b : (nI j_b).toNatClampNeg = j_b := nI_clamp (by omega)
                  have ipj_b : isP (24) (nI j_b) := isP_nI hj_b (by omega)
                  refine lv_aload_n hx hb dX1_take_139 rfl (lv_at hl 1 rfl) ?_
                  refine g_get (v := .ref (q 4)) hC hR.1.1 (C := RX1) (T := TX1) (N := 6) rfl u1_in 3 (by decide) k_706 rfl dX1_take_140 ?_
                  refine lv_iload_n hx hb dX1_take_143 rfl (lv_at hl 0 rfl) ?_
                  refine lv_iconst (v := 1) hx hb dX1_take_144 (by decide) ?_
                  refine o_zast (n := 24) (j := j_b) 3 (by decide) rfl rfl hC hR hS (by omega) rfl dX1_take_145 (fun H lo hR hS => ?_)
                  exact g_vretW hC hr dX1_take_146 hS (Nat.le_of_ble_eq_true rfl) (Nat.le_of_ble_eq_true rfl) (by unfold tk; rw [cif_neg (by grind), cif_neg (by grind), cif_neg (by grind), cif_neg (by grind), cif_pos (by grind)]; simp only [ix, ej_b]; exact hR)
            · refine lv_aload_n hx hb dX1_take_108 rfl (lv_at hl 1 rfl) ?_
              refine lv_aload_n hx hb dX1_take_109 rfl (lv_at hl 2 rfl) ?_
              refine g_get (v := .int v) hC hp_ (C := RX2) (T := TX2) (N := 3) rfl u2_in 2 (by decide) k_156 rfl dX1_take_110 ?_
              refine o_put 4 (by decide) hC hR hS k_707 dX1_take_113 (fun H lo hR hS => ?_)
              refine lv_goto (tgt := 146) hx hb dX1_take_116 (by decide) ?_
              exact g_vretW hC hr dX1_take_146 hS (Nat.le_of_ble_eq_true rfl) (Nat.le_of_ble_eq_true rfl) (by unfold tk; rw [cif_neg (by grind), cif_neg (by grind), cif_neg (by grind), cif_pos (by grind)]; exact hR)
          · have q57_ := bz.t h55_ c56_
            obtain ⟨j_b, hj_b, rfl⟩ := isP_of (n := 8) (p := b) (by assumption) (by omega)
            have ej_b : (nI j_b).toNatClampNeg = j_b := nI_clamp (by omega)
            have ipj_b : isP (8) (nI j_b) := isP_nI hj_b (by omega)
            refine lv_aload_n hx hb dX1_take_87 rfl (lv_at hl 1 rfl) ?_
            refine g_get (v := .ref (q 3)) hC hR.1.1 (C := RX1) (T := TX1) (N := 6) rfl u1_in 2 (by decide) k_705 rfl dX1_take_88 ?_
            refine lv_iload_n hx hb dX1_take_91 rfl (lv_at hl 0 rfl) ?_
            refine lv_aload_n hx hb dX1_take_92 rfl (lv_at hl 2 rfl) ?_
            refine g_get (v := .int v) hC hp_ (C := RX2) (T := TX2) (N := 3) rfl u2_in 2 (by decide) k_156 rfl dX1_take_93 ?_
            refine o_iast (n := 8) (j := j_b) 2 (by decide) rfl rfl hC hR hS (by omega) dX1_take_96 (fun H lo hR hS => ?_)
            refine lv_goto (tgt := 146) hx hb dX1_take_97 (by decide) ?_
            exact g_vretW hC hr dX1_take_146 hS (Nat.le_of_ble_eq_true rfl) (Nat.le_of_ble_eq_true rfl) (by unfold tk; rw [cif_neg (by grind), cif_neg (by grind), cif_pos (by grind)]; simp only [ix, ej_b]; exact hR)
      · refine lv_iload_n hx hb dX1_take_45 rfl (lv_at hl 0 rfl) ?_
        refine lv_aload_n hx hb dX1_take_46 rfl (lv_at hl 1 rfl) ?_
        refine g_get (v := .ref (q 2)) hC hR.1.1 (C := RX1) (T := TX1) (N := 6) rfl u1_in 1 (by decide) k_704 rfl dX1_take_47 ?_
        refine g_alen 1 hC (hR.1.arr 1 (by decide) (n := 20) rfl rfl) rfl dX1_take_50 ?_
        refine g_cRi (k2 := 0) (n2 := 0) (g_runSN (rest := []) hC (c_X4_isIndex hE b (nI 20)) Y_X4_isIndex k_140 S_X4_isIndex trivial rfl hl.1 dX1_take_51 ⟨Nat.le_of_ble_eq_true rfl, Nat.le_of_ble_eq_true rfl⟩ ⟨Nat.le_of_ble_eq_true rfl, Nat.le_of_ble_eq_true rfl⟩ rfl (Nat.le_of_ble_eq_true rfl)) rfl rfl g_no (fun r64_ h65_ => ?_)
        refine lv_if_eq (tgt := 67) hx hb dX1_take_54 (by decide) (fun c66_ => ?_) (fun c66_ => ?_)
        · have q67_ := bz.f h65_ c66_
          refine lv_aload_n hx hb dX1_take_67 rfl (lv_at hl 2 rfl) ?_
          refine g_get (v := .int ma) hC hp_ (C := RX2) (T := TX2) (N := 3) rfl u2_in 0 (by decide) k_152 rfl dX1_take_68 ?_
          refine lv_iconst (v := 2) hx hb dX1_take_71 (by decide) ?_
          refine lv_icmp_ne (tgt := 100) hx hb dX1_take_72 (by decide) (fun c68_ => ?_) (fun c68_ => ?_)
          · refine lv_aload_n hx hb dX1_take_100 rfl (lv_at hl 2 rfl) ?_
            refine g_get (v := .int ma) hC hp_ (C := RX2) (T := TX2) (N := 3) rfl u2_in 0 (by decide) k_152 rfl dX1_take_101 ?_
            refine lv_iconst (v := 3) hx hb dX1_take_104 (by decide) ?_
            refine lv_icmp_ne (tgt := 119) hx hb dX1_take_105 (by decide) (fun c69_ => ?_) (fun c69_ => ?_)
            · refine lv_aload_n hx hb dX1_take_119 rfl (lv_at hl 2 rfl) ?_
              refine g_get (v := .int ma) hC hp_ (C := RX2) (T := TX2) (N := 3) rfl u2_in 0 (by decide) k_152 rfl dX1_take_120 ?_
              refine lv_iconst (v := 4) hx hb dX1_take_123 (by decide) ?_
              refine lv_icmp_ne (tgt := 146) hx hb dX1_take_124 (by decide) (fun c70_ => ?_) (fun c70_ => ?_)
              · exact g_vretW hC hr dX1_take_146 hS (Nat.le_of_ble_eq_true rfl) (Nat.le_of_ble_eq_true rfl) (by unfold tk; rw [cif_neg (by grind), cif_neg (by grind), cif_neg (by grind), cif_neg (by grind), cif_neg (by grind)]; exact hR)
              · refine lv_iload_n hx hb dX1_take_127 rfl (lv_at hl 0 rfl) ?_
                refine lv_aload_n hx hb dX1_take_128 rfl (lv_at hl 1 rfl) ?_
                refine g_get (v := .ref (q 4)) hC hR.1.1 (C := RX1) (T := TX1) (N := 6) rfl u1_in 3 (by decide) k_706 rfl dX1_take_129 ?_
                refine g_alen 1 hC (hR.1.arr 3 (by decide) (n := 24) rfl rfl) rfl dX1_take_132 ?_
                refine g_cRi (k2 := 0) (n2 := 0) (g_runSN (rest := []) hC (c_X4_isIndex hE b (nI 24)) Y_X4_isIndex k_140 S_X4_isIndex trivial rfl hl.1 dX1_take_133 ⟨Nat.le_of_ble_eq_true rfl, Nat.le_of_ble_eq_true rfl⟩ ⟨Nat.le_of_ble_eq_true rfl, Nat.le_of_ble_eq_true rfl⟩ rfl (Nat.le_of_ble_eq_true rfl)) rfl rfl g_no (fun r71_ h72_ => ?_)
                refine lv_if_eq (tgt := 146) hx hb dX1_take_136 (by decide) (fun c73_ => ?_) (fun c73_ => ?_)
                · have q74_ := bz.f h72_ c73_
                  exact g_vretW hC hr dX1_take_146 hS (Nat.le_of_ble_eq_true rfl) (Nat.le_of_ble_eq_true rfl) (by unfold tk; rw [cif_neg (by grind), cif_neg (by grind), cif_neg (by grind), cif_neg (by grind), cif_neg (by grind)]; exact hR)
                · have q74_ := bz.t h72_ c73_
                  obtain ⟨j_b, hj_b, rfl⟩ := isP_of (n := 24) (p := b) (by assumption) (by omega)
                  have ej_b : (nI j_b).toNatClampNeg = j_b := nI_clamp (by omega)
                  have ipj_b : isP (24) (nI j_b) := isP_nI hj_b (by omega)
                  refine lv_aload_n hx hb dX1_take_139 rfl (lv_at hl 1 rfl) ?_
                  refine g_get (v := .ref (q 4)) hC hR.1.1 (C := RX1) (T := TX1) (N := 6) rfl u1_in 3 (by decide) k_706 rfl dX1_take_140 ?_
                  refine lv_iload_n hx hb dX1_take_143 rfl (lv_at hl 0 rfl) ?_
                  refine lv_iconst (v := 1) hx hb dX1_take_144 (by decide) ?_
                  refine o_zast (n := 24) (j := j_b) 3 (by decide) rfl rfl hC hR hS (by omega) rfl dX1_take_145 (fun H lo hR hS => ?_)
                  exact g_vretW hC hr dX1_take_146 hS (Nat.le_of_ble_eq_true rfl) (Nat.le_of_ble_eq_true rfl) (by unfold tk; rw [cif_neg (by grind), cif_neg (by grind), cif_neg (by grind), cif_neg (by grind), cif_pos (by grind)]; simp only [ix, ej_b]; exact hR)
            · refine lv_aload_n hx hb dX1_take_108 rfl (lv_at hl 1 rfl) ?_
              refine lv_aload_n hx hb dX1_take_109 rfl (lv_at hl 2 rfl) ?_
              refine g_get (v := .int v) hC hp_ (C := RX2) (T := TX2) (N := 3) rfl u2_in 2 (by decide) k_156 rfl dX1_take_110 ?_
              refine o_put 4 (by decide) hC hR hS k_707 dX1_take_113 (fun H lo hR hS => ?_)
              refine lv_goto (tgt := 146) hx hb dX1_take_116 (by decide) ?_
              exact g_vretW hC hr dX1_take_146 hS (Nat.le_of_ble_eq_true rfl) (Nat.le_of_ble_eq_true rfl) (by unfold tk; rw [cif_neg (by grind), cif_neg (by grind), cif_neg (by grind), cif_pos (by grind)]; exact hR)
          · refine lv_iload_n hx hb dX1_take_75 rfl (lv_at hl 0 rfl) ?_
            refine lv_aload_n hx hb dX1_take_76 rfl (lv_at hl 1 rfl) ?_
            refine g_get (v := .ref (q 3)) hC hR.1.1 (C := RX1) (T := TX1) (N := 6) rfl u1_in 2 (by decide) k_705 rfl dX1_take_77 ?_
            refine g_alen 0 hC (hR.1.arr 2 (by decide) (n := 8) rfl rfl) rfl dX1_take_80 ?_
            refine g_cRi (k2 := 0) (n2 := 0) (g_runSN (rest := []) hC (c_X4_isIndex hE b (nI 8)) Y_X4_isIndex k_140 S_X4_isIndex trivial rfl hl.1 dX1_take_81 ⟨Nat.le_of_ble_eq_true rfl, Nat.le_of_ble_eq_true rfl⟩ ⟨Nat.le_of_ble_eq_true rfl, Nat.le_of_ble_eq_true rfl⟩ rfl (Nat.le_of_ble_eq_true rfl)) rfl rfl g_no (fun r75_ h76_ => ?_)
            refine lv_if_eq (tgt := 100) hx hb dX1_take_84 (by decide) (fun c77_ => ?_) (fun c77_ => ?_)
            · have q78_ := bz.f h76_ c77_
              refine lv_aload_n hx hb dX1_take_100 rfl (lv_at hl 2 rfl) ?_
              refine g_get (v := .int ma) hC hp_ (C := RX2) (T := TX2) (N := 3) rfl u2_in 0 (by decide) k_152 rfl dX1_take_101 ?_
              refine lv_iconst (v := 3) hx hb dX1_take_104 (by decide) ?_
              refine lv_icmp_ne (tgt := 119) hx hb dX1_take_105 (by decide) (fun c79_ => ?_) (fun c79_ => ?_)
              · refine lv_aload_n hx hb dX1_take_119 rfl (lv_at hl 2 rfl) ?_
                refine g_get (v := .int ma) hC hp_ (C := RX2) (T := TX2) (N := 3) rfl u2_in 0 (by decide) k_152 rfl dX1_take_120 ?_
                refine lv_iconst (v := 4) hx hb dX1_take_123 (by decide) ?_
                refine lv_icmp_ne (tgt := 146) hx hb dX1_take_124 (by decide) (fun c80_ => ?_) (fun c80_ => ?_)
                · exact g_vretW hC hr dX1_take_146 hS (Nat.le_of_ble_eq_true rfl) (Nat.le_of_ble_eq_true rfl) (by unfold tk; rw [cif_neg (by grind), cif_neg (by grind), cif_neg (by grind), cif_neg (by grind), cif_neg (by grind)]; exact hR)
                · refine lv_iload_n hx hb dX1_take_127 rfl (lv_at hl 0 rfl) ?_
                  refine lv_aload_n hx hb dX1_take_128 rfl (lv_at hl 1 rfl) ?_
                  refine g_get (v := .ref (q 4)) hC hR.1.1 (C := RX1) (T := TX1) (N := 6) rfl u1_in 3 (by decide) k_706 rfl dX1_take_129 ?_
                  refine g_alen 1 hC (hR.1.arr 3 (by decide) (n := 24) rfl rfl) rfl dX1_take_132 ?_
                  refine g_cRi (k2 := 0) (n2 := 0) (g_runSN (rest := []) hC (c_X4_isIndex hE b (nI 24)) Y_X4_isIndex k_140 S_X4_isIndex trivial rfl hl.1 dX1_take_133 ⟨Nat.le_of_ble_eq_true rfl, Nat.le_of_ble_eq_true rfl⟩ ⟨Nat.le_of_ble_eq_true rfl, Nat.le_of_ble_eq_true rfl⟩ rfl (Nat.le_of_ble_eq_true rfl)) rfl rfl g_no (fun r81_ h82_ => ?_)
                  refine lv_if_eq (tgt := 146) hx hb dX1_take_136 (by decide) (fun c83_ => ?_) (fun c83_ => ?_)
                  · have q84_ := bz.f h82_ c83_
                    exact g_vretW hC hr dX1_take_146 hS (Nat.le_of_ble_eq_true rfl) (Nat.le_of_ble_eq_true rfl) (by unfold tk; rw [cif_neg (by grind), cif_neg (by grind), cif_neg (by grind), cif_neg (by grind), cif_neg (by grind)]; exact hR)
                  · have q84_ := bz.t h82_ c83_
                    obtain ⟨j_b, hj_b, rfl⟩ := isP_of (n := 24) (p := b) (by assumption) (by omega)
                    have ej_b : (nI j_b).toNatClampNeg = j_b := nI_clamp (by omega)
                    have ipj_b : isP (24) (nI j_b) := isP_nI hj_b (by omega)
                    refine lv_aload_n hx hb dX1_take_139 rfl (lv_at hl 1 rfl) ?_
                    refine g_get (v := .ref (q 4)) hC hR.1.1 (C := RX1) (T := TX1) (N := 6) rfl u1_in 3 (by decide) k_706 rfl dX1_take_140 ?_
                    refine lv_iload_n hx hb dX1_take_143 rfl (lv_at hl 0 rfl) ?_
                    refine lv_iconst (v := 1) hx hb dX1_take_144 (by decide) ?_
                    refine o_zast (n := 24) (j := j_b) 3 (by decide) rfl rfl hC hR hS (by omega) rfl dX1_take_145 (fun H lo hR hS => ?_)
                    exact g_vretW hC hr dX1_take_146 hS (Nat.le_of_ble_eq_true rfl) (Nat.le_of_ble_eq_true rfl) (by unfold tk; rw [cif_neg (by grind), cif_neg (by grind), cif_neg (by grind), cif_neg (by grind), cif_pos (by grind)]; simp only [ix, ej_b]; exact hR)
              · refine lv_aload_n hx hb dX1_take_108 rfl (lv_at hl 1 rfl) ?_
                refine lv_aload_n hx hb dX1_take_109 rfl (lv_at hl 2 rfl) ?_
                refine g_get (v := .int v) hC hp_ (C := RX2) (T := TX2) (N := 3) rfl u2_in 2 (by decide) k_156 rfl dX1_take_110 ?_
                refine o_put 4 (by decide) hC hR hS k_707 dX1_take_113 (fun H lo hR hS => ?_)
                refine lv_goto (tgt := 146) hx hb dX1_take_116 (by decide) ?_
                exact g_vretW hC hr dX1_take_146 hS (Nat.le_of_ble_eq_true rfl) (Nat.le_of_ble_eq_true rfl) (by unfold tk; rw [cif_neg (by grind), cif_neg (by grind), cif_neg (by grind), cif_pos (by grind)]; exact hR)
            · have q78_ := bz.t h76_ c77_
              obtain ⟨j_b, hj_b, rfl⟩ := isP_of (n := 8) (p := b) (by assumption) (by omega)
              have ej_b : (nI j_b).toNatClampNeg = j_b := nI_clamp (by omega)
              have ipj_b : isP (8) (nI j_b) := isP_nI hj_b (by omega)
              refine lv_aload_n hx hb dX1_take_87 rfl (lv_at hl 1 rfl) ?_
              refine g_get (v := .ref (q 3)) hC hR.1.1 (C := RX1) (T := TX1) (N := 6) rfl u1_in 2 (by decide) k_705 rfl dX1_take_88 ?_
              refine lv_iload_n hx hb dX1_take_91 rfl (lv_at hl 0 rfl) ?_
              refine lv_aload_n hx hb dX1_take_92 rfl (lv_at hl 2 rfl) ?_
              refine g_get (v := .int v) hC hp_ (C := RX2) (T := TX2) (N := 3) rfl u2_in 2 (by decide) k_156 rfl dX1_take_93 ?_
              refine o_iast (n := 8) (j := j_b) 2 (by decide) rfl rfl hC hR hS (by omega) dX1_take_96 (fun H lo hR hS => ?_)
              refine lv_goto (tgt := 146) hx hb dX1_take_97 (by decide) ?_
              exact g_vretW hC hr dX1_take_146 hS (Nat.le_of_ble_eq_true rfl) (Nat.le_of_ble_eq_true rfl) (by unfold tk; rw [cif_neg (by grind), cif_neg (by grind), cif_pos (by grind)]; simp only [ix, ej_b]; exact hR)
        · have q67_ := bz.t h65_ c66_
          obtain ⟨j_b, hj_b, rfl⟩ := isP_of (n := 20) (p := b) (by assumption) (by omega)
          have ej_b : (nI j_b).toNatClampNeg = j_b := nI_clamp (by omega)
          have ipj_b : isP (20) (nI j_b) := isP_nI hj_b (by omega)
          refine lv_aload_n hx hb dX1_take_57 rfl (lv_at hl 1 rfl) ?_
          refine g_get (v := .ref (q 2)) hC hR.1.1 (C := RX1) (T := TX1) (N := 6) rfl u1_in 1 (by decide) k_704 rfl dX1_take_58 ?_
          refine lv_iload_n hx hb dX1_take_61 rfl (lv_at hl 0 rfl) ?_
          refine lv_iconst (v := 1) hx hb dX1_take_62 (by decide) ?_
          refine o_zast (n := 20) (j := j_b) 1 (by decide) rfl rfl hC hR hS (by omega) rfl dX1_take_63 (fun H lo hR hS => ?_)
          refine lv_goto (tgt := 146) hx hb dX1_take_64 (by decide) ?_
          exact g_vretW hC hr dX1_take_146 hS (Nat.le_of_ble_eq_true rfl) (Nat.le_of_ble_eq_true rfl) (by unfold tk; rw [cif_neg (by grind), cif_pos (by grind)]; simp only [ix, ej_b]; exact hR)
    · have q45_ := bz.t h43_ c44_
      obtain ⟨j_b, hj_b, rfl⟩ := isP_of (n := 20) (p := b) (by assumption) (by omega)
      have ej_b : (nI j_b).toNatClampNeg = j_b := nI_clamp (by omega)
      have ipj_b : isP (20) (nI j_b) := isP_nI hj_b (by omega)
      refine lv_aload_n hx hb dX1_take_24 rfl (lv_at hl 1 rfl) ?_
      refine g_get (v := .ref (q 1)) hC hR.1.1 (C := RX1) (T := TX1) (N := 6) rfl u1_in 0 (by decide) k_703 rfl dX1_take_25 ?_
      refine lv_iload_n hx hb dX1_take_28 rfl (lv_at hl 0 rfl) ?_
      refine lv_aload_n hx hb dX1_take_29 rfl (lv_at hl 2 rfl) ?_
      refine g_get (v := .int v) hC hp_ (C := RX2) (T := TX2) (N := 3) rfl u2_in 2 (by decide) k_156 rfl dX1_take_30 ?_
      refine o_iast (n := 20) (j := j_b) 0 (by decide) rfl rfl hC hR hS (by omega) dX1_take_33 (fun H lo hR hS => ?_)
      refine lv_goto (tgt := 146) hx hb dX1_take_34 (by decide) ?_
      exact g_vretW hC hr dX1_take_146 hS (Nat.le_of_ble_eq_true rfl) (Nat.le_of_ble_eq_true rfl) (by unfold tk; rw [cif_pos (by grind)]; simp only [ix, ej_b]; exact hR)
