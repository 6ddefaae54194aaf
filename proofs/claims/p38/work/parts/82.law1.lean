/-! THE LAW'S OWN BODY -/
set_option maxHeartbeats 4000000 in
set_option maxRecDepth 100000 in
theorem q_step {p_ : Program} {l : Launch} {e_ : Env} {s : State} {m : MethodId} {args : Array Value} {below : List Frame} {meth : Method} {c : Code} {Q : State → Prop} {E : gV} (hE : gOK l E) {b L : Nat} {xs : Nat → Int32} (hX : va_X b L xs E.2.1 E.2.1.heap) (hbl : b < E.2.1.heap.size) (hL : L < 2 ^ 31) {nb oa : Nat} (hnb : E.2.1.heap.size ≤ nb) (hC : gC l E p_ s m meth c RL cL_law 8) {k n D cells slots : Nat} {H : Heap} {lo : List Loc} {ls : Array Slot} (hk : k < 34) (hn : n < 500) (hD : D ≤ 391) (hc1 : cells + 16 ≤ 600074) (hc2 : slots + 3000 ≤ 7301550) (hJ : NJ E nb oa D n 1 H) (hS : va_S (gA0 E) E.2.1.heap H lo) (hl : lv_has ls 8 [(0, .ref b), (1, .ref nb), (2, .ref oa), (3, .int (nI k))])
    (kk : ∀ (H1 : Heap) (lo1 : List Loc) (ls1 : Array Slot), NJ E nb oa (D + 9) (n + 1) 1 H1 → va_S (gA0 E) E.2.1.heap H1 lo1 → lv_has ls1 8 [(7, .int (nI 0)), (6, .int 1), (0, .ref b), (1, .ref nb), (2, .ref oa), (3, .int (nI k))] → W p_ l e_ room_1 s m args below meth c H1 lo1 (cells + 16) (slots + 3000) Q (F0 m 190 ls1 [])) : W p_ l e_ room_1 s m args below meth c H lo (cells) (slots) Q (F0 m 34 ls []) := by
  have hx := hC.2.2.1
  have hb := hC.2.2.2.1
  obtain ⟨f, μ, K, ⟨hSI, hA, hN⟩, h2, h1⟩ := hJ
  have hU := hSI.pu
  have hb0 := hN.b0
  have hb1 := hN.b1
  have hb2 := hN.b2
  obtain ⟨wd, hw1, hw2, hd4, hd23⟩ := hN.win
  refine lv_bipush (v := 110) hx hb dL_law_34 (by decide) ?_
  refine lv_bipush (v := 9) hx hb dL_law_36 (by decide) ?_
  refine lv_iload_n hx hb dL_law_38 rfl (lv_at hl 3 rfl) ?_
  refine g_nmuln (a := 9) (b := k) hx hb dL_law_39 ?_
  refine g_naddn (a := 110) (b := 9 * k) hx hb dL_law_40 ?_
  refine lv_istore (lv' := [(4, .int (nI (110 + 9 * k))), (0, .ref b), (1, .ref nb), (2, .ref oa), (3, .int (nI k))]) hx hb dL_law_41 hl (by decide) rfl (fun ls hl => ?_)
  refine lv_aload_n hx hb dL_law_43 rfl (lv_at hl 1 rfl) ?_
  refine lv_iload hx hb dL_law_44 (lv_at hl 0 rfl) ?_
  refine lv_bipush (v := 8) hx hb dL_law_46 (by decide) ?_
  refine g_naddn (a := 110 + 9 * k) (b := 8) hx hb dL_law_48 ?_
  refine lv_bipush (v := 8) hx hb dL_law_49 (by decide) ?_
  refine g_cRi (k2 := cells + 0) (n2 := slots + 0) (g_runS (rest := []) hC (c_L_in hE hX hbl hL (110 + 9 * k + 8) (8) (by omega) (by omega) (by omega)) Y_L_in k_654 S_L_in hSI.frz rfl hl.1 dL_law_51 ⟨Nat.le_of_ble_eq_true rfl, Nat.le_of_ble_eq_true rfl⟩ ⟨by show cells + 0 + 0 ≤ 600074; omega, by show slots + 0 + 0 ≤ 7301550; omega⟩ rfl (Nat.le_of_ble_eq_true rfl)) (by show cells + 0 + 0 = cells + 0; omega) (by show slots + 0 + 0 = slots + 0; omega) g_no (fun r1_ h2_ => ?_)
  obtain ⟨ja, hja, rfl⟩ := h2_
  refine lv_istore (lv' := [(5, .int (nI ja)), (4, .int (nI (110 + 9 * k))), (0, .ref b), (1, .ref nb), (2, .ref oa), (3, .int (nI k))]) hx hb dL_law_54 hl (by decide) rfl (fun ls hl => ?_)
  refine lv_iload hx hb dL_law_56 (lv_at hl 0 rfl) ?_
  refine lv_bipush (v := 6) hx hb dL_law_58 (by decide) ?_
  refine lv_icmp_lt (tgt := 69) hx hb dL_law_60 (by decide) (fun c3_ => ?_) (fun c3_ => ?_)
  · have n4_ : ja < 6 := (nI_ltI (by omega) (by omega)).mp c3_
    refine lv_aload_n hx hb dL_law_69 rfl (lv_at hl 4 rfl) ?_
    refine lv_aload_n hx hb dL_law_70 rfl (lv_at hl 3 rfl) ?_
    refine lv_aload_n hx hb dL_law_71 rfl (lv_at hl 2 rfl) ?_
    refine lv_iload hx hb dL_law_72 (lv_at hl 1 rfl) ?_
    refine g_cWi (k2 := cells + 8) (n2 := slots + 2050) (g_runS (rest := []) hC (c_L_isDone hE hX hbl hL hN hnb h2 h1 hn hD (110 + 9 * k) (by omega)) Y_L_isDone k_858 S_L_isDone ⟨hSI, hA⟩ rfl hl.1 dL_law_74 ⟨Nat.le_of_ble_eq_true rfl, Nat.le_of_ble_eq_true rfl⟩ ⟨by show cells + 0 + 8 ≤ 600074; omega, by show slots + 0 + 2050 ≤ 7301550; omega⟩ rfl (Nat.le_of_ble_eq_true rfl)) hS (fun _ h => h) (by show cells + 0 + 8 = cells + 8; omega) (by show slots + 0 + 2050 = slots + 2050; omega) (fun r5_ H lo h6_ hz_ hk_ hS => ?_)
    obtain ⟨rfl, hJ⟩ := h6_
    refine lv_istore (lv' := [(6, .int 1), (5, .int (nI ja)), (4, .int (nI (110 + 9 * k))), (0, .ref b), (1, .ref nb), (2, .ref oa), (3, .int (nI k))]) hx hb dL_law_77 hl (by decide) rfl (fun ls hl => ?_)
    refine lv_goto (tgt := 187) hx hb dL_law_79 (by decide) ?_
    refine lv_iconst (v := 0) hx hb dL_law_187 (by decide) ?_
    refine lv_istore (lv' := [(7, .int 0), (6, .int 1), (5, .int (nI ja)), (4, .int (nI (110 + 9 * k))), (0, .ref b), (1, .ref nb), (2, .ref oa), (3, .int (nI k))]) hx hb dL_law_188 hl (by decide) rfl (fun ls hl => ?_)
    exact W.widen (by omega) (by omega) (kk H lo ls hJ hS (lv_sub hl [0, 1, 4, 5, 6, 7] rfl))
  · have n4_ : 6 ≤ ja := Nat.not_lt.mp (fun z => c3_ (show nI (ja) < nI (6) from (nI_ltI (by omega) (by omega)).mpr z))
    refine lv_aload_n hx hb dL_law_63 rfl (lv_at hl 3 rfl) ?_
    refine lv_iconst (v := 2) hx hb dL_law_64 (by decide) ?_
    refine g_iald (n := 450) (f := f) (j := 2) hC hA (by omega) (by decide) dL_law_65 ?_
    rw [show f (2) = nI (K 2) from hN.k2]
    refine lv_if_ne (tgt := 82) hx hb dL_law_66 (by decide) (fun c7_ => ?_) (fun c7_ => ?_)
    · have q8_ : ¬ (K 2) = 0 := fun z => c7_ (congrArg nI z)
      refine lv_iload hx hb dL_law_82 (lv_at hl 0 rfl) ?_
      refine lv_bipush (v := 6) hx hb dL_law_84 (by decide) ?_
      refine lv_icmp_ne (tgt := 150) hx hb dL_law_86 (by decide) (fun c9_ => ?_) (fun c9_ => ?_)
      · have n10_ : ¬ ja = 6 := fun z => c9_ (congrArg nI z)
        refine lv_aload_n hx hb dL_law_150 rfl (lv_at hl 3 rfl) ?_
        refine lv_iconst (v := 4) hx hb dL_law_151 (by decide) ?_
        refine g_iald (n := 450) (f := f) (j := 4) hC hA (by omega) (by decide) dL_law_152 ?_
        rw [show f (4) = nI wd from hd4]
        refine lv_istore (lv' := [(7, .int (nI wd)), (5, .int (nI ja)), (4, .int (nI (110 + 9 * k))), (0, .ref b), (1, .ref nb), (2, .ref oa), (3, .int (nI k))]) hx hb dL_law_153 hl (by decide) rfl (fun ls hl => ?_)
        refine lv_aload_n hx hb dL_law_155 rfl (lv_at hl 4 rfl) ?_
        refine lv_iconst (v := 4) hx hb dL_law_156 (by decide) ?_
        refine lv_iconst (v := 1) hx hb dL_law_157 (by decide) ?_
        refine lv_aload_n hx hb dL_law_158 rfl (lv_at hl 3 rfl) ?_
        refine lv_iload hx hb dL_law_159 (lv_at hl 2 rfl) ?_
        refine lv_bipush (v := 60) hx hb dL_law_161 (by decide) ?_
        refine g_cRi (k2 := cells + 0) (n2 := slots + 0) (g_runS (rest := [.int 1, .int 4, .ref nb]) hC (c_L_in hE hX hbl hL (110 + 9 * k) (60) (by omega) (by omega) (by omega)) Y_L_in k_654 S_L_in hSI.frz rfl hl.1 dL_law_163 ⟨Nat.le_of_ble_eq_true rfl, Nat.le_of_ble_eq_true rfl⟩ ⟨by show cells + 0 + 0 ≤ 600074; omega, by show slots + 0 + 0 ≤ 7301550; omega⟩ rfl (Nat.le_of_ble_eq_true rfl)) (by show cells + 0 + 0 = cells + 0; omega) (by show slots + 0 + 0 = slots + 0; omega) g_no (fun r11_ h12_ => ?_)
        obtain ⟨jx, hjx, rfl⟩ := h12_
        refine g_naddn (a := 1) (b := jx) hx hb dL_law_166 ?_
        refine g_iast (n := 450) (f := f) (j := 4) (x := nI (1 + jx)) hC hA hS hnb (by omega) (by decide) dL_law_167 (fun H lo hA hz_ ho_ hS => ?_)
        have hSI := hSI.netw hnb hz_ ho_
        have hA : gNet E nb (upd f (4) (nI (1 + jx))) H := hA
        have hN14_ : NL (upd f (4) (nI (1 + jx))) (up2 μ 23 0 (nI (1 + jx))) K D := hN.setw (by omega) (by omega)
        obtain ⟨g13_, eg13_⟩ : ∃ g_, g_ = (upd f (4) (nI (1 + jx))) := ⟨_, rfl⟩
        rw [← eg13_] at hN14_ hA
        refine lv_aload_n hx hb dL_law_168 rfl (lv_at hl 5 rfl) ?_
        refine lv_aload_n hx hb dL_law_169 rfl (lv_at hl 4 rfl) ?_
        refine lv_iconst (v := 4) hx hb dL_law_170 (by decide) ?_
        refine g_iald (n := 450) (f := g13_) (j := 4) hC hA (by omega) (by decide) dL_law_171 ?_
        rw [show g13_ (4) = nI (1 + jx) from (by rw [eg13_, upd_s])]
        refine g_cWi (k2 := cells + 4) (n2 := slots + 1030) (g_runSH (n := 2) (rest := []) hC (w_setWindow hE (nb := nb) (oa := oa) (n := n) (μ := μ) (K := K) (nI (1 + jx)) (by omega)) Z_setWindow.1 Z_setWindow.2.1 Z_setWindow.2.2.1 k_624 Z_setWindow.2.2.2 hSI rfl hl.1 dL_law_172 ⟨Nat.le_of_ble_eq_true rfl, Nat.le_of_ble_eq_true rfl⟩ ⟨by show cells + 0 + 4 ≤ 600074; omega, by show slots + 0 + 1030 ≤ 7301550; omega⟩ rfl (Nat.le_of_ble_eq_true rfl)) hS (fun q h => h.1) (by show cells + 0 + 4 = cells + 4; omega) (by show slots + 0 + 1030 = slots + 1030; omega) (fun r15_ H lo hw16_ hz_ hk_ hS => ?_)
        have hA := hA.kept (hk_ nb hA.lt (fun z => z.2 rfl))
        obtain ⟨er_, hSI⟩ := hw16_.ok (kw_0 ⟨nI_le (a := 1) (by omega) (by omega), nI_le (b := 99) (by omega) (by omega)⟩)
        rw [hd23] at er_
        have er_ : r15_ = nI wd := er_
        subst er_
        refine lv_iload hx hb dL_law_175 (lv_at hl 0 rfl) ?_
        refine lv_icmp_ne (tgt := 184) hx hb dL_law_177 (by decide) (fun c17_ => ?_) (fun c17_ => ?_)
        · exact absurd rfl c17_
        · refine lv_iconst (v := 1) hx hb dL_law_180 (by decide) ?_
          refine lv_goto (tgt := 185) hx hb dL_law_181 (by decide) ?_
          refine lv_istore (lv' := [(6, .int 1), (7, .int (nI wd)), (5, .int (nI ja)), (4, .int (nI (110 + 9 * k))), (0, .ref b), (1, .ref nb), (2, .ref oa), (3, .int (nI k))]) hx hb dL_law_185 hl (by decide) rfl (fun ls hl => ?_)
          refine lv_iconst (v := 0) hx hb dL_law_187 (by decide) ?_
          refine lv_istore (lv' := [(7, .int 0), (6, .int 1), (5, .int (nI ja)), (4, .int (nI (110 + 9 * k))), (0, .ref b), (1, .ref nb), (2, .ref oa), (3, .int (nI k))]) hx hb dL_law_188 hl (by decide) rfl (fun ls hl => ?_)
          have hJ : NJ E nb oa (D + 9) (n + 1) 1 H := ⟨_, _, _, ⟨hSI, hA, hN14_.mono (by omega) (by omega)⟩, h2, h1⟩
          exact W.widen (by omega) (by omega) (kk H lo ls hJ hS (lv_sub hl [0, 1, 4, 5, 6, 7] rfl))
      · have n10_ : ja = 6 := (nI_eq (by omega) (by omega)).mp c9_
        refine lv_aload_n hx hb dL_law_89 rfl (lv_at hl 2 rfl) ?_
        refine lv_iload hx hb dL_law_90 (lv_at hl 1 rfl) ?_
        refine lv_iconst (v := 4) hx hb dL_law_92 (by decide) ?_
        refine g_cRi (k2 := cells + 0) (n2 := slots + 0) (g_runS (rest := []) hC (c_L_in hE hX hbl hL (110 + 9 * k) (4) (by omega) (by omega) (by omega)) Y_L_in k_654 S_L_in hSI.frz rfl hl.1 dL_law_93 ⟨Nat.le_of_ble_eq_true rfl, Nat.le_of_ble_eq_true rfl⟩ ⟨by show cells + 0 + 0 ≤ 600074; omega, by show slots + 0 + 0 ≤ 7301550; omega⟩ rfl (Nat.le_of_ble_eq_true rfl)) (by show cells + 0 + 0 = cells + 0; omega) (by show slots + 0 + 0 = slots + 0; omega) g_no (fun r18_ h19_ => ?_)
        obtain ⟨jb, hjb, rfl⟩ := h19_
        refine lv_if_ne (tgt := 118) hx hb dL_law_96 (by decide) (fun c20_ => ?_) (fun c20_ => ?_)
        · have q21_ : ¬ jb = 0 := fun z => c20_ (congrArg nI z)
          refine lv_aload_n hx hb dL_law_118 rfl (lv_at hl 4 rfl) ?_
          refine lv_aload_n hx hb dL_law_119 rfl (lv_at hl 3 rfl) ?_
          refine lv_aload_n hx hb dL_law_120 rfl (lv_at hl 2 rfl) ?_
          refine lv_iload hx hb dL_law_121 (lv_at hl 1 rfl) ?_
          refine lv_iconst (v := 1) hx hb dL_law_123 (by decide) ?_
          refine g_naddn (a := 110 + 9 * k) (b := 1) hx hb dL_law_124 ?_
          refine lv_aload_n hx hb dL_law_125 rfl (lv_at hl 3 rfl) ?_
          refine lv_iconst (v := 2) hx hb dL_law_126 (by decide) ?_
          refine g_iald (n := 450) (f := f) (j := 2) hC hA (by omega) (by decide) dL_law_127 ?_
          rw [show f (2) = nI (K 2) from hN.k2]
          refine g_cRi (k2 := cells + 0) (n2 := slots + 0) (g_runS (rest := [.ref nb, .ref oa]) hC (c_L_in hE hX hbl hL (110 + 9 * k + 1) (K 2) (by omega) (by omega) (by omega)) Y_L_in k_654 S_L_in hSI.frz rfl hl.1 dL_law_128 ⟨Nat.le_of_ble_eq_true rfl, Nat.le_of_ble_eq_true rfl⟩ ⟨by show cells + 0 + 0 ≤ 600074; omega, by show slots + 0 + 0 ≤ 7301550; omega⟩ rfl (Nat.le_of_ble_eq_true rfl)) (by show cells + 0 + 0 = cells + 0; omega) (by show slots + 0 + 0 = slots + 0; omega) g_no (fun r22_ h23_ => ?_)
          obtain ⟨jd, hjd, rfl⟩ := h23_
          refine lv_aload_n hx hb dL_law_131 rfl (lv_at hl 2 rfl) ?_
          refine lv_iload hx hb dL_law_132 (lv_at hl 1 rfl) ?_
          refine lv_iconst (v := 2) hx hb dL_law_134 (by decide) ?_
          refine g_naddn (a := 110 + 9 * k) (b := 2) hx hb dL_law_135 ?_
          refine lv_aload_n hx hb dL_law_136 rfl (lv_at hl 3 rfl) ?_
          refine lv_iconst (v := 0) hx hb dL_law_137 (by decide) ?_
          refine g_iald (n := 450) (f := f) (j := 0) hC hA (by omega) (by decide) dL_law_138 ?_
          rw [show f (0) = nI (K 0) from hN.k0]
          refine g_cRi (k2 := cells + 0) (n2 := slots + 0) (g_runS (rest := [.int (nI jd), .ref nb, .ref oa]) hC (c_L_in hE hX hbl hL (110 + 9 * k + 2) (K 0) (by omega) (by omega) (by omega)) Y_L_in k_654 S_L_in hSI.frz rfl hl.1 dL_law_139 ⟨Nat.le_of_ble_eq_true rfl, Nat.le_of_ble_eq_true rfl⟩ ⟨by show cells + 0 + 0 ≤ 600074; omega, by show slots + 0 + 0 ≤ 7301550; omega⟩ rfl (Nat.le_of_ble_eq_true rfl)) (by show cells + 0 + 0 = cells + 0; omega) (by show slots + 0 + 0 = slots + 0; omega) g_no (fun r24_ h25_ => ?_)
          obtain ⟨jw, hjw, rfl⟩ := h25_
          refine g_cWi (k2 := cells + 4) (n2 := slots + 30) (g_runS (rest := []) hC (c_L_isRatified hE hN hnb h2 h1 hn hD jd jw (by omega) (by omega)) Y_L_isRatified k_843 S_L_isRatified ⟨hSI, hA⟩ rfl hl.1 dL_law_142 ⟨Nat.le_of_ble_eq_true rfl, Nat.le_of_ble_eq_true rfl⟩ ⟨by show cells + 0 + 4 ≤ 600074; omega, by show slots + 0 + 30 ≤ 7301550; omega⟩ rfl (Nat.le_of_ble_eq_true rfl)) hS (fun _ h => h) (by show cells + 0 + 4 = cells + 4; omega) (by show slots + 0 + 30 = slots + 30; omega) (fun r26_ H lo h27_ hz_ hk_ hS => ?_)
          obtain ⟨rfl, hJ⟩ := h27_
          refine lv_istore (lv' := [(6, .int 1), (5, .int (nI ja)), (4, .int (nI (110 + 9 * k))), (0, .ref b), (1, .ref nb), (2, .ref oa), (3, .int (nI k))]) hx hb dL_law_145 hl (by decide) rfl (fun ls hl => ?_)
          refine lv_goto (tgt := 187) hx hb dL_law_147 (by decide) ?_
          refine lv_iconst (v := 0) hx hb dL_law_187 (by decide) ?_
          refine lv_istore (lv' := [(7, .int 0), (6, .int 1), (5, .int (nI ja)), (4, .int (nI (110 + 9 * k))), (0, .ref b), (1, .ref nb), (2, .ref oa), (3, .int (nI k))]) hx hb dL_law_188 hl (by decide) rfl (fun ls hl => ?_)
          exact W.widen (by omega) (by omega) (kk H lo ls hJ hS (lv_sub hl [0, 1, 4, 5, 6, 7] rfl))
        · have q21_ : jb = 0 := (nI_eq (by omega) (by omega)).mp c20_
          refine lv_aload_n hx hb dL_law_99 rfl (lv_at hl 4 rfl) ?_
          refine lv_aload_n hx hb dL_law_100 rfl (lv_at hl 3 rfl) ?_
          refine lv_aload_n hx hb dL_law_101 rfl (lv_at hl 2 rfl) ?_
          refine lv_iload hx hb dL_law_102 (lv_at hl 1 rfl) ?_
          refine lv_iconst (v := 1) hx hb dL_law_104 (by decide) ?_
          refine g_naddn (a := 110 + 9 * k) (b := 1) hx hb dL_law_105 ?_
          refine lv_aload_n hx hb dL_law_106 rfl (lv_at hl 3 rfl) ?_
          refine lv_iconst (v := 2) hx hb dL_law_107 (by decide) ?_
          refine g_iald (n := 450) (f := f) (j := 2) hC hA (by omega) (by decide) dL_law_108 ?_
          rw [show f (2) = nI (K 2) from hN.k2]
          refine g_cRi (k2 := cells + 0) (n2 := slots + 0) (g_runS (rest := [.ref nb, .ref oa]) hC (c_L_in hE hX hbl hL (110 + 9 * k + 1) (K 2) (by omega) (by omega) (by omega)) Y_L_in k_654 S_L_in hSI.frz rfl hl.1 dL_law_109 ⟨Nat.le_of_ble_eq_true rfl, Nat.le_of_ble_eq_true rfl⟩ ⟨by show cells + 0 + 0 ≤ 600074; omega, by show slots + 0 + 0 ≤ 7301550; omega⟩ rfl (Nat.le_of_ble_eq_true rfl)) (by show cells + 0 + 0 = cells + 0; omega) (by show slots + 0 + 0 = slots + 0; omega) g_no (fun r28_ h29_ => ?_)
          obtain ⟨jd, hjd, rfl⟩ := h29_
          refine g_cWi (k2 := cells + 6) (n2 := slots + 1040) (g_runS (rest := []) hC (c_L_isAnnulled hE hN hnb h2 h1 hn hD jd (by omega)) Y_L_isAnnulled k_855 S_L_isAnnulled ⟨hSI, hA⟩ rfl hl.1 dL_law_112 ⟨Nat.le_of_ble_eq_true rfl, Nat.le_of_ble_eq_true rfl⟩ ⟨by show cells + 0 + 6 ≤ 600074; omega, by show slots + 0 + 1040 ≤ 7301550; omega⟩ rfl (Nat.le_of_ble_eq_true rfl)) hS (fun _ h => h) (by show cells + 0 + 6 = cells + 6; omega) (by show slots + 0 + 1040 = slots + 1040; omega) (fun r30_ H lo h31_ hz_ hk_ hS => ?_)
          obtain ⟨rfl, hJ⟩ := h31_
          refine lv_goto (tgt := 145) hx hb dL_law_115 (by decide) ?_
          refine lv_istore (lv' := [(6, .int 1), (5, .int (nI ja)), (4, .int (nI (110 + 9 * k))), (0, .ref b), (1, .ref nb), (2, .ref oa), (3, .int (nI k))]) hx hb dL_law_145 hl (by decide) rfl (fun ls hl => ?_)
          refine lv_goto (tgt := 187) hx hb dL_law_147 (by decide) ?_
          refine lv_iconst (v := 0) hx hb dL_law_187 (by decide) ?_
          refine lv_istore (lv' := [(7, .int 0), (6, .int 1), (5, .int (nI ja)), (4, .int (nI (110 + 9 * k))), (0, .ref b), (1, .ref nb), (2, .ref oa), (3, .int (nI k))]) hx hb dL_law_188 hl (by decide) rfl (fun ls hl => ?_)
          exact W.widen (by omega) (by omega) (kk H lo ls hJ hS (lv_sub hl [0, 1, 4, 5, 6, 7] rfl))
    · have q8_ : (K 2) = 0 := (nI_eq (by omega) (by omega)).mp c7_
      refine lv_aload_n hx hb dL_law_69 rfl (lv_at hl 4 rfl) ?_
      refine lv_aload_n hx hb dL_law_70 rfl (lv_at hl 3 rfl) ?_
      refine lv_aload_n hx hb dL_law_71 rfl (lv_at hl 2 rfl) ?_
      refine lv_iload hx hb dL_law_72 (lv_at hl 1 rfl) ?_
      refine g_cWi (k2 := cells + 8) (n2 := slots + 2050) (g_runS (rest := []) hC (c_L_isDone hE hX hbl hL hN hnb h2 h1 hn hD (110 + 9 * k) (by omega)) Y_L_isDone k_858 S_L_isDone ⟨hSI, hA⟩ rfl hl.1 dL_law_74 ⟨Nat.le_of_ble_eq_true rfl, Nat.le_of_ble_eq_true rfl⟩ ⟨by show cells + 0 + 8 ≤ 600074; omega, by show slots + 0 + 2050 ≤ 7301550; omega⟩ rfl (Nat.le_of_ble_eq_true rfl)) hS (fun _ h => h) (by show cells + 0 + 8 = cells + 8; omega) (by show slots + 0 + 2050 = slots + 2050; omega) (fun r32_ H lo h33_ hz_ hk_ hS => ?_)
      obtain ⟨rfl, hJ⟩ := h33_
      refine lv_istore (lv' := [(6, .int 1), (5, .int (nI ja)), (4, .int (nI (110 + 9 * k))), (0, .ref b), (1, .ref nb), (2, .ref oa), (3, .int (nI k))]) hx hb dL_law_77 hl (by decide) rfl (fun ls hl => ?_)
      refine lv_goto (tgt := 187) hx hb dL_law_79 (by decide) ?_
      refine lv_iconst (v := 0) hx hb dL_law_187 (by decide) ?_
      refine lv_istore (lv' := [(7, .int 0), (6, .int 1), (5, .int (nI ja)), (4, .int (nI (110 + 9 * k))), (0, .ref b), (1, .ref nb), (2, .ref oa), (3, .int (nI k))]) hx hb dL_law_188 hl (by decide) rfl (fun ls hl => ?_)
      exact W.widen (by omega) (by omega) (kk H lo ls hJ hS (lv_sub hl [0, 1, 4, 5, 6, 7] rfl))
set_option maxHeartbeats 4000000 in
set_option maxRecDepth 100000 in
theorem q_told {p_ : Program} {l : Launch} {e_ : Env} {s : State} {m : MethodId} {args : Array Value} {below : List Frame} {meth : Method} {c : Code} {Q : State → Prop} {E : gV} (hE : gOK l E) {b L : Nat} {xs : Nat → Int32} (hX : va_X b L xs E.2.1 E.2.1.heap) (hbl : b < E.2.1.heap.size) (hL : L < 2 ^ 31) {nb oa : Nat} (hnb : E.2.1.heap.size ≤ nb) (hC : gC l E p_ s m meth c RL cL_law 8) {f : Nat → Int32} {μ : F2} {K : Nat → Nat} {n D k : Nat} (hN : NL f μ K D) (hn : n < 500) {C S : Nat} (hC1 : C ≤ 600074) (hS1 : S ≤ 7301550) (fin : ∀ (H1 : Heap) (lo1 : List Loc) (ls1 : Array Slot), NT E nb oa f μ K n H1 → va_S (gA0 E) E.2.1.heap H1 lo1 → lv_has ls1 8 [(6, .int 1), (0, .ref b), (1, .ref nb), (2, .ref oa), (3, .int (nI k))] → W p_ l e_ room_1 s m args below meth c H1 lo1 (C) (S) Q (F0 m 216 ls1 [])) :
    ∀ (e1 d cells slots : Nat) (H : Heap) (lo : List Loc) (ls : Array Slot), d + e1 = K 2 → cells + 9 * e1 ≤ C → slots + 54 * e1 ≤ S → NT E nb oa f μ K n H → va_S (gA0 E) E.2.1.heap H lo → lv_has ls 8 [(7, .int (nI d)), (6, .int 1), (0, .ref b), (1, .ref nb), (2, .ref oa), (3, .int (nI k))] → W p_ l e_ room_1 s m args below meth c H lo (cells) (slots) Q (F0 m 190 ls []) := by
  have hx := hC.2.2.1
  have hb := hC.2.2.2.1
  have hb2 := hN.b2
  intro e1
  induction e1 with
  | zero =>
    intro d cells slots H lo ls hd hc1 hc2 hT hS hl
    have hSI := hT.1
    have hA := hT.2
    refine lv_iload hx hb dL_law_190 (lv_at hl 0 rfl) ?_
    refine lv_aload_n hx hb dL_law_192 rfl (lv_at hl 3 rfl) ?_
    refine lv_iconst (v := 2) hx hb dL_law_193 (by decide) ?_
    refine g_iald (n := 450) (f := f) (j := 2) hC hA (by omega) (by decide) dL_law_194 ?_
    rw [show f (2) = nI (K 2) from hN.k2]
    refine lv_icmp_ge (tgt := 216) hx hb dL_law_195 (by decide) (fun c1_ => ?_) (fun c1_ => ?_)
    · exact W.widen (by omega) (by omega) (fin H lo ls hT hS (lv_sub hl [1, 2, 3, 4, 5] rfl))
    · exact absurd (nI_le (show K 2 ≤ d by omega) (by omega)) c1_
  | succ e1 ih =>
    intro d cells slots H lo ls hd hc1 hc2 hT hS hl
    have hSI := hT.1
    have hA := hT.2
    refine lv_iload hx hb dL_law_190 (lv_at hl 0 rfl) ?_
    refine lv_aload_n hx hb dL_law_192 rfl (lv_at hl 3 rfl) ?_
    refine lv_iconst (v := 2) hx hb dL_law_193 (by decide) ?_
    refine g_iald (n := 450) (f := f) (j := 2) hC hA (by omega) (by decide) dL_law_194 ?_
    rw [show f (2) = nI (K 2) from hN.k2]
    refine lv_icmp_ge (tgt := 216) hx hb dL_law_195 (by decide) (fun c1_ => ?_) (fun c1_ => ?_)
    · exact absurd (le_nI (by omega) (by omega) c1_) (by omega)
    · refine lv_iload hx hb dL_law_198 (lv_at hl 1 rfl) ?_
      refine lv_aload_n hx hb dL_law_200 rfl (lv_at hl 4 rfl) ?_
      refine lv_aload_n hx hb dL_law_201 rfl (lv_at hl 3 rfl) ?_
      refine lv_iload hx hb dL_law_202 (lv_at hl 0 rfl) ?_
      refine g_cWi (k2 := cells + 9) (n2 := slots + 54) (g_runS (rest := [.int 1]) hC (c_L_isTold hE hN hnb hn d (by omega)) Y_L_isTold k_915 S_L_isTold ⟨hSI, hA⟩ rfl hl.1 dL_law_204 ⟨Nat.le_of_ble_eq_true rfl, Nat.le_of_ble_eq_true rfl⟩ ⟨by show cells + 0 + 9 ≤ 600074; omega, by show slots + 0 + 54 ≤ 7301550; omega⟩ rfl (Nat.le_of_ble_eq_true rfl)) hS (fun _ h => h) (by show cells + 0 + 9 = cells + 9; omega) (by show slots + 0 + 54 = slots + 54; omega) (fun r2_ H lo h3_ hz_ hk_ hS => ?_)
      obtain ⟨rfl, hT⟩ := h3_
      refine lv_iand hx hb dL_law_207 ?_
      rw [show ((1 : Int32) &&& 1) = 1 from by decide]
      refine lv_istore (lv' := [(6, .int 1), (7, .int (nI d)), (0, .ref b), (1, .ref nb), (2, .ref oa), (3, .int (nI k))]) hx hb dL_law_208 hl (by decide) rfl (fun ls hl => ?_)
      refine lv_iinc (v := nI (d + 1)) (lv' := [(7, .int (nI (d + 1))), (6, .int 1), (0, .ref b), (1, .ref nb), (2, .ref oa), (3, .int (nI k))]) hx hb dL_law_210 hl (k := 1) rfl (g_inc _) (by decide) rfl (fun ls hl => ?_)
      refine lv_goto (tgt := 190) hx hb dL_law_213 (by decide) ?_
      exact W.widen (by omega) (by omega) (ih (d + 1) (cells + 9) (slots + 54) H lo ls (by omega) (by omega) (by omega) hT hS (lv_sub hl [0, 1, 2, 3, 4, 5] rfl))
