set_option maxHeartbeats 4000000 in
set_option maxRecDepth 100000 in
theorem c_L_isDone {l : Launch} {E : gV} (hE : gOK l E) {b L : Nat} {xs : Nat → Int32} (hX : va_X b L xs E.2.1 E.2.1.heap) (hbl : b < E.2.1.heap.size) (hL : L < 2 ^ 31) {nb oa n D : Nat} {f : Nat → Int32} {μ : F2} {K : Nat → Nat} (hN : NL f μ K D) (hnb : E.2.1.heap.size ≤ nb) (h2 : 2 ≤ K 0) (h1 : 1 ≤ K 1) (hn : n < 500) (hD : D ≤ 391) (i : Nat) (hi : i < 1000) : gM l E yL_isDone cL_isDone 6 (some .boolean) ({ frames := 14, cells := 8, slots := 2050, locals := 360 } : Room) [.ref oa, .ref nb, .ref b, .int (nI i)] (fun H => SI E nb oa μ K n H ∧ gNet E nb f H) (gQW (gA0 E) (gWi (fun r H => r = 1 ∧ NJ E nb oa (D + 9) (n + 1) 1 H))) (fun _ => False) (gA0 E) := by
  refine gM_body hE (by decide +kernel) (Nat.le_of_ble_eq_true rfl) ?_
  intro p_ e_ s m args below meth c hC ht hr hname hP ls hl
  have hx := hC.2.2.1
  have hb := hC.2.2.2.1
  have hl : lv_has ls 6 [(0, .ref oa), (1, .ref nb), (2, .ref b), (3, .int (nI i))] := hl
  have hS : va_S ((gA0 E)) s.heap s.heap [] := va_S.rf
  obtain ⟨hSI, hA⟩ := hP
  have hU := hSI.pu
  have hb0 := hN.b0
  have hb1 := hN.b1
  have hb2 := hN.b2
  refine lv_aload_n hx hb dL_isDone_0 rfl (lv_at hl 2 rfl) ?_
  refine lv_iload_n hx hb dL_isDone_1 rfl (lv_at hl 3 rfl) ?_
  refine lv_iconst (v := 1) hx hb dL_isDone_2 (by decide) ?_
  refine g_naddn (a := i) (b := 1) hx hb dL_isDone_3 ?_
  refine lv_aload_n hx hb dL_isDone_4 rfl (lv_at hl 1 rfl) ?_
  refine lv_iconst (v := 1) hx hb dL_isDone_5 (by decide) ?_
  refine g_iald (n := 450) (f := f) (j := 1) hC hA (by omega) (by decide) dL_isDone_6 ?_
  rw [show f (1) = nI (K 1) from hN.k1]
  refine g_cRi (k2 := 0) (n2 := 0) (g_runS (rest := []) hC (c_L_in hE hX hbl hL (i + 1) (K 1) (by omega) (by omega) (by omega)) Y_L_in k_654 S_L_in hSI.frz rfl hl.1 dL_isDone_7 ⟨Nat.le_of_ble_eq_true rfl, Nat.le_of_ble_eq_true rfl⟩ ⟨Nat.le_of_ble_eq_true rfl, Nat.le_of_ble_eq_true rfl⟩ rfl (Nat.le_of_ble_eq_true rfl)) rfl rfl g_no (fun r1_ h2_ => ?_)
  obtain ⟨jp, hjp, rfl⟩ := h2_
  refine lv_istore (lv' := [(4, .int (nI jp)), (0, .ref oa), (1, .ref nb), (2, .ref b), (3, .int (nI i))]) hx hb dL_isDone_10 hl (by decide) rfl (fun ls hl => ?_)
  refine lv_aload_n hx hb dL_isDone_12 rfl (lv_at hl 3 rfl) ?_
  refine lv_iload_n hx hb dL_isDone_13 rfl (lv_at hl 4 rfl) ?_
  refine lv_iconst (v := 2) hx hb dL_isDone_14 (by decide) ?_
  refine g_naddn (a := i) (b := 2) hx hb dL_isDone_15 ?_
  refine lv_aload_n hx hb dL_isDone_16 rfl (lv_at hl 2 rfl) ?_
  refine lv_iconst (v := 0) hx hb dL_isDone_17 (by decide) ?_
  refine g_iald (n := 450) (f := f) (j := 0) hC hA (by omega) (by decide) dL_isDone_18 ?_
  rw [show f (0) = nI (K 0) from hN.k0]
  refine g_cRi (k2 := 0) (n2 := 0) (g_runS (rest := []) hC (c_L_in hE hX hbl hL (i + 2) (K 0) (by omega) (by omega) (by omega)) Y_L_in k_654 S_L_in hSI.frz rfl hl.1 dL_isDone_19 ⟨Nat.le_of_ble_eq_true rfl, Nat.le_of_ble_eq_true rfl⟩ ⟨Nat.le_of_ble_eq_true rfl, Nat.le_of_ble_eq_true rfl⟩ rfl (Nat.le_of_ble_eq_true rfl)) rfl rfl g_no (fun r3_ h4_ => ?_)
  obtain ⟨jw, hjw, rfl⟩ := h4_
  refine lv_istore (lv' := [(5, .int (nI jw)), (4, .int (nI jp)), (0, .ref oa), (1, .ref nb), (2, .ref b), (3, .int (nI i))]) hx hb dL_isDone_22 hl (by decide) rfl (fun ls hl => ?_)
  refine lv_aload_n hx hb dL_isDone_24 rfl (lv_at hl 4 rfl) ?_
  refine lv_iload_n hx hb dL_isDone_25 rfl (lv_at hl 5 rfl) ?_
  refine lv_bipush (v := 12) hx hb dL_isDone_26 (by decide) ?_
  refine g_cRi (k2 := 0) (n2 := 0) (g_runS (rest := []) hC (c_L_in hE hX hbl hL (i) (12) (by omega) (by omega) (by omega)) Y_L_in k_654 S_L_in hSI.frz rfl hl.1 dL_isDone_28 ⟨Nat.le_of_ble_eq_true rfl, Nat.le_of_ble_eq_true rfl⟩ ⟨Nat.le_of_ble_eq_true rfl, Nat.le_of_ble_eq_true rfl⟩ rfl (Nat.le_of_ble_eq_true rfl)) rfl rfl g_no (fun r5_ h6_ => ?_)
  obtain ⟨jc, hjc, rfl⟩ := h6_
  rcases (by omega : jc = 0 ∨ jc = 1 ∨ jc = 2 ∨ jc = 3 ∨ jc = 4 ∨ jc = 5 ∨ jc = 6 ∨ 7 ≤ jc) with rfl | rfl | rfl | rfl | rfl | rfl | rfl | hsw_
  · refine lv_tableIn (tgt := 72) (off := 41) hx hb dL_isDone_31 (by decide) (by decide) (by decide) (by decide) ?_
    refine lv_aload_n hx hb dL_isDone_72 rfl (lv_at hl 2 rfl) ?_
    refine lv_aload_n hx hb dL_isDone_73 rfl (lv_at hl 3 rfl) ?_
    refine lv_aload_n hx hb dL_isDone_74 rfl (lv_at hl 4 rfl) ?_
    refine lv_iload_n hx hb dL_isDone_75 rfl (lv_at hl 5 rfl) ?_
    refine lv_iconst (v := 1) hx hb dL_isDone_76 (by decide) ?_
    refine g_naddn (a := i) (b := 1) hx hb dL_isDone_77 ?_
    refine g_cWi (k2 := 8) (n2 := 2050) (g_runS (rest := []) hC (c_L_isPower hE hX hbl hL hN hnb h2 hn hD (i + 1) (by omega)) Y_L_isPower k_753 S_L_isPower ⟨hSI, hA⟩ rfl hl.1 dL_isDone_78 ⟨Nat.le_of_ble_eq_true rfl, Nat.le_of_ble_eq_true rfl⟩ ⟨Nat.le_of_ble_eq_true rfl, Nat.le_of_ble_eq_true rfl⟩ rfl (Nat.le_of_ble_eq_true rfl)) hS (fun _ h => h) rfl rfl (fun r7_ H lo h8_ hz_ hk_ hS => ?_)
    obtain ⟨rfl, hJ⟩ := h8_
    exact g_zretW hC hr rfl dL_isDone_81 hS (Nat.le_of_ble_eq_true rfl) (Nat.le_of_ble_eq_true rfl) ⟨rfl, hJ⟩
  · refine lv_tableIn (tgt := 82) (off := 51) hx hb dL_isDone_31 (by decide) (by decide) (by decide) (by decide) ?_
    refine lv_aload_n hx hb dL_isDone_82 rfl (lv_at hl 2 rfl) ?_
    refine lv_aload_n hx hb dL_isDone_83 rfl (lv_at hl 3 rfl) ?_
    refine lv_aload_n hx hb dL_isDone_84 rfl (lv_at hl 4 rfl) ?_
    refine lv_iload_n hx hb dL_isDone_85 rfl (lv_at hl 5 rfl) ?_
    refine lv_iconst (v := 1) hx hb dL_isDone_86 (by decide) ?_
    refine g_naddn (a := i) (b := 1) hx hb dL_isDone_87 ?_
    refine g_cWi (k2 := 8) (n2 := 2050) (g_runS (rest := []) hC (c_L_isDelegated hE hX hbl hL hN hnb h2 h1 hn hD (i + 1) (by omega)) Y_L_isDelegated k_824 S_L_isDelegated ⟨hSI, hA⟩ rfl hl.1 dL_isDone_88 ⟨Nat.le_of_ble_eq_true rfl, Nat.le_of_ble_eq_true rfl⟩ ⟨Nat.le_of_ble_eq_true rfl, Nat.le_of_ble_eq_true rfl⟩ rfl (Nat.le_of_ble_eq_true rfl)) hS (fun _ h => h) rfl rfl (fun r9_ H lo h10_ hz_ hk_ hS => ?_)
    obtain ⟨rfl, hJ⟩ := h10_
    exact g_zretW hC hr rfl dL_isDone_91 hS (Nat.le_of_ble_eq_true rfl) (Nat.le_of_ble_eq_true rfl) ⟨rfl, hJ⟩
  · refine lv_tableIn (tgt := 92) (off := 61) hx hb dL_isDone_31 (by decide) (by decide) (by decide) (by decide) ?_
    refine lv_aload_n hx hb dL_isDone_92 rfl (lv_at hl 2 rfl) ?_
    refine lv_aload_n hx hb dL_isDone_93 rfl (lv_at hl 3 rfl) ?_
    refine lv_iload hx hb dL_isDone_94 (lv_at hl 1 rfl) ?_
    refine g_cWi (k2 := 4) (n2 := 1030) (g_runS (rest := []) hC (c_L_isRevoked hE hN hnb h2 h1 hn hD jp (by omega)) Y_L_isRevoked k_861 S_L_isRevoked ⟨hSI, hA⟩ rfl hl.1 dL_isDone_96 ⟨Nat.le_of_ble_eq_true rfl, Nat.le_of_ble_eq_true rfl⟩ ⟨Nat.le_of_ble_eq_true rfl, Nat.le_of_ble_eq_true rfl⟩ rfl (Nat.le_of_ble_eq_true rfl)) hS (fun _ h => h) rfl rfl (fun r11_ H lo h12_ hz_ hk_ hS => ?_)
    obtain ⟨rfl, hJ⟩ := h12_
    exact g_zretW hC hr rfl dL_isDone_99 hS (Nat.le_of_ble_eq_true rfl) (Nat.le_of_ble_eq_true rfl) ⟨rfl, hJ⟩
  · refine lv_tableIn (tgt := 100) (off := 69) hx hb dL_isDone_31 (by decide) (by decide) (by decide) (by decide) ?_
    obtain ⟨L0, hL01, hL02, eL0⟩ := hU.lim hjp
    refine lv_aload_n hx hb dL_isDone_100 rfl (lv_at hl 2 rfl) ?_
    refine lv_aload_n hx hb dL_isDone_101 rfl (lv_at hl 3 rfl) ?_
    refine lv_iload hx hb dL_isDone_102 (lv_at hl 1 rfl) ?_
    refine lv_aload_n hx hb dL_isDone_104 rfl (lv_at hl 4 rfl) ?_
    refine lv_iload_n hx hb dL_isDone_105 rfl (lv_at hl 5 rfl) ?_
    refine lv_iconst (v := 3) hx hb dL_isDone_106 (by decide) ?_
    refine g_naddn (a := i) (b := 3) hx hb dL_isDone_107 ?_
    refine lv_aload_n hx hb dL_isDone_108 rfl (lv_at hl 3 rfl) ?_
    refine lv_bipush (v := 33) hx hb dL_isDone_109 (by decide) ?_
    refine lv_bipush (v := 8) hx hb dL_isDone_111 (by decide) ?_
    refine lv_iload hx hb dL_isDone_113 (lv_at hl 1 rfl) ?_
    refine g_nmuln (a := 8) (b := jp) hx hb dL_isDone_115 ?_
    refine g_naddn (a := 33) (b := 8 * jp) hx hb dL_isDone_116 ?_
    refine g_iald (n := 450) (f := f) (j := 33 + 8 * jp) hC hA (by omega) (by decide) dL_isDone_117 ?_
    rw [show f (33 + 8 * jp) = nI L0 from ((hN.p5 (i := jp) (by omega) rfl).trans eL0)]
    refine lv_iconst (v := 2) hx hb dL_isDone_118 (by decide) ?_
    refine g_naddn (a := L0) (b := 2) hx hb dL_isDone_119 ?_
    refine g_cRi (k2 := 0) (n2 := 0) (g_runS (rest := [.int (nI jp), .ref nb, .ref oa]) hC (c_L_in hE hX hbl hL (i + 3) (L0 + 2) (by omega) (by omega) (by omega)) Y_L_in k_654 S_L_in hSI.frz rfl hl.1 dL_isDone_120 ⟨Nat.le_of_ble_eq_true rfl, Nat.le_of_ble_eq_true rfl⟩ ⟨Nat.le_of_ble_eq_true rfl, Nat.le_of_ble_eq_true rfl⟩ rfl (Nat.le_of_ble_eq_true rfl)) rfl rfl g_no (fun r13_ h14_ => ?_)
    obtain ⟨jl, hjl, rfl⟩ := h14_
    refine g_cWi (k2 := 4) (n2 := 1030) (g_runS (rest := []) hC (c_L_isLowered hE hN hnb h2 h1 hn hD jp jl (by omega) (by omega)) Y_L_isLowered k_879 S_L_isLowered ⟨hSI, hA⟩ rfl hl.1 dL_isDone_123 ⟨Nat.le_of_ble_eq_true rfl, Nat.le_of_ble_eq_true rfl⟩ ⟨Nat.le_of_ble_eq_true rfl, Nat.le_of_ble_eq_true rfl⟩ rfl (Nat.le_of_ble_eq_true rfl)) hS (fun _ h => h) rfl rfl (fun r15_ H lo h16_ hz_ hk_ hS => ?_)
    obtain ⟨rfl, hJ⟩ := h16_
    exact g_zretW hC hr rfl dL_isDone_126 hS (Nat.le_of_ble_eq_true rfl) (Nat.le_of_ble_eq_true rfl) ⟨rfl, hJ⟩
  · refine lv_tableIn (tgt := 127) (off := 96) hx hb dL_isDone_31 (by decide) (by decide) (by decide) (by decide) ?_
    refine lv_aload_n hx hb dL_isDone_127 rfl (lv_at hl 2 rfl) ?_
    refine lv_aload_n hx hb dL_isDone_128 rfl (lv_at hl 3 rfl) ?_
    refine lv_iload hx hb dL_isDone_129 (lv_at hl 0 rfl) ?_
    refine lv_aload_n hx hb dL_isDone_131 rfl (lv_at hl 4 rfl) ?_
    refine lv_iload_n hx hb dL_isDone_132 rfl (lv_at hl 5 rfl) ?_
    refine lv_iconst (v := 3) hx hb dL_isDone_133 (by decide) ?_
    refine g_naddn (a := i) (b := 3) hx hb dL_isDone_134 ?_
    refine lv_aload_n hx hb dL_isDone_135 rfl (lv_at hl 3 rfl) ?_
    refine lv_iconst (v := 0) hx hb dL_isDone_136 (by decide) ?_
    refine g_iald (n := 450) (f := f) (j := 0) hC hA (by omega) (by decide) dL_isDone_137 ?_
    rw [show f (0) = nI (K 0) from hN.k0]
    refine lv_iconst (v := 1) hx hb dL_isDone_138 (by decide) ?_
    refine g_naddn (a := K 0) (b := 1) hx hb dL_isDone_139 ?_
    refine g_cRi (k2 := 0) (n2 := 0) (g_runS (rest := [.int (nI jw), .ref nb, .ref oa]) hC (c_L_in hE hX hbl hL (i + 3) (K 0 + 1) (by omega) (by omega) (by omega)) Y_L_in k_654 S_L_in hSI.frz rfl hl.1 dL_isDone_140 ⟨Nat.le_of_ble_eq_true rfl, Nat.le_of_ble_eq_true rfl⟩ ⟨Nat.le_of_ble_eq_true rfl, Nat.le_of_ble_eq_true rfl⟩ rfl (Nat.le_of_ble_eq_true rfl)) rfl rfl g_no (fun r17_ h18_ => ?_)
    obtain ⟨jq, hjq, rfl⟩ := h18_
    refine lv_iconst (v := 1) hx hb dL_isDone_143 (by decide) ?_
    refine lv_isub hx hb dL_isDone_144 ?_
    rcases jq with _ | jq
    · rw [show nI 0 - 1 = (-1 : Int32) from rfl]
      refine g_cWi (k2 := 4) (n2 := 1030) (g_runS (rest := []) hC (c_L_isLeft1 hE hN hnb h2 h1 hn hD jw (by omega)) Y_L_isLeft k_890 S_L_isLeft ⟨hSI, hA⟩ rfl hl.1 dL_isDone_145 ⟨Nat.le_of_ble_eq_true rfl, Nat.le_of_ble_eq_true rfl⟩ ⟨Nat.le_of_ble_eq_true rfl, Nat.le_of_ble_eq_true rfl⟩ rfl (Nat.le_of_ble_eq_true rfl)) hS (fun _ h => h) rfl rfl (fun r19_ H lo h20_ hz_ hk_ hS => ?_)
      obtain ⟨rfl, hJ⟩ := h20_
      exact g_zretW hC hr rfl dL_isDone_148 hS (Nat.le_of_ble_eq_true rfl) (Nat.le_of_ble_eq_true rfl) ⟨rfl, hJ⟩
    · rw [nI_pred]
      refine g_cWi (k2 := 4) (n2 := 1030) (g_runS (rest := []) hC (c_L_isLeft2 hE hN hnb h2 h1 hn hD jw jq (by omega) (by omega)) Y_L_isLeft k_890 S_L_isLeft ⟨hSI, hA⟩ rfl hl.1 dL_isDone_145 ⟨Nat.le_of_ble_eq_true rfl, Nat.le_of_ble_eq_true rfl⟩ ⟨Nat.le_of_ble_eq_true rfl, Nat.le_of_ble_eq_true rfl⟩ rfl (Nat.le_of_ble_eq_true rfl)) hS (fun _ h => h) rfl rfl (fun r21_ H lo h22_ hz_ hk_ hS => ?_)
      obtain ⟨rfl, hJ⟩ := h22_
      exact g_zretW hC hr rfl dL_isDone_148 hS (Nat.le_of_ble_eq_true rfl) (Nat.le_of_ble_eq_true rfl) ⟨rfl, hJ⟩
  · refine lv_tableIn (tgt := 149) (off := 118) hx hb dL_isDone_31 (by decide) (by decide) (by decide) (by decide) ?_
    refine lv_aload_n hx hb dL_isDone_149 rfl (lv_at hl 2 rfl) ?_
    refine lv_aload_n hx hb dL_isDone_150 rfl (lv_at hl 3 rfl) ?_
    refine lv_iload hx hb dL_isDone_151 (lv_at hl 0 rfl) ?_
    refine g_cWi (k2 := 4) (n2 := 1030) (g_runS (rest := []) hC (c_L_isBack hE hN hnb h2 h1 hn hD jw (by omega)) Y_L_isBack k_893 S_L_isBack ⟨hSI, hA⟩ rfl hl.1 dL_isDone_153 ⟨Nat.le_of_ble_eq_true rfl, Nat.le_of_ble_eq_true rfl⟩ ⟨Nat.le_of_ble_eq_true rfl, Nat.le_of_ble_eq_true rfl⟩ rfl (Nat.le_of_ble_eq_true rfl)) hS (fun _ h => h) rfl rfl (fun r23_ H lo h24_ hz_ hk_ hS => ?_)
    obtain ⟨rfl, hJ⟩ := h24_
    exact g_zretW hC hr rfl dL_isDone_156 hS (Nat.le_of_ble_eq_true rfl) (Nat.le_of_ble_eq_true rfl) ⟨rfl, hJ⟩
  · refine lv_tableIn (tgt := 157) (off := 126) hx hb dL_isDone_31 (by decide) (by decide) (by decide) (by decide) ?_
    refine lv_aload_n hx hb dL_isDone_157 rfl (lv_at hl 2 rfl) ?_
    refine lv_aload_n hx hb dL_isDone_158 rfl (lv_at hl 3 rfl) ?_
    refine lv_iconst (v := 1) hx hb dL_isDone_159 (by decide) ?_
    refine lv_aload_n hx hb dL_isDone_160 rfl (lv_at hl 4 rfl) ?_
    refine lv_iload_n hx hb dL_isDone_161 rfl (lv_at hl 5 rfl) ?_
    refine lv_iconst (v := 3) hx hb dL_isDone_162 (by decide) ?_
    refine g_naddn (a := i) (b := 3) hx hb dL_isDone_163 ?_
    refine lv_bipush (v := 9) hx hb dL_isDone_164 (by decide) ?_
    refine g_cRi (k2 := 0) (n2 := 0) (g_runS (rest := [.int 1, .ref nb, .ref oa]) hC (c_L_in hE hX hbl hL (i + 3) (9) (by omega) (by omega) (by omega)) Y_L_in k_654 S_L_in hSI.frz rfl hl.1 dL_isDone_166 ⟨Nat.le_of_ble_eq_true rfl, Nat.le_of_ble_eq_true rfl⟩ ⟨Nat.le_of_ble_eq_true rfl, Nat.le_of_ble_eq_true rfl⟩ rfl (Nat.le_of_ble_eq_true rfl)) rfl rfl g_no (fun r25_ h26_ => ?_)
    obtain ⟨jd, hjd, rfl⟩ := h26_
    refine g_naddn (a := 1) (b := jd) hx hb dL_isDone_169 ?_
    refine g_cWi (k2 := 2) (n2 := 12) (g_runS (rest := []) hC (c_L_isPassed hE hN hnb h2 h1 hn hD (1 + jd) (by omega) (by omega)) Y_L_isPassed k_896 S_L_isPassed ⟨hSI, hA⟩ rfl hl.1 dL_isDone_170 ⟨Nat.le_of_ble_eq_true rfl, Nat.le_of_ble_eq_true rfl⟩ ⟨Nat.le_of_ble_eq_true rfl, Nat.le_of_ble_eq_true rfl⟩ rfl (Nat.le_of_ble_eq_true rfl)) hS (fun _ h => h) rfl rfl (fun r27_ H lo h28_ hz_ hk_ hS => ?_)
    obtain ⟨rfl, hJ⟩ := h28_
    exact g_zretW hC hr rfl dL_isDone_173 hS (Nat.le_of_ble_eq_true rfl) (Nat.le_of_ble_eq_true rfl) ⟨rfl, hJ⟩
  · have et_ : (nI jc).toInt = (jc : Int) := nI_toInt (by omega)
    refine lv_tableOut (tgt := 174) hx hb dL_isDone_31 (Or.inr (by rw [et_]; omega)) (by decide) ?_
    refine lv_aload_n hx hb dL_isDone_174 rfl (lv_at hl 2 rfl) ?_
    refine lv_aload_n hx hb dL_isDone_175 rfl (lv_at hl 3 rfl) ?_
    refine lv_aload_n hx hb dL_isDone_176 rfl (lv_at hl 4 rfl) ?_
    refine lv_iload_n hx hb dL_isDone_177 rfl (lv_at hl 5 rfl) ?_
    refine lv_iconst (v := 1) hx hb dL_isDone_178 (by decide) ?_
    refine g_naddn (a := i) (b := 1) hx hb dL_isDone_179 ?_
    refine g_cWi (k2 := 8) (n2 := 1060) (g_runS (rest := []) hC (c_L_isSigned hE hX hbl hL hN hnb h2 h1 hn hD (i + 1) (by omega)) Y_L_isSigned k_903 S_L_isSigned ⟨hSI, hA⟩ rfl hl.1 dL_isDone_180 ⟨Nat.le_of_ble_eq_true rfl, Nat.le_of_ble_eq_true rfl⟩ ⟨Nat.le_of_ble_eq_true rfl, Nat.le_of_ble_eq_true rfl⟩ rfl (Nat.le_of_ble_eq_true rfl)) hS (fun _ h => h) rfl rfl (fun r29_ H lo h30_ hz_ hk_ hS => ?_)
    obtain ⟨rfl, hJ⟩ := h30_
    exact g_zretW hC hr rfl dL_isDone_183 hS (Nat.le_of_ble_eq_true rfl) (Nat.le_of_ble_eq_true rfl) ⟨rfl, hJ⟩
set_option maxHeartbeats 4000000 in
set_option maxRecDepth 100000 in
theorem c_L_isTold {l : Launch} {E : gV} (hE : gOK l E) {nb oa n D : Nat} {f : Nat → Int32} {μ : F2} {K : Nat → Nat} (hN : NL f μ K D) (hnb : E.2.1.heap.size ≤ nb) (hn : n < 500) (d : Nat) (hd : d < K 2) : gM l E yL_isTold cL_isTold 10 (some .boolean) ({ frames := 11, cells := 9, slots := 54, locals := 205 } : Room) [.ref oa, .ref nb, .int (nI d)] (fun H => SI E nb oa μ K n H ∧ gNet E nb f H) (gQW (gA0 E) (gWi (fun r H => r = 1 ∧ NT E nb oa f μ K n H))) (fun _ => False) (gA0 E) := by
  refine gM_body hE (by decide +kernel) (Nat.le_of_ble_eq_true rfl) ?_
  intro p_ e_ s m args below meth c hC ht hr hname hP ls hl
  have hx := hC.2.2.1
  have hb := hC.2.2.2.1
  have hl : lv_has ls 10 [(0, .ref oa), (1, .ref nb), (2, .int (nI d))] := hl
  have hS : va_S ((gA0 E)) s.heap s.heap [] := va_S.rf
  obtain ⟨hSI, hA⟩ := hP
  have hU := hSI.pu
  have hb0 := hN.b0
  have hb1 := hN.b1
  have hb2 := hN.b2
  obtain ⟨c9, hc9, h5a, h5b⟩ := hN.st hd
  obtain ⟨l6, hl6⟩ : ∃ x, f (206 + 10 * d) = x := ⟨_, rfl⟩
  obtain ⟨l7, hl7⟩ : ∃ x, f (207 + 10 * d) = x := ⟨_, rfl⟩
  obtain ⟨l8, hl8⟩ : ∃ x, f (208 + 10 * d) = x := ⟨_, rfl⟩
  have hlk := hN.lk hd
  rw [hl6, hl7, hl8] at hlk
  have eix : ix (nI d) = d := nI_clamp (by omega)
  have h115 : μ 17 d = 115 ↔ c9 = 0 := by rw [h5b]; exact stc_115 hc9
  have hpl : (c9 = 0 ∨ l7 < 0) ↔ (mw μ 5 (ix (nI d)) = 115 ∨ μ 15 (ix (nI d)) < 0) := by
    rw [eix]
    show _ ↔ (μ 17 d = 115 ∨ μ 15 d < 0)
    by_cases z : c9 = 0
    · exact ⟨fun _ => Or.inl (h115.mpr z), fun _ => Or.inl z⟩
    · rw [(hlk (fun y => z (h115.mp y))).2.1, h115]
  refine lv_sipush (v := 200) hx hb dL_isTold_0 (by decide) ?_
  refine lv_bipush (v := 10) hx hb dL_isTold_3 (by decide) ?_
  refine lv_iload_n hx hb dL_isTold_5 rfl (lv_at hl 2 rfl) ?_
  refine g_nmuln (a := 10) (b := d) hx hb dL_isTold_6 ?_
  refine g_naddn (a := 200) (b := 10 * d) hx hb dL_isTold_7 ?_
  refine lv_istore_n (lv' := [(3, .int (nI (200 + 10 * d))), (0, .ref oa), (1, .ref nb), (2, .int (nI d))]) hx hb dL_isTold_8 rfl hl (by decide) rfl (fun ls hl => ?_)
  refine lv_aload_n hx hb dL_isTold_9 rfl (lv_at hl 2 rfl) ?_
  refine lv_iload_n hx hb dL_isTold_10 rfl (lv_at hl 0 rfl) ?_
  refine lv_iconst (v := 5) hx hb dL_isTold_11 (by decide) ?_
  refine g_naddn (a := 200 + 10 * d) (b := 5) hx hb dL_isTold_12 ?_
  refine g_iald (n := 450) (f := f) (j := 200 + 10 * d + 5) hC hA (by omega) (by decide) dL_isTold_13 ?_
  rw [show f (200 + 10 * d + 5) = nI c9 from (by rw [show 200 + 10 * d + 5 = 205 + 10 * d by omega]; exact h5a)]
  refine lv_istore (lv' := [(4, .int (nI c9)), (3, .int (nI (200 + 10 * d))), (0, .ref oa), (1, .ref nb), (2, .int (nI d))]) hx hb dL_isTold_14 hl (by decide) rfl (fun ls hl => ?_)
  refine g_join (pc1 := 50) (rest := []) (P := fun x => x = stc (nI c9)) (fun x_ hx2_ => ?_) (fun J1_ => ?_)
  · obtain rfl := hx2_
    refine lv_istore (lv' := [(5, .int (stc (nI c9))), (4, .int (nI c9)), (3, .int (nI (200 + 10 * d))), (0, .ref oa), (1, .ref nb), (2, .int (nI d))]) hx hb dL_isTold_50 hl (by decide) rfl (fun ls hl => ?_)
    refine lv_aload_n hx hb dL_isTold_52 rfl (lv_at hl 4 rfl) ?_
    refine lv_iload_n hx hb dL_isTold_53 rfl (lv_at hl 2 rfl) ?_
    refine lv_bipush (v := 6) hx hb dL_isTold_54 (by decide) ?_
    refine g_naddn (a := 200 + 10 * d) (b := 6) hx hb dL_isTold_56 ?_
    refine g_iald (n := 450) (f := f) (j := 200 + 10 * d + 6) hC hA (by omega) (by decide) dL_isTold_57 ?_
    rw [show f (200 + 10 * d + 6) = l6 from (by rw [show 200 + 10 * d + 6 = 206 + 10 * d by omega]; exact hl6)]
    refine lv_istore (lv' := [(6, .int l6), (5, .int (stc (nI c9))), (4, .int (nI c9)), (3, .int (nI (200 + 10 * d))), (0, .ref oa), (1, .ref nb), (2, .int (nI d))]) hx hb dL_isTold_58 hl (by decide) rfl (fun ls hl => ?_)
    refine g_join (pc1 := 105) (rest := []) (P := fun x => x = lch l6) (fun x_ hx4_ => ?_) (fun J3_ => ?_)
    · obtain rfl := hx4_
      refine lv_istore (lv' := [(7, .int (lch l6)), (6, .int l6), (5, .int (stc (nI c9))), (4, .int (nI c9)), (3, .int (nI (200 + 10 * d))), (0, .ref oa), (1, .ref nb), (2, .int (nI d))]) hx hb dL_isTold_105 hl (by decide) rfl (fun ls hl => ?_)
      refine g_join (pc1 := 126) (rest := []) (P := fun x => bz (c9 = 0 ∨ l7 < 0) x) (fun x8 hx6_ => ?_) (fun J5_ => ?_)
      · refine lv_istore (lv' := [(8, .int x8), (7, .int (lch l6)), (6, .int l6), (5, .int (stc (nI c9))), (4, .int (nI c9)), (3, .int (nI (200 + 10 * d))), (0, .ref oa), (1, .ref nb), (2, .int (nI d))]) hx hb dL_isTold_126 hl (by decide) rfl (fun ls hl => ?_)
        refine lv_aload_n hx hb dL_isTold_128 rfl (lv_at hl 6 rfl) ?_
        refine lv_iload_n hx hb dL_isTold_129 rfl (lv_at hl 8 rfl) ?_
        refine g_cWi (k2 := 1) (n2 := 6) (g_runSH (n := 2) (rest := []) hC (w_status hE (nb := nb) (oa := oa) (n := n) (μ := μ) (K := K) (nI d)) Z_status.1 Z_status.2.1 Z_status.2.2.1 k_586 Z_status.2.2.2 hSI rfl hl.1 dL_isTold_130 ⟨Nat.le_of_ble_eq_true rfl, Nat.le_of_ble_eq_true rfl⟩ ⟨Nat.le_of_ble_eq_true rfl, Nat.le_of_ble_eq_true rfl⟩ rfl (Nat.le_of_ble_eq_true rfl)) hS (fun q h => h.1) rfl rfl (fun r7_ H lo hw8_ hz_ hk_ hS => ?_)
        have hA := hA.kept (hk_ nb hA.lt (fun z => z.2 rfl))
        obtain ⟨er_, hSI⟩ := hw8_.ok (kp_0 (isP_nI hd (by omega)))
        simp only [show ix (nI d) = d from nI_clamp (by omega)] at er_ hSI
        rw [h5b] at er_
        have er_ : r7_ = stc (nI c9) := er_
        subst er_
        refine lv_iload hx hb dL_isTold_133 (lv_at hl 3 rfl) ?_
        refine lv_icmp_ne (tgt := 199) hx hb dL_isTold_135 (by decide) (fun c9_ => ?_) (fun c9_ => ?_)
        · exact absurd rfl c9_
        · refine lv_aload_n hx hb dL_isTold_138 rfl (lv_at hl 6 rfl) ?_
          refine lv_iload_n hx hb dL_isTold_139 rfl (lv_at hl 8 rfl) ?_
          refine g_cWi (k2 := 2) (n2 := 12) (g_runSH (n := 2) (rest := []) hC (w_sum hE (nb := nb) (oa := oa) (n := n) (μ := μ) (K := K) (nI d)) Z_sum.1 Z_sum.2.1 Z_sum.2.2.1 k_593 Z_sum.2.2.2 hSI rfl hl.1 dL_isTold_140 ⟨Nat.le_of_ble_eq_true rfl, Nat.le_of_ble_eq_true rfl⟩ ⟨Nat.le_of_ble_eq_true rfl, Nat.le_of_ble_eq_true rfl⟩ rfl (Nat.le_of_ble_eq_true rfl)) hS (fun q h => h.1) rfl rfl (fun r10_ H lo hw11_ hz_ hk_ hS => ?_)
          have hA := hA.kept (hk_ nb hA.lt (fun z => z.2 rfl))
          obtain ⟨er_, hSI⟩ := hw11_.ok (kp_0 (isP_nI hd (by omega)))
          simp only [show ix (nI d) = d from nI_clamp (by omega)] at er_ hSI
          have er_ : r10_ = μ 14 d := er_
          subst er_
          refine lv_aload_n hx hb dL_isTold_143 rfl (lv_at hl 7 rfl) ?_
          refine lv_iload_n hx hb dL_isTold_144 rfl (lv_at hl 5 rfl) ?_
          refine lv_iconst (v := 4) hx hb dL_isTold_145 (by decide) ?_
          refine g_naddn (a := 200 + 10 * d) (b := 4) hx hb dL_isTold_146 ?_
          refine g_iald (n := 450) (f := f) (j := 200 + 10 * d + 4) hC hA (by omega) (by decide) dL_isTold_147 ?_
          rw [show f (200 + 10 * d + 4) = μ 14 d from hN.d14 (d := d) (by omega) (by omega)]
          refine lv_icmp_ne (tgt := 199) hx hb dL_isTold_148 (by decide) (fun c12_ => ?_) (fun c12_ => ?_)
          · exact absurd rfl c12_
          · refine lv_aload_n hx hb dL_isTold_151 rfl (lv_at hl 6 rfl) ?_
            refine lv_iload_n hx hb dL_isTold_152 rfl (lv_at hl 8 rfl) ?_
            refine g_cWi (k2 := 3) (n2 := 18) (g_runSH (n := 2) (rest := []) hC (w_stands hE (nb := nb) (oa := oa) (n := n) (μ := μ) (K := K) (nI d)) Z_stands.1 Z_stands.2.1 Z_stands.2.2.1 k_643 Z_stands.2.2.2 hSI rfl hl.1 dL_isTold_153 ⟨Nat.le_of_ble_eq_true rfl, Nat.le_of_ble_eq_true rfl⟩ ⟨Nat.le_of_ble_eq_true rfl, Nat.le_of_ble_eq_true rfl⟩ rfl (Nat.le_of_ble_eq_true rfl)) hS (fun q h => h.1) rfl rfl (fun r13_ H lo hw14_ hz_ hk_ hS => ?_)
            have hA := hA.kept (hk_ nb hA.lt (fun z => z.2 rfl))
            obtain ⟨er_, hSI⟩ := hw14_.ok (kp_0 (isP_nI hd (by omega)))
            simp only [show ix (nI d) = d from nI_clamp (by omega)] at er_ hSI
            rw [h5b] at er_
            have ebz_ := er_
            refine g_join (pc1 := 172) (rest := [.int r13_]) (P := fun x => r13_ = x) (fun xe_ hx16_ => ?_) (fun J15_ => ?_)
            · obtain rfl := hx16_
              refine lv_icmp_ne (tgt := 199) hx hb dL_isTold_172 (by decide) (fun c17_ => ?_) (fun c17_ => ?_)
              · exact absurd rfl c17_
              · refine lv_aload_n hx hb dL_isTold_175 rfl (lv_at hl 6 rfl) ?_
                refine lv_iload_n hx hb dL_isTold_176 rfl (lv_at hl 8 rfl) ?_
                refine g_cWi (k2 := 5) (n2 := 30) (g_runSH (n := 2) (rest := []) hC (w_lack hE (nb := nb) (oa := oa) (n := n) (μ := μ) (K := K) (nI d)) Z_lack.1 Z_lack.2.1 Z_lack.2.2.1 k_600 Z_lack.2.2.2 hSI rfl hl.1 dL_isTold_177 ⟨Nat.le_of_ble_eq_true rfl, Nat.le_of_ble_eq_true rfl⟩ ⟨Nat.le_of_ble_eq_true rfl, Nat.le_of_ble_eq_true rfl⟩ rfl (Nat.le_of_ble_eq_true rfl)) hS (fun q h => h.1) rfl rfl (fun r18_ H lo hw19_ hz_ hk_ hS => ?_)
                have hA := hA.kept (hk_ nb hA.lt (fun z => z.2 rfl))
                have hSI := hw19_.same
                refine g_join (pc1 := 192) (rest := [.int r18_]) (P := fun x => r18_ = x) (fun xe_ hx21_ => ?_) (fun J20_ => ?_)
                · obtain rfl := hx21_
                  refine lv_icmp_ne (tgt := 199) hx hb dL_isTold_192 (by decide) (fun c22_ => ?_) (fun c22_ => ?_)
                  · exact absurd rfl c22_
                  · refine lv_iconst (v := 1) hx hb dL_isTold_195 (by decide) ?_
                    refine lv_goto (tgt := 200) hx hb dL_isTold_196 (by decide) ?_
                    refine lv_istore (lv' := [(9, .int 1), (8, .int x8), (7, .int (lch l6)), (6, .int l6), (5, .int (stc (nI c9))), (4, .int (nI c9)), (3, .int (nI (200 + 10 * d))), (0, .ref oa), (1, .ref nb), (2, .int (nI d))]) hx hb dL_isTold_200 hl (by decide) rfl (fun ls hl => ?_)
                    refine lv_iload hx hb dL_isTold_202 (lv_at hl 0 rfl) ?_
                    refine lv_if_eq (tgt := 259) hx hb dL_isTold_204 (by decide) (fun c23_ => ?_) (fun c23_ => ?_)
                    · exact absurd c23_ (by decide)
                    · refine lv_aload_n hx hb dL_isTold_207 rfl (lv_at hl 7 rfl) ?_
                      refine lv_iload_n hx hb dL_isTold_208 rfl (lv_at hl 9 rfl) ?_
                      refine g_cWi (k2 := 7) (n2 := 42) (g_runSH (n := 2) (rest := []) hC (w_lackPower hE (nb := nb) (oa := oa) (n := n) (μ := μ) (K := K) (nI d)) Z_lackPower.1 Z_lackPower.2.1 Z_lackPower.2.2.1 k_918 Z_lackPower.2.2.2 hSI rfl hl.1 dL_isTold_209 ⟨Nat.le_of_ble_eq_true rfl, Nat.le_of_ble_eq_true rfl⟩ ⟨Nat.le_of_ble_eq_true rfl, Nat.le_of_ble_eq_true rfl⟩ rfl (Nat.le_of_ble_eq_true rfl)) hS (fun q h => h.1) rfl rfl (fun r24_ H lo hw25_ hz_ hk_ hS => ?_)
                      have hA := hA.kept (hk_ nb hA.lt (fun z => z.2 rfl))
                      have hSI := hw25_.same
                      refine g_join (pc1 := 228) (rest := [.int r24_]) (P := fun x => r24_ = x) (fun xe_ hx27_ => ?_) (fun J26_ => ?_)
                      · obtain rfl := hx27_
                        refine lv_icmp_ne (tgt := 259) hx hb dL_isTold_228 (by decide) (fun c28_ => ?_) (fun c28_ => ?_)
                        · exact absurd rfl c28_
                        · refine lv_aload_n hx hb dL_isTold_231 rfl (lv_at hl 7 rfl) ?_
                          refine lv_iload_n hx hb dL_isTold_232 rfl (lv_at hl 9 rfl) ?_
                          refine g_cWi (k2 := 9) (n2 := 54) (g_runSH (n := 2) (rest := []) hC (w_lackDepth hE (nb := nb) (oa := oa) (n := n) (μ := μ) (K := K) (nI d)) Z_lackDepth.1 Z_lackDepth.2.1 Z_lackDepth.2.2.1 k_929 Z_lackDepth.2.2.2 hSI rfl hl.1 dL_isTold_233 ⟨Nat.le_of_ble_eq_true rfl, Nat.le_of_ble_eq_true rfl⟩ ⟨Nat.le_of_ble_eq_true rfl, Nat.le_of_ble_eq_true rfl⟩ rfl (Nat.le_of_ble_eq_true rfl)) hS (fun q h => h.1) rfl rfl (fun r29_ H lo hw30_ hz_ hk_ hS => ?_)
                          have hA := hA.kept (hk_ nb hA.lt (fun z => z.2 rfl))
                          have hSI := hw30_.same
                          refine g_join (pc1 := 252) (rest := [.int r29_]) (P := fun x => r29_ = x) (fun xe_ hx32_ => ?_) (fun J31_ => ?_)
                          · obtain rfl := hx32_
                            refine lv_icmp_ne (tgt := 259) hx hb dL_isTold_252 (by decide) (fun c33_ => ?_) (fun c33_ => ?_)
                            · exact absurd rfl c33_
                            · refine lv_iconst (v := 1) hx hb dL_isTold_255 (by decide) ?_
                              refine lv_goto (tgt := 260) hx hb dL_isTold_256 (by decide) ?_
                              exact g_zretW hC hr rfl dL_isTold_260 hS (Nat.le_of_ble_eq_true rfl) (Nat.le_of_ble_eq_true rfl) ⟨rfl, hSI, hA⟩
                          · refine lv_iload hx hb dL_isTold_236 (lv_at hl 1 rfl) ?_
                            refine lv_if_eq (tgt := 246) hx hb dL_isTold_238 (by decide) (fun c34_ => ?_) (fun c34_ => ?_)
                            · have q35_ := bz.f hx6_ c34_
                              refine lv_aload_n hx hb dL_isTold_246 rfl (lv_at hl 8 rfl) ?_
                              refine lv_iload_n hx hb dL_isTold_247 rfl (lv_at hl 6 rfl) ?_
                              refine lv_bipush (v := 8) hx hb dL_isTold_248 (by decide) ?_
                              refine g_naddn (a := 200 + 10 * d) (b := 8) hx hb dL_isTold_250 ?_
                              refine g_iald (n := 450) (f := f) (j := 200 + 10 * d + 8) hC hA (by omega) (by decide) dL_isTold_251 ?_
                              rw [show f (200 + 10 * d + 8) = l8 from (by rw [show 200 + 10 * d + 8 = 208 + 10 * d by omega]; exact hl8)]
                              exact J31_ _ ((hw30_.ok (kq_0 (isP_nI hd (by omega)) (fun z => absurd (hpl.mpr z) (by assumption)))).1.trans (by rw [eix]; exact ((hlk (fun z => absurd (Or.inl (h115.mp z)) (by assumption))).2.2 (fun z => absurd (hpl.mpr (Or.inr (by rw [eix]; exact z))) (by assumption))).symm))
                            · have q35_ := bz.t hx6_ c34_
                              refine lv_ldc (own := "SignatoryLaw") (v := -900002) hx hb hC.2.2.2.2.2.1 (gw hC.1 hC.2.1 k_245 rfl) dL_isTold_241 ?_
                              refine lv_goto (tgt := 252) hx hb dL_isTold_243 (by decide) ?_
                              exact J31_ _ ((hw30_.no 1 (kq_2 (isP_nI hd (by omega)) (hpl.mp (by assumption)))).1)
                      · refine lv_iload hx hb dL_isTold_212 (lv_at hl 1 rfl) ?_
                        refine lv_if_eq (tgt := 222) hx hb dL_isTold_214 (by decide) (fun c36_ => ?_) (fun c36_ => ?_)
                        · have q37_ := bz.f hx6_ c36_
                          refine lv_aload_n hx hb dL_isTold_222 rfl (lv_at hl 8 rfl) ?_
                          refine lv_iload_n hx hb dL_isTold_223 rfl (lv_at hl 6 rfl) ?_
                          refine lv_bipush (v := 7) hx hb dL_isTold_224 (by decide) ?_
                          refine g_naddn (a := 200 + 10 * d) (b := 7) hx hb dL_isTold_226 ?_
                          refine g_iald (n := 450) (f := f) (j := 200 + 10 * d + 7) hC hA (by omega) (by decide) dL_isTold_227 ?_
                          rw [show f (200 + 10 * d + 7) = l7 from (by rw [show 200 + 10 * d + 7 = 207 + 10 * d by omega]; exact hl7)]
                          exact J26_ _ ((hw25_.ok (kq_0 (isP_nI hd (by omega)) (fun z => absurd (hpl.mpr z) (by assumption)))).1.trans (by rw [eix]; exact (hlk (fun z => absurd (Or.inl (h115.mp z)) (by assumption))).2.1.symm))
                        · have q37_ := bz.t hx6_ c36_
                          refine lv_ldc (own := "SignatoryLaw") (v := -900002) hx hb hC.2.2.2.2.2.1 (gw hC.1 hC.2.1 k_245 rfl) dL_isTold_217 ?_
                          refine lv_goto (tgt := 228) hx hb dL_isTold_219 (by decide) ?_
                          exact J26_ _ ((hw25_.no 1 (kq_2 (isP_nI hd (by omega)) (hpl.mp (by assumption)))).1)
                · refine lv_iload hx hb dL_isTold_180 (lv_at hl 4 rfl) ?_
                  refine lv_if_ne (tgt := 190) hx hb dL_isTold_182 (by decide) (fun c38_ => ?_) (fun c38_ => ?_)
                  · have q39_ : ¬ c9 = 0 := fun z => c38_ (congrArg nI z)
                    refine lv_iload hx hb dL_isTold_190 (lv_at hl 1 rfl) ?_
                    exact J20_ _ ((hw19_.ok (kk_0 (isP_nI hd (by omega)) (by rw [eix]; exact fun z => absurd (h115.mp z) (by assumption)))).1.trans (by rw [eix]; exact (hlk (fun z => absurd (h115.mp z) (by assumption))).1))
                  · have q39_ : c9 = 0 := (nI_eq (by omega) (by omega)).mp c38_
                    refine lv_ldc (own := "SignatoryLaw") (v := -900002) hx hb hC.2.2.2.2.2.1 (gw hC.1 hC.2.1 k_245 rfl) dL_isTold_185 ?_
                    refine lv_goto (tgt := 192) hx hb dL_isTold_187 (by decide) ?_
                    exact J20_ _ ((hw19_.no 1 (kk_2 (isP_nI hd (by omega)) (by rw [eix]; exact h115.mpr (by assumption)))).1)
            · refine lv_iload hx hb dL_isTold_156 (lv_at hl 4 rfl) ?_
              refine lv_if_eq (tgt := 167) hx hb dL_isTold_158 (by decide) (fun c40_ => ?_) (fun c40_ => ?_)
              · have q41_ : c9 = 0 := (nI_eq (by omega) (by omega)).mp c40_
                refine lv_iconst (v := 1) hx hb dL_isTold_167 (by decide) ?_
                refine lv_goto (tgt := 172) hx hb dL_isTold_168 (by decide) ?_
                exact J15_ _ (bz_eq ebz_ (bz_1 ((stc_st hc9).mpr (by omega))) Iff.rfl)
              · have q41_ : ¬ c9 = 0 := fun z => c40_ (congrArg nI z)
                refine lv_iload hx hb dL_isTold_161 (lv_at hl 4 rfl) ?_
                refine lv_iconst (v := 2) hx hb dL_isTold_163 (by decide) ?_
                refine lv_icmp_ne (tgt := 171) hx hb dL_isTold_164 (by decide) (fun c42_ => ?_) (fun c42_ => ?_)
                · have n43_ : ¬ c9 = 2 := fun z => c42_ (congrArg nI z)
                  refine lv_iconst (v := 0) hx hb dL_isTold_171 (by decide) ?_
                  exact J15_ _ (bz_eq ebz_ (bz_0 (fun z => by have := (stc_st hc9).mp z; omega)) Iff.rfl)
                · have n43_ : c9 = 2 := (nI_eq (by omega) (by omega)).mp c42_
                  refine lv_iconst (v := 1) hx hb dL_isTold_167 (by decide) ?_
                  refine lv_goto (tgt := 172) hx hb dL_isTold_168 (by decide) ?_
                  exact J15_ _ (bz_eq ebz_ (bz_1 ((stc_st hc9).mpr (by omega))) Iff.rfl)
      · refine lv_iload hx hb dL_isTold_107 (lv_at hl 3 rfl) ?_
        refine lv_if_eq (tgt := 121) hx hb dL_isTold_109 (by decide) (fun c44_ => ?_) (fun c44_ => ?_)
        · have q45_ : c9 = 0 := (nI_eq (by omega) (by omega)).mp c44_
          refine lv_iconst (v := 1) hx hb dL_isTold_121 (by decide) ?_
          refine lv_goto (tgt := 126) hx hb dL_isTold_122 (by decide) ?_
          exact J5_ _ (bz_1 (by grind))
        · have q45_ : ¬ c9 = 0 := fun z => c44_ (congrArg nI z)
          refine lv_aload_n hx hb dL_isTold_112 rfl (lv_at hl 6 rfl) ?_
          refine lv_iload_n hx hb dL_isTold_113 rfl (lv_at hl 4 rfl) ?_
          refine lv_bipush (v := 7) hx hb dL_isTold_114 (by decide) ?_
          refine g_naddn (a := 200 + 10 * d) (b := 7) hx hb dL_isTold_116 ?_
          refine g_iald (n := 450) (f := f) (j := 200 + 10 * d + 7) hC hA (by omega) (by decide) dL_isTold_117 ?_
          rw [show f (200 + 10 * d + 7) = l7 from (by rw [show 200 + 10 * d + 7 = 207 + 10 * d by omega]; exact hl7)]
          refine lv_if_ge (tgt := 125) hx hb dL_isTold_118 (by decide) (fun c46_ => ?_) (fun c46_ => ?_)
          · refine lv_iconst (v := 0) hx hb dL_isTold_125 (by decide) ?_
            exact J5_ _ (bz_0 (by grind))
          · refine lv_iconst (v := 1) hx hb dL_isTold_121 (by decide) ?_
            refine lv_goto (tgt := 126) hx hb dL_isTold_122 (by decide) ?_
            exact J5_ _ (bz_1 (by grind))
    · refine lv_iload hx hb dL_isTold_60 (lv_at hl 0 rfl) ?_
      refine lv_if_ne (tgt := 70) hx hb dL_isTold_62 (by decide) (fun c47_ => ?_) (fun c47_ => ?_)
      · refine lv_iload hx hb dL_isTold_70 (lv_at hl 0 rfl) ?_
        refine lv_iconst (v := 1) hx hb dL_isTold_72 (by decide) ?_
        refine lv_icmp_ne (tgt := 81) hx hb dL_isTold_73 (by decide) (fun c49_ => ?_) (fun c49_ => ?_)
        · refine lv_iload hx hb dL_isTold_81 (lv_at hl 0 rfl) ?_
          refine lv_iconst (v := 2) hx hb dL_isTold_83 (by decide) ?_
          refine lv_icmp_ne (tgt := 92) hx hb dL_isTold_84 (by decide) (fun c50_ => ?_) (fun c50_ => ?_)
          · refine lv_iload hx hb dL_isTold_92 (lv_at hl 0 rfl) ?_
            refine lv_iconst (v := 3) hx hb dL_isTold_94 (by decide) ?_
            refine lv_icmp_ne (tgt := 103) hx hb dL_isTold_95 (by decide) (fun c51_ => ?_) (fun c51_ => ?_)
            · refine lv_bipush (v := 104) hx hb dL_isTold_103 (by decide) ?_
              exact J3_ _ (by unfold lch; grind)
            · refine lv_bipush (v := 108) hx hb dL_isTold_98 (by decide) ?_
              refine lv_goto (tgt := 105) hx hb dL_isTold_100 (by decide) ?_
              exact J3_ _ (by unfold lch; grind)
          · refine lv_bipush (v := 118) hx hb dL_isTold_87 (by decide) ?_
            refine lv_goto (tgt := 105) hx hb dL_isTold_89 (by decide) ?_
            exact J3_ _ (by unfold lch; grind)
        · refine lv_bipush (v := 100) hx hb dL_isTold_76 (by decide) ?_
          refine lv_goto (tgt := 105) hx hb dL_isTold_78 (by decide) ?_
          exact J3_ _ (by unfold lch; grind)
      · refine lv_bipush (v := 107) hx hb dL_isTold_65 (by decide) ?_
        refine lv_goto (tgt := 105) hx hb dL_isTold_67 (by decide) ?_
        exact J3_ _ (by unfold lch; grind)
  · refine lv_iload hx hb dL_isTold_16 (lv_at hl 0 rfl) ?_
    refine lv_if_ne (tgt := 26) hx hb dL_isTold_18 (by decide) (fun c52_ => ?_) (fun c52_ => ?_)
    · have q53_ : ¬ c9 = 0 := fun z => c52_ (congrArg nI z)
      refine lv_iload hx hb dL_isTold_26 (lv_at hl 0 rfl) ?_
      refine lv_iconst (v := 1) hx hb dL_isTold_28 (by decide) ?_
      refine lv_icmp_ne (tgt := 37) hx hb dL_isTold_29 (by decide) (fun c54_ => ?_) (fun c54_ => ?_)
      · have n55_ : ¬ c9 = 1 := fun z => c54_ (congrArg nI z)
        refine lv_iload hx hb dL_isTold_37 (lv_at hl 0 rfl) ?_
        refine lv_iconst (v := 2) hx hb dL_isTold_39 (by decide) ?_
        refine lv_icmp_ne (tgt := 48) hx hb dL_isTold_40 (by decide) (fun c56_ => ?_) (fun c56_ => ?_)
        · have n57_ : ¬ c9 = 2 := fun z => c56_ (congrArg nI z)
          refine lv_bipush (v := 110) hx hb dL_isTold_48 (by decide) ?_
          exact J1_ _ (by unfold stc; grind)
        · have n57_ : c9 = 2 := (nI_eq (by omega) (by omega)).mp c56_
          refine lv_bipush (v := 114) hx hb dL_isTold_43 (by decide) ?_
          refine lv_goto (tgt := 50) hx hb dL_isTold_45 (by decide) ?_
          exact J1_ _ (by unfold stc; grind)
      · have n55_ : c9 = 1 := (nI_eq (by omega) (by omega)).mp c54_
        refine lv_bipush (v := 119) hx hb dL_isTold_32 (by decide) ?_
        refine lv_goto (tgt := 50) hx hb dL_isTold_34 (by decide) ?_
        exact J1_ _ (by unfold stc; grind)
    · have q53_ : c9 = 0 := (nI_eq (by omega) (by omega)).mp c52_
      refine lv_bipush (v := 115) hx hb dL_isTold_21 (by decide) ?_
      refine lv_goto (tgt := 50) hx hb dL_isTold_23 (by decide) ?_
      exact J1_ _ (by unfold stc; grind)
set_option maxHeartbeats 4000000 in
set_option maxRecDepth 100000 in
theorem c_L_areFigures {l : Launch} {E : gV} (hE : gOK l E) {nb oa n D : Nat} {f : Nat → Int32} {μ : F2} {K : Nat → Nat} (hN : NL f μ K D) (hnb : E.2.1.heap.size ≤ nb) (hn : n < 500) : gM l E yL_areFigures cL_areFigures 7 (some .boolean) ({ frames := 10, cells := 1, slots := 6, locals := 184 } : Room) [.ref oa, .ref nb] (fun H => SI E nb oa μ K n H ∧ gNet E nb f H) (gQW (gA0 E) (gWi (fun r H => r = 1 ∧ NT E nb oa f μ K n H))) (fun _ => False) (gA0 E) := by
  refine gM_body hE (by decide +kernel) (Nat.le_of_ble_eq_true rfl) ?_
  intro p_ e_ s m args below meth c hC ht hr hname hP ls hl
  have hx := hC.2.2.1
  have hb := hC.2.2.2.1
  have hl : lv_has ls 7 [(0, .ref oa), (1, .ref nb)] := hl
  have hS : va_S ((gA0 E)) s.heap s.heap [] := va_S.rf
  obtain ⟨hSI, hA⟩ := hP
  have hU := hSI.pu
  have hb0 := hN.b0
  have hb1 := hN.b1
  have hb2 := hN.b2
  refine lv_lconst (v := 0) hx hb dL_areFigures_0 (by decide) ?_
  refine lv_lstore_n (lv' := [(2, .long 0), (0, .ref oa), (1, .ref nb)]) hx hb dL_areFigures_1 rfl hl (by decide) rfl (fun ls hl => ?_)
  refine lv_iconst (v := 0) hx hb dL_areFigures_2 (by decide) ?_
  refine lv_istore (lv' := [(4, .int 0), (2, .long 0), (0, .ref oa), (1, .ref nb)]) hx hb dL_areFigures_3 hl (by decide) rfl (fun ls hl => ?_)
  refine lv_iconst (v := 0) hx hb dL_areFigures_5 (by decide) ?_
  refine lv_istore (lv' := [(5, .int 0), (4, .int 0), (2, .long 0), (0, .ref oa), (1, .ref nb)]) hx hb dL_areFigures_6 hl (by decide) rfl (fun ls hl => ?_)
  have hT : NT E nb oa f μ K n s.heap := ⟨hSI, hA⟩
  have loop : ∀ (n_ : Nat) (cn : Nat) (k : Nat) (sm : Int64) (H : Heap) (lo : List Loc) (ls : Array Slot), K 2 - k < n_ → (k ≤ K 2) → (cn = fCnt (fun t => μ 17 t = 115 ∨ μ 17 t = 114) k) → (sm = fBd (mw μ) k) → NT E nb oa f μ K n H → va_S ((gA0 E)) s.heap H lo → lv_has ls 7 [(0, .ref oa), (1, .ref nb), (2, .long sm), (4, .int (nI cn)), (5, .int (nI k))] → W p_ l e_ ({ frames := 10, cells := 1, slots := 6, locals := 184 } : Room) s m args below meth c H lo 0 0 (vx_MQ below (gQW (gA0 E) (gWi (fun r H => r = 1 ∧ NT E nb oa f μ K n H))) (gX (fun _ => False)) args s 1 6 (gA0 E)) (F0 m 8 ls []) := by
    intro n_
    induction n_ with
    | zero => intro cn k sm H lo ls h_; exact absurd h_ (Nat.not_lt_zero _)
    | succ n_ ih_loop =>
      intro cn k sm H lo ls hn_ i1 i2 i3 hT hS hl
      have hSI := hT.1
      have hA := hT.2
      refine lv_iload hx hb dL_areFigures_8 (lv_at hl 4 rfl) ?_
      refine lv_aload_n hx hb dL_areFigures_10 rfl (lv_at hl 1 rfl) ?_
      refine lv_iconst (v := 2) hx hb dL_areFigures_11 (by decide) ?_
      refine g_iald (n := 450) (f := f) (j := 2) hC hA (by omega) (by decide) dL_areFigures_12 ?_
      rw [show f (2) = nI (K 2) from hN.k2]
      refine lv_icmp_ge (tgt := 84) hx hb dL_areFigures_13 (by decide) (fun c1_ => ?_) (fun c1_ => ?_)
      · have n2_ : (K 2) ≤ k := le_nI (by omega) (by omega) c1_
        have hq : k = K 2 := by omega
        refine lv_aload_n hx hb dL_areFigures_84 rfl (lv_at hl 0 rfl) ?_
        obtain ⟨α, ξ, M, N, hRB, ha_, hK, hn2_⟩ := id hSI
        have hct := c_X4_bound hE (α := α) (ξ := ξ) (M := M) (N := N)
        rw [ha_] at hct
        have hsg := hRB.1.sig
        rw [ha_] at hsg
        refine g_cRl (k2 := 0) (n2 := 0) (g_runV (rest := []) hC hct Y_X4_bound k_939 I_X4_bound V_X4_bound hsg rfl hRB.1 rfl hl.1 dL_areFigures_85 ⟨Nat.le_of_ble_eq_true rfl, Nat.le_of_ble_eq_true rfl⟩ ⟨Nat.le_of_ble_eq_true rfl, Nat.le_of_ble_eq_true rfl⟩ rfl (Nat.le_of_ble_eq_true rfl)) rfl rfl g_no (fun rX hrX => ?_)
        obtain ⟨-, hrX⟩ := hrX
        have hrX : rX = fBd (mw μ) (K 2) := hrX.trans (lk_bound hK)
        subst hrX
        refine lv_lload_n hx hb dL_areFigures_88 rfl (lv_at hl 2 rfl) ?_
        refine g_lcmp hx hb (by rw [i3, hq]) dL_areFigures_89 ?_
        refine lv_if_ne (tgt := 124) hx hb dL_areFigures_90 (by decide) (fun c3_ => ?_) (fun c3_ => ?_)
        · exact absurd c3_ (by decide)
        · refine lv_aload_n hx hb dL_areFigures_93 rfl (lv_at hl 0 rfl) ?_
          refine g_cWf (k2 := 1) (n2 := 6) (g_runSH (n := 1) (rest := []) hC (w_standingShare hE (nb := nb) (oa := oa) (n := n) (μ := μ) (K := K) ) Z_standingShare.1 Z_standingShare.2.1 Z_standingShare.2.2.1 k_943 Z_standingShare.2.2.2 hSI rfl hl.1 dL_areFigures_94 ⟨Nat.le_of_ble_eq_true rfl, Nat.le_of_ble_eq_true rfl⟩ ⟨Nat.le_of_ble_eq_true rfl, Nat.le_of_ble_eq_true rfl⟩ rfl (Nat.le_of_ble_eq_true rfl)) hS (fun q h => h.1) rfl rfl (fun r4_ H lo hw5_ hz_ hk_ hS => ?_)
          have hA := hA.kept (hk_ nb hA.lt (fun z => z.2 rfl))
          have hSI := hw5_.same
          rw [hq] at i2
          have hle := fCnt_le (fun t => μ 17 t = 115 ∨ μ 17 t = 114) (K 2)
          by_cases hz0 : K 2 = 0
          · obtain rfl := hw5_.z hz0
            refine lv_aload_n hx hb dL_areFigures_97 rfl (lv_at hl 1 rfl) ?_
            refine lv_iconst (v := 2) hx hb dL_areFigures_98 (by decide) ?_
            refine g_iald (n := 450) (f := f) (j := 2) hC hA (by omega) (by decide) dL_areFigures_99 ?_
            rw [show f (2) = nI (K 2) from hN.k2]
            refine lv_if_ne (tgt := 108) hx hb dL_areFigures_100 (by decide) (fun c6_ => ?_) (fun c6_ => ?_)
            · exact absurd hz0 (fun z => c6_ (congrArg nI z))
            · refine lv_ldcf (own := "SignatoryLaw") (v := 3378231824) hx hb hC.2.2.2.2.2.1 (gw hC.1 hC.2.1 k_951 rfl) dL_areFigures_103 ?_
              refine lv_goto (tgt := 116) hx hb dL_areFigures_105 (by decide) ?_
              refine g_fcmp0 hx hb fp_cmp9 dL_areFigures_116 ?_
              refine lv_if_ne (tgt := 124) hx hb dL_areFigures_117 (by decide) (fun c7_ => ?_) (fun c7_ => ?_)
              · exact absurd c7_ (by decide)
              · refine lv_iconst (v := 1) hx hb dL_areFigures_120 (by decide) ?_
                refine lv_goto (tgt := 125) hx hb dL_areFigures_121 (by decide) ?_
                exact g_zretW hC hr rfl dL_areFigures_125 hS (Nat.le_of_ble_eq_true rfl) (Nat.le_of_ble_eq_true rfl) ⟨rfl, hSI, hA⟩
          · have er_ := hw5_.n hz0
            rw [← i2] at er_
            subst er_
            refine lv_aload_n hx hb dL_areFigures_97 rfl (lv_at hl 1 rfl) ?_
            refine lv_iconst (v := 2) hx hb dL_areFigures_98 (by decide) ?_
            refine g_iald (n := 450) (f := f) (j := 2) hC hA (by omega) (by decide) dL_areFigures_99 ?_
            rw [show f (2) = nI (K 2) from hN.k2]
            refine lv_if_ne (tgt := 108) hx hb dL_areFigures_100 (by decide) (fun c8_ => ?_) (fun c8_ => ?_)
            · refine lv_iload hx hb dL_areFigures_108 (lv_at hl 3 rfl) ?_
              refine lv_i2f hx hb dL_areFigures_110 ?_
              refine lv_aload_n hx hb dL_areFigures_111 rfl (lv_at hl 1 rfl) ?_
              refine lv_iconst (v := 2) hx hb dL_areFigures_112 (by decide) ?_
              refine g_iald (n := 450) (f := f) (j := 2) hC hA (by omega) (by decide) dL_areFigures_113 ?_
              rw [show f (2) = nI (K 2) from hN.k2]
              refine lv_i2f hx hb dL_areFigures_114 ?_
              refine lv_fdiv hx hb dL_areFigures_115 (fp_ok (by omega) (by omega) hz0) ?_
              refine g_fcmp0 hx hb (fp_cmpf (by omega) (by omega) hz0) dL_areFigures_116 ?_
              refine lv_if_ne (tgt := 124) hx hb dL_areFigures_117 (by decide) (fun c9_ => ?_) (fun c9_ => ?_)
              · exact absurd c9_ (by decide)
              · refine lv_iconst (v := 1) hx hb dL_areFigures_120 (by decide) ?_
                refine lv_goto (tgt := 125) hx hb dL_areFigures_121 (by decide) ?_
                exact g_zretW hC hr rfl dL_areFigures_125 hS (Nat.le_of_ble_eq_true rfl) (Nat.le_of_ble_eq_true rfl) ⟨rfl, hSI, hA⟩
            · exact absurd ((nI_eq (b := 0) (by omega) (by omega)).mp c8_) hz0
      · have n2_ : k < (K 2) := not_le_nI (by omega) (by omega) c1_
        have hq : k < K 2 := by omega
        obtain ⟨c8, hc8, h8a, h8b⟩ := hN.st hq
        have h8s : (mw μ 5 k = 115 ∨ mw μ 5 k = 114) ↔ c8 % 2 = 0 := by show (μ 17 k = 115 ∨ μ 17 k = 114) ↔ _; rw [h8b]; exact stc_st hc8
        refine lv_aload_n hx hb dL_areFigures_16 rfl (lv_at hl 1 rfl) ?_
        refine lv_sipush (v := 205) hx hb dL_areFigures_17 (by decide) ?_
        refine lv_bipush (v := 10) hx hb dL_areFigures_20 (by decide) ?_
        refine lv_iload hx hb dL_areFigures_22 (lv_at hl 4 rfl) ?_
        refine g_nmuln (a := 10) (b := k) hx hb dL_areFigures_24 ?_
        refine g_naddn (a := 205) (b := 10 * k) hx hb dL_areFigures_25 ?_
        refine g_iald (n := 450) (f := f) (j := 205 + 10 * k) hC hA (by omega) (by decide) dL_areFigures_26 ?_
        rw [show f (205 + 10 * k) = nI c8 from h8a]
        refine lv_iconst (v := 2) hx hb dL_areFigures_27 (by decide) ?_
        refine g_nremn (a := c8) (b := 2) (by omega) (by omega) (by omega) hx hb dL_areFigures_28 ?_
        refine lv_if_ne (tgt := 36) hx hb dL_areFigures_29 (by decide) (fun c10_ => ?_) (fun c10_ => ?_)
        · have q11_ : ¬ (c8 % 2) = 0 := fun z => c10_ (congrArg nI z)
          refine lv_iconst (v := 0) hx hb dL_areFigures_36 (by decide) ?_
          refine lv_istore (lv' := [(6, .int 0), (0, .ref oa), (1, .ref nb), (2, .long sm), (4, .int (nI cn)), (5, .int (nI k))]) hx hb dL_areFigures_37 hl (by decide) rfl (fun ls hl => ?_)
          refine lv_lload_n hx hb dL_areFigures_39 rfl (lv_at hl 3 rfl) ?_
          refine lv_iload hx hb dL_areFigures_40 (lv_at hl 0 rfl) ?_
          refine lv_if_eq (tgt := 60) hx hb dL_areFigures_42 (by decide) (fun c12_ => ?_) (fun c12_ => ?_)
          · refine lv_lconst (v := 0) hx hb dL_areFigures_60 (by decide) ?_
            refine lv_ladd hx hb dL_areFigures_61 ?_
            refine lv_lstore_n (lv' := [(2, .long ((sm) + (0))), (6, .int 0), (0, .ref oa), (1, .ref nb), (4, .int (nI cn)), (5, .int (nI k))]) hx hb dL_areFigures_62 rfl hl (by decide) rfl (fun ls hl => ?_)
            refine lv_iload hx hb dL_areFigures_63 (lv_at hl 4 rfl) ?_
            refine lv_iload hx hb dL_areFigures_65 (lv_at hl 1 rfl) ?_
            refine lv_if_eq (tgt := 74) hx hb dL_areFigures_67 (by decide) (fun c13_ => ?_) (fun c13_ => ?_)
            · refine lv_iconst (v := 0) hx hb dL_areFigures_74 (by decide) ?_
              refine g_naddn (a := cn) (b := 0) hx hb dL_areFigures_75 ?_
              refine lv_istore (lv' := [(4, .int (nI (cn + 0))), (2, .long ((sm) + (0))), (6, .int 0), (0, .ref oa), (1, .ref nb), (5, .int (nI k))]) hx hb dL_areFigures_76 hl (by decide) rfl (fun ls hl => ?_)
              refine lv_iinc (v := nI (k + 1)) (lv' := [(5, .int (nI (k + 1))), (4, .int (nI (cn + 0))), (2, .long ((sm) + (0))), (6, .int 0), (0, .ref oa), (1, .ref nb)]) hx hb dL_areFigures_78 hl (k := 5) rfl (g_inc _) (by decide) rfl (fun ls hl => ?_)
              refine lv_goto (tgt := 8) hx hb dL_areFigures_81 (by decide) ?_
              exact ih_loop (cn + 0) (k + 1) ((sm) + (0)) H lo ls (by omega) (by omega) (by rw [fCnt_f (P := fun t => μ 17 t = 115 ∨ μ 17 t = 114) (n := k) (fun z => absurd (h8s.mp z) (by assumption)), i2, Nat.add_zero]) (by rw [i3]; exact (fBd_f (fun z => absurd (h8s.mp z) (by assumption))).symm) hT hS (lv_sub hl [4, 5, 2, 1, 0] rfl)
            · exact absurd (by decide) c13_
          · exact absurd (by decide) c12_
        · have q11_ : (c8 % 2) = 0 := (nI_eq (by omega) (by omega)).mp c10_
          refine lv_iconst (v := 1) hx hb dL_areFigures_32 (by decide) ?_
          refine lv_goto (tgt := 37) hx hb dL_areFigures_33 (by decide) ?_
          refine lv_istore (lv' := [(6, .int 1), (0, .ref oa), (1, .ref nb), (2, .long sm), (4, .int (nI cn)), (5, .int (nI k))]) hx hb dL_areFigures_37 hl (by decide) rfl (fun ls hl => ?_)
          refine lv_lload_n hx hb dL_areFigures_39 rfl (lv_at hl 3 rfl) ?_
          refine lv_iload hx hb dL_areFigures_40 (lv_at hl 0 rfl) ?_
          refine lv_if_eq (tgt := 60) hx hb dL_areFigures_42 (by decide) (fun c14_ => ?_) (fun c14_ => ?_)
          · exact absurd c14_ (by decide)
          · refine lv_aload_n hx hb dL_areFigures_45 rfl (lv_at hl 2 rfl) ?_
            refine lv_sipush (v := 201) hx hb dL_areFigures_46 (by decide) ?_
            refine lv_bipush (v := 10) hx hb dL_areFigures_49 (by decide) ?_
            refine lv_iload hx hb dL_areFigures_51 (lv_at hl 5 rfl) ?_
            refine g_nmuln (a := 10) (b := k) hx hb dL_areFigures_53 ?_
            refine g_naddn (a := 201) (b := 10 * k) hx hb dL_areFigures_54 ?_
            refine g_iald (n := 450) (f := f) (j := 201 + 10 * k) hC hA (by omega) (by decide) dL_areFigures_55 ?_
            rw [show f (201 + 10 * k) = μ 11 k from hN.d11 (d := k) (by omega) (by omega)]
            refine lv_i2l (v := (μ 11 k).toInt64) hx hb dL_areFigures_56 rfl ?_
            refine lv_goto (tgt := 61) hx hb dL_areFigures_57 (by decide) ?_
            refine lv_ladd hx hb dL_areFigures_61 ?_
            refine lv_lstore_n (lv' := [(2, .long ((sm) + ((μ 11 k).toInt64))), (6, .int 1), (0, .ref oa), (1, .ref nb), (4, .int (nI cn)), (5, .int (nI k))]) hx hb dL_areFigures_62 rfl hl (by decide) rfl (fun ls hl => ?_)
            refine lv_iload hx hb dL_areFigures_63 (lv_at hl 4 rfl) ?_
            refine lv_iload hx hb dL_areFigures_65 (lv_at hl 1 rfl) ?_
            refine lv_if_eq (tgt := 74) hx hb dL_areFigures_67 (by decide) (fun c15_ => ?_) (fun c15_ => ?_)
            · exact absurd c15_ (by decide)
            · refine lv_iconst (v := 1) hx hb dL_areFigures_70 (by decide) ?_
              refine lv_goto (tgt := 75) hx hb dL_areFigures_71 (by decide) ?_
              refine g_naddn (a := cn) (b := 1) hx hb dL_areFigures_75 ?_
              refine lv_istore (lv' := [(4, .int (nI (cn + 1))), (2, .long ((sm) + ((μ 11 k).toInt64))), (6, .int 1), (0, .ref oa), (1, .ref nb), (5, .int (nI k))]) hx hb dL_areFigures_76 hl (by decide) rfl (fun ls hl => ?_)
              refine lv_iinc (v := nI (k + 1)) (lv' := [(5, .int (nI (k + 1))), (4, .int (nI (cn + 1))), (2, .long ((sm) + ((μ 11 k).toInt64))), (6, .int 1), (0, .ref oa), (1, .ref nb)]) hx hb dL_areFigures_78 hl (k := 5) rfl (g_inc _) (by decide) rfl (fun ls hl => ?_)
              refine lv_goto (tgt := 8) hx hb dL_areFigures_81 (by decide) ?_
              exact ih_loop (cn + 1) (k + 1) ((sm) + ((μ 11 k).toInt64)) H lo ls (by omega) (by omega) (by rw [fCnt_t (P := fun t => μ 17 t = 115 ∨ μ 17 t = 114) (n := k) (h8s.mpr (by assumption)), i2]) (by rw [i3]; exact (fBd_t (h8s.mpr (by assumption))).symm) hT hS (lv_sub hl [4, 5, 2, 1, 0] rfl)
  exact loop ((K 2 - (0)) + 1) 0 0 0 s.heap [] ls (by omega) (by omega) rfl rfl hT hS (lv_sub hl [3, 4, 2, 1, 0] rfl)
