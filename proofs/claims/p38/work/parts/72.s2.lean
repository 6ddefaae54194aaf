set_option maxHeartbeats 4000000 in
set_option maxRecDepth 100000 in
theorem c_L_isDelegated {l : Launch} {E : gV} (hE : gOK l E) {b L : Nat} {xs : Nat → Int32} (hX : va_X b L xs E.2.1 E.2.1.heap) (hbl : b < E.2.1.heap.size) (hL : L < 2 ^ 31) {nb oa n D : Nat} {f : Nat → Int32} {μ : F2} {K : Nat → Nat} (hN : NL f μ K D) (hnb : E.2.1.heap.size ≤ nb) (h2 : 2 ≤ K 0) (h1 : 1 ≤ K 1) (hn : n < 500) (hD : D ≤ 391) (i : Nat) (hi : i < 2000) : gM l E yL_isDelegated cL_isDelegated 11 (some .boolean) ({ frames := 13, cells := 8, slots := 2050, locals := 329 } : Room) [.ref oa, .ref nb, .ref b, .int (nI i)] (fun H => SI E nb oa μ K n H ∧ gNet E nb f H) (gQW (gA0 E) (gWi (fun r H => r = 1 ∧ NJ E nb oa (D + 9) (n + 1) 1 H))) (fun _ => False) (gA0 E) := by
  refine gM_body hE (by decide +kernel) (Nat.le_of_ble_eq_true rfl) ?_
  intro p_ e_ s m args below meth c hC ht hr hname hP ls hl
  have hx := hC.2.2.1
  have hb := hC.2.2.2.1
  have hl : lv_has ls 11 [(0, .ref oa), (1, .ref nb), (2, .ref b), (3, .int (nI i))] := hl
  have hS : va_S ((gA0 E)) s.heap s.heap [] := va_S.rf
  obtain ⟨hSI, hA⟩ := hP
  have hU := hSI.pu
  have hb0 := hN.b0
  have hb1 := hN.b1
  have hb2 := hN.b2
  have hbD := hN.bD
  refine lv_aload_n hx hb dL_isDelegated_0 rfl (lv_at hl 2 rfl) ?_
  refine lv_iload_n hx hb dL_isDelegated_1 rfl (lv_at hl 3 rfl) ?_
  refine lv_aload_n hx hb dL_isDelegated_2 rfl (lv_at hl 1 rfl) ?_
  refine lv_iconst (v := 1) hx hb dL_isDelegated_3 (by decide) ?_
  refine g_iald (n := 450) (f := f) (j := 1) hC hA (by omega) (by decide) dL_isDelegated_4 ?_
  rw [show f (1) = nI (K 1) from hN.k1]
  refine g_cRi (k2 := 0) (n2 := 0) (g_runS (rest := []) hC (c_L_in hE hX hbl hL (i) (K 1) (by omega) (by omega) (by omega)) Y_L_in k_654 S_L_in hSI.frz rfl hl.1 dL_isDelegated_5 ⟨Nat.le_of_ble_eq_true rfl, Nat.le_of_ble_eq_true rfl⟩ ⟨Nat.le_of_ble_eq_true rfl, Nat.le_of_ble_eq_true rfl⟩ rfl (Nat.le_of_ble_eq_true rfl)) rfl rfl g_no (fun r1_ h2_ => ?_)
  obtain ⟨jp, hjp, rfl⟩ := h2_
  obtain ⟨L0, hL01, hL02, eL0⟩ := hU.lim hjp
  obtain ⟨F0, T0, eF0, eT0, hF0, hT0⟩ := hN.days hjp
  obtain ⟨jq, hjq, eq0⟩ := hU.hol hjp
  obtain ⟨h9, h9l, h9a, h9b⟩ := hN.hand hjp
  refine lv_istore (lv' := [(4, .int (nI jp)), (0, .ref oa), (1, .ref nb), (2, .ref b), (3, .int (nI i))]) hx hb dL_isDelegated_8 hl (by decide) rfl (fun ls hl => ?_)
  refine lv_bipush (v := 30) hx hb dL_isDelegated_10 (by decide) ?_
  refine lv_bipush (v := 8) hx hb dL_isDelegated_12 (by decide) ?_
  refine lv_iload hx hb dL_isDelegated_14 (lv_at hl 0 rfl) ?_
  refine g_nmuln (a := 8) (b := jp) hx hb dL_isDelegated_16 ?_
  refine g_naddn (a := 30) (b := 8 * jp) hx hb dL_isDelegated_17 ?_
  refine lv_istore (lv' := [(5, .int (nI (30 + 8 * jp))), (4, .int (nI jp)), (0, .ref oa), (1, .ref nb), (2, .ref b), (3, .int (nI i))]) hx hb dL_isDelegated_18 hl (by decide) rfl (fun ls hl => ?_)
  refine lv_bipush (v := 30) hx hb dL_isDelegated_20 (by decide) ?_
  refine lv_bipush (v := 8) hx hb dL_isDelegated_22 (by decide) ?_
  refine lv_aload_n hx hb dL_isDelegated_24 rfl (lv_at hl 3 rfl) ?_
  refine lv_iconst (v := 1) hx hb dL_isDelegated_25 (by decide) ?_
  refine g_iald (n := 450) (f := f) (j := 1) hC hA (by omega) (by decide) dL_isDelegated_26 ?_
  rw [show f (1) = nI (K 1) from hN.k1]
  refine g_nmuln (a := 8) (b := K 1) hx hb dL_isDelegated_27 ?_
  refine g_naddn (a := 30) (b := 8 * (K 1)) hx hb dL_isDelegated_28 ?_
  refine lv_istore (lv' := [(6, .int (nI (30 + 8 * (K 1)))), (5, .int (nI (30 + 8 * jp))), (4, .int (nI jp)), (0, .ref oa), (1, .ref nb), (2, .ref b), (3, .int (nI i))]) hx hb dL_isDelegated_29 hl (by decide) rfl (fun ls hl => ?_)
  refine lv_aload_n hx hb dL_isDelegated_31 rfl (lv_at hl 5 rfl) ?_
  refine lv_iload_n hx hb dL_isDelegated_32 rfl (lv_at hl 6 rfl) ?_
  refine lv_iconst (v := 1) hx hb dL_isDelegated_33 (by decide) ?_
  refine g_naddn (a := i) (b := 1) hx hb dL_isDelegated_34 ?_
  refine lv_aload_n hx hb dL_isDelegated_35 rfl (lv_at hl 4 rfl) ?_
  refine lv_iconst (v := 0) hx hb dL_isDelegated_36 (by decide) ?_
  refine g_iald (n := 450) (f := f) (j := 0) hC hA (by omega) (by decide) dL_isDelegated_37 ?_
  rw [show f (0) = nI (K 0) from hN.k0]
  refine g_cRi (k2 := 0) (n2 := 0) (g_runS (rest := []) hC (c_L_in hE hX hbl hL (i + 1) (K 0) (by omega) (by omega) (by omega)) Y_L_in k_654 S_L_in hSI.frz rfl hl.1 dL_isDelegated_38 ⟨Nat.le_of_ble_eq_true rfl, Nat.le_of_ble_eq_true rfl⟩ ⟨Nat.le_of_ble_eq_true rfl, Nat.le_of_ble_eq_true rfl⟩ rfl (Nat.le_of_ble_eq_true rfl)) rfl rfl g_no (fun r3_ h4_ => ?_)
  obtain ⟨jh, hjh, rfl⟩ := h4_
  refine lv_istore (lv' := [(7, .int (nI jh)), (6, .int (nI (30 + 8 * (K 1)))), (5, .int (nI (30 + 8 * jp))), (4, .int (nI jp)), (0, .ref oa), (1, .ref nb), (2, .ref b), (3, .int (nI i))]) hx hb dL_isDelegated_41 hl (by decide) rfl (fun ls hl => ?_)
  refine lv_aload_n hx hb dL_isDelegated_43 rfl (lv_at hl 6 rfl) ?_
  refine lv_iload_n hx hb dL_isDelegated_44 rfl (lv_at hl 7 rfl) ?_
  refine lv_iconst (v := 2) hx hb dL_isDelegated_45 (by decide) ?_
  refine g_naddn (a := i) (b := 2) hx hb dL_isDelegated_46 ?_
  refine lv_iconst (v := 5) hx hb dL_isDelegated_47 (by decide) ?_
  refine g_cRi (k2 := 0) (n2 := 0) (g_runS (rest := []) hC (c_L_in hE hX hbl hL (i + 2) (5) (by omega) (by omega) (by omega)) Y_L_in k_654 S_L_in hSI.frz rfl hl.1 dL_isDelegated_48 ⟨Nat.le_of_ble_eq_true rfl, Nat.le_of_ble_eq_true rfl⟩ ⟨Nat.le_of_ble_eq_true rfl, Nat.le_of_ble_eq_true rfl⟩ rfl (Nat.le_of_ble_eq_true rfl)) rfl rfl g_no (fun r5_ h6_ => ?_)
  obtain ⟨ja, hja, rfl⟩ := h6_
  refine g_join (pc1 := 83) (rest := []) (P := fun x => ∃ q : Nat, 1 ≤ q ∧ q ≤ 99999 ∧ x = nI q) (fun x_ hx8_ => ?_) (fun J7_ => ?_)
  · obtain ⟨lm, hlm1, hlm2, rfl⟩ := hx8_
    refine lv_istore (lv' := [(8, .int (nI lm)), (7, .int (nI jh)), (6, .int (nI (30 + 8 * (K 1)))), (5, .int (nI (30 + 8 * jp))), (4, .int (nI jp)), (0, .ref oa), (1, .ref nb), (2, .ref b), (3, .int (nI i))]) hx hb dL_isDelegated_83 hl (by decide) rfl (fun ls hl => ?_)
    refine lv_aload_n hx hb dL_isDelegated_85 rfl (lv_at hl 6 rfl) ?_
    refine lv_iload hx hb dL_isDelegated_86 (lv_at hl 3 rfl) ?_
    refine lv_iconst (v := 4) hx hb dL_isDelegated_88 (by decide) ?_
    refine g_naddn (a := 30 + 8 * jp) (b := 4) hx hb dL_isDelegated_89 ?_
    refine g_iald (n := 450) (f := f) (j := 30 + 8 * jp + 4) hC hA (by omega) (by decide) dL_isDelegated_90 ?_
    rw [show f (30 + 8 * jp + 4) = nI F0 from (by rw [show 30 + 8 * jp + 4 = 34 + 8 * jp by omega]; exact ((hN.p6 (i := jp) (by omega) rfl).trans eF0))]
    refine lv_aload_n hx hb dL_isDelegated_91 rfl (lv_at hl 7 rfl) ?_
    refine lv_iload_n hx hb dL_isDelegated_92 rfl (lv_at hl 8 rfl) ?_
    refine lv_iconst (v := 4) hx hb dL_isDelegated_93 (by decide) ?_
    refine g_naddn (a := i) (b := 4) hx hb dL_isDelegated_94 ?_
    refine lv_iconst (v := 5) hx hb dL_isDelegated_95 (by decide) ?_
    refine g_cRi (k2 := 0) (n2 := 0) (g_runS (rest := [.int (nI F0)]) hC (c_L_in hE hX hbl hL (i + 4) (5) (by omega) (by omega) (by omega)) Y_L_in k_654 S_L_in hSI.frz rfl hl.1 dL_isDelegated_96 ⟨Nat.le_of_ble_eq_true rfl, Nat.le_of_ble_eq_true rfl⟩ ⟨Nat.le_of_ble_eq_true rfl, Nat.le_of_ble_eq_true rfl⟩ rfl (Nat.le_of_ble_eq_true rfl)) rfl rfl g_no (fun r9_ h10_ => ?_)
    obtain ⟨jb, hjb, rfl⟩ := h10_
    refine g_naddn (a := F0) (b := jb) hx hb dL_isDelegated_99 ?_
    refine lv_aload_n hx hb dL_isDelegated_100 rfl (lv_at hl 7 rfl) ?_
    refine lv_iload_n hx hb dL_isDelegated_101 rfl (lv_at hl 8 rfl) ?_
    refine lv_iconst (v := 5) hx hb dL_isDelegated_102 (by decide) ?_
    refine g_naddn (a := i) (b := 5) hx hb dL_isDelegated_103 ?_
    refine lv_bipush (v := 9) hx hb dL_isDelegated_104 (by decide) ?_
    refine g_cRi (k2 := 0) (n2 := 0) (g_runS (rest := [.int (nI (F0 + jb))]) hC (c_L_in hE hX hbl hL (i + 5) (9) (by omega) (by omega) (by omega)) Y_L_in k_654 S_L_in hSI.frz rfl hl.1 dL_isDelegated_106 ⟨Nat.le_of_ble_eq_true rfl, Nat.le_of_ble_eq_true rfl⟩ ⟨Nat.le_of_ble_eq_true rfl, Nat.le_of_ble_eq_true rfl⟩ rfl (Nat.le_of_ble_eq_true rfl)) rfl rfl g_no (fun r11_ h12_ => ?_)
    obtain ⟨jc, hjc, rfl⟩ := h12_
    refine g_join (pc1 := 117) (rest := [.int (nI (F0 + jb))]) (P := fun x => x = 0 ∨ x = 1) (fun xo hx14_ => ?_) (fun J13_ => ?_)
    · have hxo := hx14_
      refine lv_isub hx hb dL_isDelegated_117 ?_
      rcases sb_day (a := F0 + jb) (x := xo) (by omega) hxo with hneg | ⟨fi, hfi1, hfi2, efi⟩
      · generalize nI (F0 + jb) - xo = e1 at hneg ⊢
        refine lv_istore (lv' := [(9, .int e1), (8, .int (nI lm)), (7, .int (nI jh)), (6, .int (nI (30 + 8 * (K 1)))), (5, .int (nI (30 + 8 * jp))), (4, .int (nI jp)), (0, .ref oa), (1, .ref nb), (2, .ref b), (3, .int (nI i))]) hx hb dL_isDelegated_118 hl (by decide) rfl (fun ls hl => ?_)
        refine lv_iload hx hb dL_isDelegated_120 (lv_at hl 0 rfl) ?_
        refine lv_aload_n hx hb dL_isDelegated_122 rfl (lv_at hl 7 rfl) ?_
        refine lv_iload hx hb dL_isDelegated_123 (lv_at hl 4 rfl) ?_
        refine lv_iconst (v := 5) hx hb dL_isDelegated_125 (by decide) ?_
        refine g_naddn (a := 30 + 8 * jp) (b := 5) hx hb dL_isDelegated_126 ?_
        refine g_iald (n := 450) (f := f) (j := 30 + 8 * jp + 5) hC hA (by omega) (by decide) dL_isDelegated_127 ?_
        rw [show f (30 + 8 * jp + 5) = nI T0 from (by rw [show 30 + 8 * jp + 5 = 35 + 8 * jp by omega]; exact ((hN.p7 (i := jp) (by omega) rfl).trans eT0))]
        refine lv_aload_n hx hb dL_isDelegated_128 rfl (lv_at hl 8 rfl) ?_
        refine lv_iload_n hx hb dL_isDelegated_129 rfl (lv_at hl 9 rfl) ?_
        refine lv_bipush (v := 6) hx hb dL_isDelegated_130 (by decide) ?_
        refine g_naddn (a := i) (b := 6) hx hb dL_isDelegated_132 ?_
        refine lv_iconst (v := 5) hx hb dL_isDelegated_133 (by decide) ?_
        refine g_cRi (k2 := 0) (n2 := 0) (g_runS (rest := [.int (nI T0), .int e1]) hC (c_L_in hE hX hbl hL (i + 6) (5) (by omega) (by omega) (by omega)) Y_L_in k_654 S_L_in hSI.frz rfl hl.1 dL_isDelegated_134 ⟨Nat.le_of_ble_eq_true rfl, Nat.le_of_ble_eq_true rfl⟩ ⟨Nat.le_of_ble_eq_true rfl, Nat.le_of_ble_eq_true rfl⟩ rfl (Nat.le_of_ble_eq_true rfl)) rfl rfl g_no (fun r15_ h16_ => ?_)
        obtain ⟨je, hje, rfl⟩ := h16_
        refine lv_isub hx hb dL_isDelegated_137 ?_
        refine va_mmax (own := "SignatoryLaw") (index := 107) (rest := []) hx hb (hC.2.2.2.2.1.trans hl.1.symm) hC.2.2.2.2.2.1 (gw hC.1 hC.2.1 k_757 rfl) (gw hC.1 hC.2.1 k_202 rfl) (gw hC.1 hC.2.1 k_10 rfl) (gw hC.1 hC.2.1 k_203 rfl) (Nat.le_of_ble_eq_true rfl) (Nat.le_of_ble_eq_true rfl) (Nat.le_of_ble_eq_true rfl) (Nat.le_of_ble_eq_true rfl) dL_isDelegated_138 ?_
        generalize (if e1 < nI T0 - nI je then nI T0 - nI je else e1) = l1
        refine lv_istore (lv' := [(10, .int l1), (9, .int e1), (8, .int (nI lm)), (7, .int (nI jh)), (6, .int (nI (30 + 8 * (K 1)))), (5, .int (nI (30 + 8 * jp))), (4, .int (nI jp)), (0, .ref oa), (1, .ref nb), (2, .ref b), (3, .int (nI i))]) hx hb dL_isDelegated_141 hl (by decide) rfl (fun ls hl => ?_)
        refine lv_iload hx hb dL_isDelegated_143 (lv_at hl 1 rfl) ?_
        refine lv_if_ge (tgt := 173) hx hb dL_isDelegated_145 (by decide) (fun c17_ => ?_) (fun c17_ => ?_)
        · exact absurd c17_ (Int32.not_le.mpr hneg)
        · refine lv_aload_n hx hb dL_isDelegated_148 rfl (lv_at hl 7 rfl) ?_
          refine lv_iload hx hb dL_isDelegated_149 (lv_at hl 6 rfl) ?_
          refine lv_iload hx hb dL_isDelegated_151 (lv_at hl 3 rfl) ?_
          refine lv_iload hx hb dL_isDelegated_153 (lv_at hl 2 rfl) ?_
          refine lv_iload hx hb dL_isDelegated_155 (lv_at hl 1 rfl) ?_
          refine lv_iload hx hb dL_isDelegated_157 (lv_at hl 0 rfl) ?_
          refine g_cWi (k2 := 8) (n2 := 2050) (g_runSH (n := 6) (rest := []) hC (w_delegate hE (nb := nb) (oa := oa) (n := n) (μ := μ) (K := K) (nI jp) (nI jh) (nI lm) e1 l1 (by omega)) Z_delegate.1 Z_delegate.2.1 Z_delegate.2.2.1 k_827 Z_delegate.2.2.2 hSI rfl hl.1 dL_isDelegated_159 ⟨Nat.le_of_ble_eq_true rfl, Nat.le_of_ble_eq_true rfl⟩ ⟨Nat.le_of_ble_eq_true rfl, Nat.le_of_ble_eq_true rfl⟩ rfl (Nat.le_of_ble_eq_true rfl)) hS (fun q h => h.1) rfl rfl (fun r18_ H lo hw19_ hz_ hk_ hS => ?_)
          have hA := hA.kept (hk_ nb hA.lt (fun z => z.2 rfl))
          obtain ⟨er_, hSI⟩ := hw19_.no 1 (kd_2 (isP_nI hjp (by omega)) (isP_nI hjh (by omega)) hneg)
          have er_ : r18_ = (-900002 : Int32) := er_
          subst er_
          refine lv_ldc (own := "SignatoryLaw") (v := -900002) hx hb hC.2.2.2.2.2.1 (gw hC.1 hC.2.1 k_245 rfl) dL_isDelegated_162 ?_
          refine lv_icmp_ne (tgt := 171) hx hb dL_isDelegated_164 (by decide) (fun c20_ => ?_) (fun c20_ => ?_)
          · exact absurd rfl c20_
          · refine lv_iconst (v := 1) hx hb dL_isDelegated_167 (by decide) ?_
            refine lv_goto (tgt := 172) hx hb dL_isDelegated_168 (by decide) ?_
            exact g_zretW hC hr rfl dL_isDelegated_172 hS (Nat.le_of_ble_eq_true rfl) (Nat.le_of_ble_eq_true rfl) ⟨rfl, _, _, _, ⟨hSI.mono (by omega), hA, (hN.mono (by omega) (by omega))⟩, h2, h1⟩
      · rw [efi]
        refine lv_istore (lv' := [(9, .int (nI fi)), (8, .int (nI lm)), (7, .int (nI jh)), (6, .int (nI (30 + 8 * (K 1)))), (5, .int (nI (30 + 8 * jp))), (4, .int (nI jp)), (0, .ref oa), (1, .ref nb), (2, .ref b), (3, .int (nI i))]) hx hb dL_isDelegated_118 hl (by decide) rfl (fun ls hl => ?_)
        refine lv_iload hx hb dL_isDelegated_120 (lv_at hl 0 rfl) ?_
        refine lv_aload_n hx hb dL_isDelegated_122 rfl (lv_at hl 7 rfl) ?_
        refine lv_iload hx hb dL_isDelegated_123 (lv_at hl 4 rfl) ?_
        refine lv_iconst (v := 5) hx hb dL_isDelegated_125 (by decide) ?_
        refine g_naddn (a := 30 + 8 * jp) (b := 5) hx hb dL_isDelegated_126 ?_
        refine g_iald (n := 450) (f := f) (j := 30 + 8 * jp + 5) hC hA (by omega) (by decide) dL_isDelegated_127 ?_
        rw [show f (30 + 8 * jp + 5) = nI T0 from (by rw [show 30 + 8 * jp + 5 = 35 + 8 * jp by omega]; exact ((hN.p7 (i := jp) (by omega) rfl).trans eT0))]
        refine lv_aload_n hx hb dL_isDelegated_128 rfl (lv_at hl 8 rfl) ?_
        refine lv_iload_n hx hb dL_isDelegated_129 rfl (lv_at hl 9 rfl) ?_
        refine lv_bipush (v := 6) hx hb dL_isDelegated_130 (by decide) ?_
        refine g_naddn (a := i) (b := 6) hx hb dL_isDelegated_132 ?_
        refine lv_iconst (v := 5) hx hb dL_isDelegated_133 (by decide) ?_
        refine g_cRi (k2 := 0) (n2 := 0) (g_runS (rest := [.int (nI T0), .int (nI fi)]) hC (c_L_in hE hX hbl hL (i + 6) (5) (by omega) (by omega) (by omega)) Y_L_in k_654 S_L_in hSI.frz rfl hl.1 dL_isDelegated_134 ⟨Nat.le_of_ble_eq_true rfl, Nat.le_of_ble_eq_true rfl⟩ ⟨Nat.le_of_ble_eq_true rfl, Nat.le_of_ble_eq_true rfl⟩ rfl (Nat.le_of_ble_eq_true rfl)) rfl rfl g_no (fun r21_ h22_ => ?_)
        obtain ⟨je, hje, rfl⟩ := h22_
        refine lv_isub hx hb dL_isDelegated_137 ?_
        refine va_mmax (own := "SignatoryLaw") (index := 107) (rest := []) hx hb (hC.2.2.2.2.1.trans hl.1.symm) hC.2.2.2.2.2.1 (gw hC.1 hC.2.1 k_757 rfl) (gw hC.1 hC.2.1 k_202 rfl) (gw hC.1 hC.2.1 k_10 rfl) (gw hC.1 hC.2.1 k_203 rfl) (Nat.le_of_ble_eq_true rfl) (Nat.le_of_ble_eq_true rfl) (Nat.le_of_ble_eq_true rfl) (Nat.le_of_ble_eq_true rfl) dL_isDelegated_138 ?_
        obtain ⟨la, hla1, hla2, ela⟩ := mx_two (a := fi) (T := T0) (c := je) (by omega) (by omega) (by omega)
        rw [ela]
        refine lv_istore (lv' := [(10, .int (nI la)), (9, .int (nI fi)), (8, .int (nI lm)), (7, .int (nI jh)), (6, .int (nI (30 + 8 * (K 1)))), (5, .int (nI (30 + 8 * jp))), (4, .int (nI jp)), (0, .ref oa), (1, .ref nb), (2, .ref b), (3, .int (nI i))]) hx hb dL_isDelegated_141 hl (by decide) rfl (fun ls hl => ?_)
        refine lv_iload hx hb dL_isDelegated_143 (lv_at hl 1 rfl) ?_
        refine lv_if_ge (tgt := 173) hx hb dL_isDelegated_145 (by decide) (fun c23_ => ?_) (fun c23_ => ?_)
        · refine lv_iload hx hb dL_isDelegated_173 (lv_at hl 3 rfl) ?_
          refine lv_aload_n hx hb dL_isDelegated_175 rfl (lv_at hl 8 rfl) ?_
          refine lv_iload hx hb dL_isDelegated_176 (lv_at hl 5 rfl) ?_
          refine g_iald (n := 450) (f := f) (j := 30 + 8 * jp) hC hA (by omega) (by decide) dL_isDelegated_178 ?_
          rw [show f (30 + 8 * jp) = nI jq from ((hN.p3 (i := jp) (by omega) rfl).trans eq0)]
          refine lv_icmp_eq (tgt := 215) hx hb dL_isDelegated_179 (by decide) (fun c24_ => ?_) (fun c24_ => ?_)
          · have n25_ : jh = jq := (nI_eq (by omega) (by omega)).mp c24_
            refine lv_aload_n hx hb dL_isDelegated_215 rfl (lv_at hl 7 rfl) ?_
            refine lv_iload hx hb dL_isDelegated_216 (lv_at hl 6 rfl) ?_
            refine lv_iload hx hb dL_isDelegated_218 (lv_at hl 3 rfl) ?_
            refine lv_iload hx hb dL_isDelegated_220 (lv_at hl 2 rfl) ?_
            refine lv_iload hx hb dL_isDelegated_222 (lv_at hl 1 rfl) ?_
            refine lv_iload hx hb dL_isDelegated_224 (lv_at hl 0 rfl) ?_
            refine g_cWi (k2 := 8) (n2 := 2050) (g_runSH (n := 6) (rest := []) hC (w_delegate hE (nb := nb) (oa := oa) (n := n) (μ := μ) (K := K) (nI jp) (nI jh) (nI lm) (nI fi) (nI la) (by omega)) Z_delegate.1 Z_delegate.2.1 Z_delegate.2.2.1 k_827 Z_delegate.2.2.2 hSI rfl hl.1 dL_isDelegated_226 ⟨Nat.le_of_ble_eq_true rfl, Nat.le_of_ble_eq_true rfl⟩ ⟨Nat.le_of_ble_eq_true rfl, Nat.le_of_ble_eq_true rfl⟩ rfl (Nat.le_of_ble_eq_true rfl)) hS (fun q h => h.1) rfl rfl (fun r26_ H lo hw27_ hz_ hk_ hS => ?_)
            have hA := hA.kept (hk_ nb hA.lt (fun z => z.2 rfl))
            obtain ⟨er_, hSI⟩ := hw27_.no 2 (kd_3 (isP_nI hjp (by omega)) (isP_nI hjh (by omega)) (pw_n (by omega) (by omega) (by omega) (by omega)) ((kd_c eq0 eL0 eF0 eT0 (by omega) (by omega) (by omega) (by omega) (by omega) (by omega) (by omega) (by omega) (by omega)).mpr (by omega)))
            have er_ : r26_ = (-900003 : Int32) := er_
            subst er_
            refine lv_ldc (own := "SignatoryLaw") (v := -900003) hx hb hC.2.2.2.2.2.1 (gw hC.1 hC.2.1 k_525 rfl) dL_isDelegated_229 ?_
            refine lv_icmp_ne (tgt := 238) hx hb dL_isDelegated_231 (by decide) (fun c28_ => ?_) (fun c28_ => ?_)
            · exact absurd rfl c28_
            · refine lv_iconst (v := 1) hx hb dL_isDelegated_234 (by decide) ?_
              refine lv_goto (tgt := 239) hx hb dL_isDelegated_235 (by decide) ?_
              exact g_zretW hC hr rfl dL_isDelegated_239 hS (Nat.le_of_ble_eq_true rfl) (Nat.le_of_ble_eq_true rfl) ⟨rfl, _, _, _, ⟨hSI.mono (by omega), hA, (hN.mono (by omega) (by omega))⟩, h2, h1⟩
          · have n25_ : ¬ jh = jq := fun z => c24_ (congrArg nI z)
            refine lv_iload hx hb dL_isDelegated_182 (lv_at hl 2 rfl) ?_
            refine lv_aload_n hx hb dL_isDelegated_184 rfl (lv_at hl 8 rfl) ?_
            refine lv_iload hx hb dL_isDelegated_185 (lv_at hl 5 rfl) ?_
            refine lv_iconst (v := 3) hx hb dL_isDelegated_187 (by decide) ?_
            refine g_naddn (a := 30 + 8 * jp) (b := 3) hx hb dL_isDelegated_188 ?_
            refine g_iald (n := 450) (f := f) (j := 30 + 8 * jp + 3) hC hA (by omega) (by decide) dL_isDelegated_189 ?_
            rw [show f (30 + 8 * jp + 3) = nI L0 from (by rw [show 30 + 8 * jp + 3 = 33 + 8 * jp by omega]; exact ((hN.p5 (i := jp) (by omega) rfl).trans eL0))]
            refine lv_icmp_gt (tgt := 215) hx hb dL_isDelegated_190 (by decide) (fun c29_ => ?_) (fun c29_ => ?_)
            · have n30_ : L0 < lm := (nI_ltI (by omega) (by omega)).mp c29_
              refine lv_aload_n hx hb dL_isDelegated_215 rfl (lv_at hl 7 rfl) ?_
              refine lv_iload hx hb dL_isDelegated_216 (lv_at hl 6 rfl) ?_
              refine lv_iload hx hb dL_isDelegated_218 (lv_at hl 3 rfl) ?_
              refine lv_iload hx hb dL_isDelegated_220 (lv_at hl 2 rfl) ?_
              refine lv_iload hx hb dL_isDelegated_222 (lv_at hl 1 rfl) ?_
              refine lv_iload hx hb dL_isDelegated_224 (lv_at hl 0 rfl) ?_
              refine g_cWi (k2 := 8) (n2 := 2050) (g_runSH (n := 6) (rest := []) hC (w_delegate hE (nb := nb) (oa := oa) (n := n) (μ := μ) (K := K) (nI jp) (nI jh) (nI lm) (nI fi) (nI la) (by omega)) Z_delegate.1 Z_delegate.2.1 Z_delegate.2.2.1 k_827 Z_delegate.2.2.2 hSI rfl hl.1 dL_isDelegated_226 ⟨Nat.le_of_ble_eq_true rfl, Nat.le_of_ble_eq_true rfl⟩ ⟨Nat.le_of_ble_eq_true rfl, Nat.le_of_ble_eq_true rfl⟩ rfl (Nat.le_of_ble_eq_true rfl)) hS (fun q h => h.1) rfl rfl (fun r31_ H lo hw32_ hz_ hk_ hS => ?_)
              have hA := hA.kept (hk_ nb hA.lt (fun z => z.2 rfl))
              obtain ⟨er_, hSI⟩ := hw32_.no 2 (kd_3 (isP_nI hjp (by omega)) (isP_nI hjh (by omega)) (pw_n (by omega) (by omega) (by omega) (by omega)) ((kd_c eq0 eL0 eF0 eT0 (by omega) (by omega) (by omega) (by omega) (by omega) (by omega) (by omega) (by omega) (by omega)).mpr (by omega)))
              have er_ : r31_ = (-900003 : Int32) := er_
              subst er_
              refine lv_ldc (own := "SignatoryLaw") (v := -900003) hx hb hC.2.2.2.2.2.1 (gw hC.1 hC.2.1 k_525 rfl) dL_isDelegated_229 ?_
              refine lv_icmp_ne (tgt := 238) hx hb dL_isDelegated_231 (by decide) (fun c33_ => ?_) (fun c33_ => ?_)
              · exact absurd rfl c33_
              · refine lv_iconst (v := 1) hx hb dL_isDelegated_234 (by decide) ?_
                refine lv_goto (tgt := 239) hx hb dL_isDelegated_235 (by decide) ?_
                exact g_zretW hC hr rfl dL_isDelegated_239 hS (Nat.le_of_ble_eq_true rfl) (Nat.le_of_ble_eq_true rfl) ⟨rfl, _, _, _, ⟨hSI.mono (by omega), hA, (hN.mono (by omega) (by omega))⟩, h2, h1⟩
            · have n30_ : lm ≤ L0 := Nat.not_lt.mp (fun z => c29_ (show nI (L0) < nI (lm) from (nI_ltI (by omega) (by omega)).mpr z))
              refine lv_iload hx hb dL_isDelegated_193 (lv_at hl 1 rfl) ?_
              refine lv_aload_n hx hb dL_isDelegated_195 rfl (lv_at hl 8 rfl) ?_
              refine lv_iload hx hb dL_isDelegated_196 (lv_at hl 5 rfl) ?_
              refine lv_iconst (v := 4) hx hb dL_isDelegated_198 (by decide) ?_
              refine g_naddn (a := 30 + 8 * jp) (b := 4) hx hb dL_isDelegated_199 ?_
              refine g_iald (n := 450) (f := f) (j := 30 + 8 * jp + 4) hC hA (by omega) (by decide) dL_isDelegated_200 ?_
              rw [show f (30 + 8 * jp + 4) = nI F0 from (by rw [show 30 + 8 * jp + 4 = 34 + 8 * jp by omega]; exact ((hN.p6 (i := jp) (by omega) rfl).trans eF0))]
              refine lv_icmp_lt (tgt := 215) hx hb dL_isDelegated_201 (by decide) (fun c34_ => ?_) (fun c34_ => ?_)
              · have n35_ : fi < F0 := (nI_ltI (by omega) (by omega)).mp c34_
                refine lv_aload_n hx hb dL_isDelegated_215 rfl (lv_at hl 7 rfl) ?_
                refine lv_iload hx hb dL_isDelegated_216 (lv_at hl 6 rfl) ?_
                refine lv_iload hx hb dL_isDelegated_218 (lv_at hl 3 rfl) ?_
                refine lv_iload hx hb dL_isDelegated_220 (lv_at hl 2 rfl) ?_
                refine lv_iload hx hb dL_isDelegated_222 (lv_at hl 1 rfl) ?_
                refine lv_iload hx hb dL_isDelegated_224 (lv_at hl 0 rfl) ?_
                refine g_cWi (k2 := 8) (n2 := 2050) (g_runSH (n := 6) (rest := []) hC (w_delegate hE (nb := nb) (oa := oa) (n := n) (μ := μ) (K := K) (nI jp) (nI jh) (nI lm) (nI fi) (nI la) (by omega)) Z_delegate.1 Z_delegate.2.1 Z_delegate.2.2.1 k_827 Z_delegate.2.2.2 hSI rfl hl.1 dL_isDelegated_226 ⟨Nat.le_of_ble_eq_true rfl, Nat.le_of_ble_eq_true rfl⟩ ⟨Nat.le_of_ble_eq_true rfl, Nat.le_of_ble_eq_true rfl⟩ rfl (Nat.le_of_ble_eq_true rfl)) hS (fun q h => h.1) rfl rfl (fun r36_ H lo hw37_ hz_ hk_ hS => ?_)
                have hA := hA.kept (hk_ nb hA.lt (fun z => z.2 rfl))
                obtain ⟨er_, hSI⟩ := hw37_.no 2 (kd_3 (isP_nI hjp (by omega)) (isP_nI hjh (by omega)) (pw_n (by omega) (by omega) (by omega) (by omega)) ((kd_c eq0 eL0 eF0 eT0 (by omega) (by omega) (by omega) (by omega) (by omega) (by omega) (by omega) (by omega) (by omega)).mpr (by omega)))
                have er_ : r36_ = (-900003 : Int32) := er_
                subst er_
                refine lv_ldc (own := "SignatoryLaw") (v := -900003) hx hb hC.2.2.2.2.2.1 (gw hC.1 hC.2.1 k_525 rfl) dL_isDelegated_229 ?_
                refine lv_icmp_ne (tgt := 238) hx hb dL_isDelegated_231 (by decide) (fun c38_ => ?_) (fun c38_ => ?_)
                · exact absurd rfl c38_
                · refine lv_iconst (v := 1) hx hb dL_isDelegated_234 (by decide) ?_
                  refine lv_goto (tgt := 239) hx hb dL_isDelegated_235 (by decide) ?_
                  exact g_zretW hC hr rfl dL_isDelegated_239 hS (Nat.le_of_ble_eq_true rfl) (Nat.le_of_ble_eq_true rfl) ⟨rfl, _, _, _, ⟨hSI.mono (by omega), hA, (hN.mono (by omega) (by omega))⟩, h2, h1⟩
              · have n35_ : F0 ≤ fi := Nat.not_lt.mp (fun z => c34_ (show nI (fi) < nI (F0) from (nI_ltI (by omega) (by omega)).mpr z))
                refine lv_iload hx hb dL_isDelegated_204 (lv_at hl 0 rfl) ?_
                refine lv_aload_n hx hb dL_isDelegated_206 rfl (lv_at hl 8 rfl) ?_
                refine lv_iload hx hb dL_isDelegated_207 (lv_at hl 5 rfl) ?_
                refine lv_iconst (v := 5) hx hb dL_isDelegated_209 (by decide) ?_
                refine g_naddn (a := 30 + 8 * jp) (b := 5) hx hb dL_isDelegated_210 ?_
                refine g_iald (n := 450) (f := f) (j := 30 + 8 * jp + 5) hC hA (by omega) (by decide) dL_isDelegated_211 ?_
                rw [show f (30 + 8 * jp + 5) = nI T0 from (by rw [show 30 + 8 * jp + 5 = 35 + 8 * jp by omega]; exact ((hN.p7 (i := jp) (by omega) rfl).trans eT0))]
                refine lv_icmp_le (tgt := 240) hx hb dL_isDelegated_212 (by decide) (fun c39_ => ?_) (fun c39_ => ?_)
                · have n40_ : la ≤ T0 := le_nI (by omega) (by omega) c39_
                  refine lv_aload_n hx hb dL_isDelegated_240 rfl (lv_at hl 8 rfl) ?_
                  refine lv_iload hx hb dL_isDelegated_241 (lv_at hl 5 rfl) ?_
                  refine lv_bipush (v := 7) hx hb dL_isDelegated_243 (by decide) ?_
                  refine g_naddn (a := 30 + 8 * jp) (b := 7) hx hb dL_isDelegated_245 ?_
                  refine g_iald (n := 450) (f := f) (j := 30 + 8 * jp + 7) hC hA (by omega) (by decide) dL_isDelegated_246 ?_
                  rw [show f (30 + 8 * jp + 7) = μ 1 jp from hN.rv (i := jp) (by omega) (by omega)]
                  refine lv_iconst (v := 1) hx hb dL_isDelegated_247 (by decide) ?_
                  refine lv_icmp_eq (tgt := 259) hx hb dL_isDelegated_248 (by decide) (fun c41_ => ?_) (fun c41_ => ?_)
                  · refine lv_aload_n hx hb dL_isDelegated_259 rfl (lv_at hl 7 rfl) ?_
                    refine lv_iload hx hb dL_isDelegated_260 (lv_at hl 6 rfl) ?_
                    refine lv_iload hx hb dL_isDelegated_262 (lv_at hl 3 rfl) ?_
                    refine lv_iload hx hb dL_isDelegated_264 (lv_at hl 2 rfl) ?_
                    refine lv_iload hx hb dL_isDelegated_266 (lv_at hl 1 rfl) ?_
                    refine lv_iload hx hb dL_isDelegated_268 (lv_at hl 0 rfl) ?_
                    refine g_cWi (k2 := 8) (n2 := 2050) (g_runSH (n := 6) (rest := []) hC (w_delegate hE (nb := nb) (oa := oa) (n := n) (μ := μ) (K := K) (nI jp) (nI jh) (nI lm) (nI fi) (nI la) (by omega)) Z_delegate.1 Z_delegate.2.1 Z_delegate.2.2.1 k_827 Z_delegate.2.2.2 hSI rfl hl.1 dL_isDelegated_270 ⟨Nat.le_of_ble_eq_true rfl, Nat.le_of_ble_eq_true rfl⟩ ⟨Nat.le_of_ble_eq_true rfl, Nat.le_of_ble_eq_true rfl⟩ rfl (Nat.le_of_ble_eq_true rfl)) hS (fun q h => h.1) rfl rfl (fun r42_ H lo hw43_ hz_ hk_ hS => ?_)
                    have hA := hA.kept (hk_ nb hA.lt (fun z => z.2 rfl))
                    obtain ⟨er_, hSI⟩ := hw43_.no 3 (kd_4 (isP_nI hjp (by omega)) (isP_nI hjh (by omega)) (pw_n (by omega) (by omega) (by omega) (by omega)) (fun z => by have z := (kd_c eq0 eL0 eF0 eT0 (by omega) (by omega) (by omega) (by omega) (by omega) (by omega) (by omega) (by omega) (by omega)).mp z; omega) (by rw [show ix (nI jp) = jp from nI_clamp (by omega)]; first | exact Or.inr (by assumption) | exact Or.inl (by show μ 1 jp ≠ 0; rw [(by assumption : μ 1 jp = 1)]; decide)))
                    have er_ : r42_ = (-900004 : Int32) := er_
                    subst er_
                    refine lv_ldc (own := "SignatoryLaw") (v := -900004) hx hb hC.2.2.2.2.2.1 (gw hC.1 hC.2.1 k_553 rfl) dL_isDelegated_273 ?_
                    refine lv_icmp_ne (tgt := 282) hx hb dL_isDelegated_275 (by decide) (fun c44_ => ?_) (fun c44_ => ?_)
                    · exact absurd rfl c44_
                    · refine lv_iconst (v := 1) hx hb dL_isDelegated_278 (by decide) ?_
                      refine lv_goto (tgt := 283) hx hb dL_isDelegated_279 (by decide) ?_
                      exact g_zretW hC hr rfl dL_isDelegated_283 hS (Nat.le_of_ble_eq_true rfl) (Nat.le_of_ble_eq_true rfl) ⟨rfl, _, _, _, ⟨hSI.mono (by omega), hA, (hN.mono (by omega) (by omega))⟩, h2, h1⟩
                  · refine lv_aload_n hx hb dL_isDelegated_251 rfl (lv_at hl 8 rfl) ?_
                    refine lv_iconst (v := 1) hx hb dL_isDelegated_252 (by decide) ?_
                    refine g_iald (n := 450) (f := f) (j := 1) hC hA (by omega) (by decide) dL_isDelegated_253 ?_
                    rw [show f (1) = nI (K 1) from hN.k1]
                    refine lv_bipush (v := 20) hx hb dL_isDelegated_254 (by decide) ?_
                    refine lv_icmp_ne (tgt := 284) hx hb dL_isDelegated_256 (by decide) (fun c45_ => ?_) (fun c45_ => ?_)
                    · have n46_ : ¬ (K 1) = 20 := fun z => c45_ (congrArg nI z)
                      refine lv_aload_n hx hb dL_isDelegated_284 rfl (lv_at hl 8 rfl) ?_
                      refine lv_iload hx hb dL_isDelegated_285 (lv_at hl 4 rfl) ?_
                      refine lv_iload hx hb dL_isDelegated_287 (lv_at hl 3 rfl) ?_
                      refine g_iast (n := 450) (f := f) (j := 30 + 8 * (K 1)) (x := nI jh) hC hA hS hnb (by omega) (by decide) dL_isDelegated_289 (fun H lo hA hz_ ho_ hS => ?_)
                      have hSI := hSI.netw hnb hz_ ho_
                      have hA : gNet E nb (upd f (30 + 8 * (K 1)) (nI jh)) H := hA
                      refine lv_aload_n hx hb dL_isDelegated_290 rfl (lv_at hl 8 rfl) ?_
                      refine lv_iload hx hb dL_isDelegated_291 (lv_at hl 4 rfl) ?_
                      refine lv_iconst (v := 1) hx hb dL_isDelegated_293 (by decide) ?_
                      refine g_naddn (a := 30 + 8 * (K 1)) (b := 1) hx hb dL_isDelegated_294 ?_
                      refine lv_aload_n hx hb dL_isDelegated_295 rfl (lv_at hl 8 rfl) ?_
                      refine lv_iload hx hb dL_isDelegated_296 (lv_at hl 5 rfl) ?_
                      refine lv_iconst (v := 1) hx hb dL_isDelegated_298 (by decide) ?_
                      refine g_naddn (a := 30 + 8 * jp) (b := 1) hx hb dL_isDelegated_299 ?_
                      refine g_iald (n := 450) (f := (upd f (30 + 8 * (K 1)) (nI jh))) (j := 30 + 8 * jp + 1) hC hA (by omega) (by decide) dL_isDelegated_300 ?_
                      rw [show (upd f (30 + 8 * (K 1)) (nI jh)) (30 + 8 * jp + 1) = μ 4 jp from by rw [upd_n _ _ (by omega)]; exact hN.p4 (i := jp) (by omega) (by omega)]
                      refine g_iast (n := 450) (f := (upd f (30 + 8 * (K 1)) (nI jh))) (j := 30 + 8 * (K 1) + 1) (x := μ 4 jp) hC hA hS hnb (by omega) (by decide) dL_isDelegated_301 (fun H lo hA hz_ ho_ hS => ?_)
                      have hSI := hSI.netw hnb hz_ ho_
                      have hA : gNet E nb (upd (upd f (30 + 8 * (K 1)) (nI jh)) (30 + 8 * (K 1) + 1) (μ 4 jp)) H := hA
                      refine lv_aload_n hx hb dL_isDelegated_302 rfl (lv_at hl 8 rfl) ?_
                      refine lv_iload hx hb dL_isDelegated_303 (lv_at hl 4 rfl) ?_
                      refine lv_iconst (v := 2) hx hb dL_isDelegated_305 (by decide) ?_
                      refine g_naddn (a := 30 + 8 * (K 1)) (b := 2) hx hb dL_isDelegated_306 ?_
                      refine lv_aload_n hx hb dL_isDelegated_307 rfl (lv_at hl 8 rfl) ?_
                      refine lv_iload hx hb dL_isDelegated_308 (lv_at hl 5 rfl) ?_
                      refine lv_iconst (v := 2) hx hb dL_isDelegated_310 (by decide) ?_
                      refine g_naddn (a := 30 + 8 * jp) (b := 2) hx hb dL_isDelegated_311 ?_
                      refine g_iald (n := 450) (f := (upd (upd f (30 + 8 * (K 1)) (nI jh)) (30 + 8 * (K 1) + 1) (μ 4 jp))) (j := 30 + 8 * jp + 2) hC hA (by omega) (by decide) dL_isDelegated_312 ?_
                      rw [show (upd (upd f (30 + 8 * (K 1)) (nI jh)) (30 + 8 * (K 1) + 1) (μ 4 jp)) (30 + 8 * jp + 2) = nI h9 from by rw [upd_n _ _ (by omega), upd_n _ _ (by omega)]; exact (by rw [show 30 + 8 * jp + 2 = 32 + 8 * jp by omega]; exact h9a)]
                      refine g_iast (n := 450) (f := (upd (upd f (30 + 8 * (K 1)) (nI jh)) (30 + 8 * (K 1) + 1) (μ 4 jp))) (j := 30 + 8 * (K 1) + 2) (x := nI h9) hC hA hS hnb (by omega) (by decide) dL_isDelegated_313 (fun H lo hA hz_ ho_ hS => ?_)
                      have hSI := hSI.netw hnb hz_ ho_
                      have hA : gNet E nb (upd (upd (upd f (30 + 8 * (K 1)) (nI jh)) (30 + 8 * (K 1) + 1) (μ 4 jp)) (30 + 8 * (K 1) + 2) (nI h9)) H := hA
                      refine lv_aload_n hx hb dL_isDelegated_314 rfl (lv_at hl 8 rfl) ?_
                      refine lv_iload hx hb dL_isDelegated_315 (lv_at hl 4 rfl) ?_
                      refine lv_iconst (v := 3) hx hb dL_isDelegated_317 (by decide) ?_
                      refine g_naddn (a := 30 + 8 * (K 1)) (b := 3) hx hb dL_isDelegated_318 ?_
                      refine lv_iload hx hb dL_isDelegated_319 (lv_at hl 2 rfl) ?_
                      refine g_iast (n := 450) (f := (upd (upd (upd f (30 + 8 * (K 1)) (nI jh)) (30 + 8 * (K 1) + 1) (μ 4 jp)) (30 + 8 * (K 1) + 2) (nI h9))) (j := 30 + 8 * (K 1) + 3) (x := nI lm) hC hA hS hnb (by omega) (by decide) dL_isDelegated_321 (fun H lo hA hz_ ho_ hS => ?_)
                      have hSI := hSI.netw hnb hz_ ho_
                      have hA : gNet E nb (upd (upd (upd (upd f (30 + 8 * (K 1)) (nI jh)) (30 + 8 * (K 1) + 1) (μ 4 jp)) (30 + 8 * (K 1) + 2) (nI h9)) (30 + 8 * (K 1) + 3) (nI lm)) H := hA
                      refine lv_aload_n hx hb dL_isDelegated_322 rfl (lv_at hl 8 rfl) ?_
                      refine lv_iload hx hb dL_isDelegated_323 (lv_at hl 4 rfl) ?_
                      refine lv_iconst (v := 4) hx hb dL_isDelegated_325 (by decide) ?_
                      refine g_naddn (a := 30 + 8 * (K 1)) (b := 4) hx hb dL_isDelegated_326 ?_
                      refine lv_iload hx hb dL_isDelegated_327 (lv_at hl 1 rfl) ?_
                      refine g_iast (n := 450) (f := (upd (upd (upd (upd f (30 + 8 * (K 1)) (nI jh)) (30 + 8 * (K 1) + 1) (μ 4 jp)) (30 + 8 * (K 1) + 2) (nI h9)) (30 + 8 * (K 1) + 3) (nI lm))) (j := 30 + 8 * (K 1) + 4) (x := nI fi) hC hA hS hnb (by omega) (by decide) dL_isDelegated_329 (fun H lo hA hz_ ho_ hS => ?_)
                      have hSI := hSI.netw hnb hz_ ho_
                      have hA : gNet E nb (upd (upd (upd (upd (upd f (30 + 8 * (K 1)) (nI jh)) (30 + 8 * (K 1) + 1) (μ 4 jp)) (30 + 8 * (K 1) + 2) (nI h9)) (30 + 8 * (K 1) + 3) (nI lm)) (30 + 8 * (K 1) + 4) (nI fi)) H := hA
                      refine lv_aload_n hx hb dL_isDelegated_330 rfl (lv_at hl 8 rfl) ?_
                      refine lv_iload hx hb dL_isDelegated_331 (lv_at hl 4 rfl) ?_
                      refine lv_iconst (v := 5) hx hb dL_isDelegated_333 (by decide) ?_
                      refine g_naddn (a := 30 + 8 * (K 1)) (b := 5) hx hb dL_isDelegated_334 ?_
                      refine lv_iload hx hb dL_isDelegated_335 (lv_at hl 0 rfl) ?_
                      refine g_iast (n := 450) (f := (upd (upd (upd (upd (upd f (30 + 8 * (K 1)) (nI jh)) (30 + 8 * (K 1) + 1) (μ 4 jp)) (30 + 8 * (K 1) + 2) (nI h9)) (30 + 8 * (K 1) + 3) (nI lm)) (30 + 8 * (K 1) + 4) (nI fi))) (j := 30 + 8 * (K 1) + 5) (x := nI la) hC hA hS hnb (by omega) (by decide) dL_isDelegated_337 (fun H lo hA hz_ ho_ hS => ?_)
                      have hSI := hSI.netw hnb hz_ ho_
                      have hA : gNet E nb (upd (upd (upd (upd (upd (upd f (30 + 8 * (K 1)) (nI jh)) (30 + 8 * (K 1) + 1) (μ 4 jp)) (30 + 8 * (K 1) + 2) (nI h9)) (30 + 8 * (K 1) + 3) (nI lm)) (30 + 8 * (K 1) + 4) (nI fi)) (30 + 8 * (K 1) + 5) (nI la)) H := hA
                      refine lv_aload_n hx hb dL_isDelegated_338 rfl (lv_at hl 8 rfl) ?_
                      refine lv_iload hx hb dL_isDelegated_339 (lv_at hl 4 rfl) ?_
                      refine lv_bipush (v := 6) hx hb dL_isDelegated_341 (by decide) ?_
                      refine g_naddn (a := 30 + 8 * (K 1)) (b := 6) hx hb dL_isDelegated_343 ?_
                      refine lv_iload hx hb dL_isDelegated_344 (lv_at hl 6 rfl) ?_
                      refine g_iast (n := 450) (f := (upd (upd (upd (upd (upd (upd f (30 + 8 * (K 1)) (nI jh)) (30 + 8 * (K 1) + 1) (μ 4 jp)) (30 + 8 * (K 1) + 2) (nI h9)) (30 + 8 * (K 1) + 3) (nI lm)) (30 + 8 * (K 1) + 4) (nI fi)) (30 + 8 * (K 1) + 5) (nI la))) (j := 30 + 8 * (K 1) + 6) (x := nI jp) hC hA hS hnb (by omega) (by decide) dL_isDelegated_346 (fun H lo hA hz_ ho_ hS => ?_)
                      have hSI := hSI.netw hnb hz_ ho_
                      have hA : gNet E nb (upd (upd (upd (upd (upd (upd (upd f (30 + 8 * (K 1)) (nI jh)) (30 + 8 * (K 1) + 1) (μ 4 jp)) (30 + 8 * (K 1) + 2) (nI h9)) (30 + 8 * (K 1) + 3) (nI lm)) (30 + 8 * (K 1) + 4) (nI fi)) (30 + 8 * (K 1) + 5) (nI la)) (30 + 8 * (K 1) + 6) (nI jp)) H := hA
                      refine lv_aload_n hx hb dL_isDelegated_347 rfl (lv_at hl 8 rfl) ?_
                      refine lv_iconst (v := 1) hx hb dL_isDelegated_348 (by decide) ?_
                      refine lv_dup2_11 hx hb dL_isDelegated_349 rfl rfl ?_
                      refine g_iald (n := 450) (f := (upd (upd (upd (upd (upd (upd (upd f (30 + 8 * (K 1)) (nI jh)) (30 + 8 * (K 1) + 1) (μ 4 jp)) (30 + 8 * (K 1) + 2) (nI h9)) (30 + 8 * (K 1) + 3) (nI lm)) (30 + 8 * (K 1) + 4) (nI fi)) (30 + 8 * (K 1) + 5) (nI la)) (30 + 8 * (K 1) + 6) (nI jp))) (j := 1) hC hA (by omega) (by decide) dL_isDelegated_350 ?_
                      rw [show (upd (upd (upd (upd (upd (upd (upd f (30 + 8 * (K 1)) (nI jh)) (30 + 8 * (K 1) + 1) (μ 4 jp)) (30 + 8 * (K 1) + 2) (nI h9)) (30 + 8 * (K 1) + 3) (nI lm)) (30 + 8 * (K 1) + 4) (nI fi)) (30 + 8 * (K 1) + 5) (nI la)) (30 + 8 * (K 1) + 6) (nI jp)) (1) = nI (K 1) from by rw [upd_n _ _ (by omega), upd_n _ _ (by omega), upd_n _ _ (by omega), upd_n _ _ (by omega), upd_n _ _ (by omega), upd_n _ _ (by omega), upd_n _ _ (by omega)]; exact hN.k1]
                      refine lv_iconst (v := 1) hx hb dL_isDelegated_351 (by decide) ?_
                      refine g_naddn (a := K 1) (b := 1) hx hb dL_isDelegated_352 ?_
                      refine g_iast (n := 450) (f := (upd (upd (upd (upd (upd (upd (upd f (30 + 8 * (K 1)) (nI jh)) (30 + 8 * (K 1) + 1) (μ 4 jp)) (30 + 8 * (K 1) + 2) (nI h9)) (30 + 8 * (K 1) + 3) (nI lm)) (30 + 8 * (K 1) + 4) (nI fi)) (30 + 8 * (K 1) + 5) (nI la)) (30 + 8 * (K 1) + 6) (nI jp))) (j := 1) (x := nI (K 1 + 1)) hC hA hS hnb (by omega) (by decide) dL_isDelegated_353 (fun H lo hA hz_ ho_ hS => ?_)
                      have hSI := hSI.netw hnb hz_ ho_
                      have hA : gNet E nb (upd (upd (upd (upd (upd (upd (upd (upd f (30 + 8 * (K 1)) (nI jh)) (30 + 8 * (K 1) + 1) (μ 4 jp)) (30 + 8 * (K 1) + 2) (nI h9)) (30 + 8 * (K 1) + 3) (nI lm)) (30 + 8 * (K 1) + 4) (nI fi)) (30 + 8 * (K 1) + 5) (nI la)) (30 + 8 * (K 1) + 6) (nI jp)) (1) (nI (K 1 + 1))) H := hA
                      have hN48_ : NL (upd (upd (upd (upd (upd (upd (upd (upd f (30 + 8 * (K 1)) (nI jh)) (30 + 8 * (K 1) + 1) (μ 4 jp)) (30 + 8 * (K 1) + 2) (nI h9)) (30 + 8 * (K 1) + 3) (nI lm)) (30 + 8 * (K 1) + 4) (nI fi)) (30 + 8 * (K 1) + 5) (nI la)) (30 + 8 * (K 1) + 6) (nI jp)) (1) (nI (K 1 + 1))) (mAdds μ (K 1) (nI jh) (μ 4 jp) (hch (nI h9)) (nI lm) (nI fi) (nI la) (nI jp)) (updN K 1 (K 1 + 1)) D := hN.power (by omega) h9l rfl rfl (by omega) (by omega)
                      obtain ⟨g47_, eg47_⟩ : ∃ g_, g_ = (upd (upd (upd (upd (upd (upd (upd (upd f (30 + 8 * (K 1)) (nI jh)) (30 + 8 * (K 1) + 1) (μ 4 jp)) (30 + 8 * (K 1) + 2) (nI h9)) (30 + 8 * (K 1) + 3) (nI lm)) (30 + 8 * (K 1) + 4) (nI fi)) (30 + 8 * (K 1) + 5) (nI la)) (30 + 8 * (K 1) + 6) (nI jp)) (1) (nI (K 1 + 1))) := ⟨_, rfl⟩
                      rw [← eg47_] at hN48_ hA
                      refine lv_aload_n hx hb dL_isDelegated_354 rfl (lv_at hl 7 rfl) ?_
                      refine lv_iload hx hb dL_isDelegated_355 (lv_at hl 6 rfl) ?_
                      refine lv_iload hx hb dL_isDelegated_357 (lv_at hl 3 rfl) ?_
                      refine lv_iload hx hb dL_isDelegated_359 (lv_at hl 2 rfl) ?_
                      refine lv_iload hx hb dL_isDelegated_361 (lv_at hl 1 rfl) ?_
                      refine lv_iload hx hb dL_isDelegated_363 (lv_at hl 0 rfl) ?_
                      refine g_cWi (k2 := 8) (n2 := 2050) (g_runSH (n := 6) (rest := []) hC (w_delegate hE (nb := nb) (oa := oa) (n := n) (μ := μ) (K := K) (nI jp) (nI jh) (nI lm) (nI fi) (nI la) (by omega)) Z_delegate.1 Z_delegate.2.1 Z_delegate.2.2.1 k_827 Z_delegate.2.2.2 hSI rfl hl.1 dL_isDelegated_365 ⟨Nat.le_of_ble_eq_true rfl, Nat.le_of_ble_eq_true rfl⟩ ⟨Nat.le_of_ble_eq_true rfl, Nat.le_of_ble_eq_true rfl⟩ rfl (Nat.le_of_ble_eq_true rfl)) hS (fun q h => h.1) rfl rfl (fun r49_ H lo hw50_ hz_ hk_ hS => ?_)
                      have hA := hA.kept (hk_ nb hA.lt (fun z => z.2 rfl))
                      obtain ⟨er_, hSI⟩ := hw50_.ok (kd_0 (isP_nI hjp (by omega)) (isP_nI hjh (by omega)) (pw_n (by omega) (by omega) (by omega) (by omega)) (fun z => by have z := (kd_c eq0 eL0 eF0 eT0 (by omega) (by omega) (by omega) (by omega) (by omega) (by omega) (by omega) (by omega) (by omega)).mp z; omega) (by rw [show ix (nI jp) = jp from nI_clamp (by omega)]; intro z; rcases z with z | z; exact z ((hU.2.2.2.2.1 jp).resolve_right (by assumption)); omega))
                      simp only [show ix (nI jp) = jp from nI_clamp (by omega)] at er_ hSI
                      rw [h9b] at hSI
                      have er_ : r49_ = nI (K 1) := er_
                      subst er_
                      refine lv_aload_n hx hb dL_isDelegated_368 rfl (lv_at hl 8 rfl) ?_
                      refine lv_iconst (v := 1) hx hb dL_isDelegated_369 (by decide) ?_
                      refine g_iald (n := 450) (f := g47_) (j := 1) hC hA (by omega) (by decide) dL_isDelegated_370 ?_
                      rw [show g47_ (1) = nI (K 1 + 1) from hN48_.k1]
                      refine lv_iconst (v := 1) hx hb dL_isDelegated_371 (by decide) ?_
                      refine g_isub1 hx hb dL_isDelegated_372 ?_
                      refine lv_icmp_ne (tgt := 380) hx hb dL_isDelegated_373 (by decide) (fun c51_ => ?_) (fun c51_ => ?_)
                      · exact absurd rfl c51_
                      · refine lv_iconst (v := 1) hx hb dL_isDelegated_376 (by decide) ?_
                        refine lv_goto (tgt := 381) hx hb dL_isDelegated_377 (by decide) ?_
                        exact g_zretW hC hr rfl dL_isDelegated_381 hS (Nat.le_of_ble_eq_true rfl) (Nat.le_of_ble_eq_true rfl) ⟨rfl, _, _, _, ⟨hSI.mono (by omega), hA, (hN48_.mono (by omega) (by omega))⟩, h2, (by show 1 ≤ K 1 + 1; omega)⟩
                    · have n46_ : (K 1) = 20 := (nI_eq (by omega) (by omega)).mp c45_
                      refine lv_aload_n hx hb dL_isDelegated_259 rfl (lv_at hl 7 rfl) ?_
                      refine lv_iload hx hb dL_isDelegated_260 (lv_at hl 6 rfl) ?_
                      refine lv_iload hx hb dL_isDelegated_262 (lv_at hl 3 rfl) ?_
                      refine lv_iload hx hb dL_isDelegated_264 (lv_at hl 2 rfl) ?_
                      refine lv_iload hx hb dL_isDelegated_266 (lv_at hl 1 rfl) ?_
                      refine lv_iload hx hb dL_isDelegated_268 (lv_at hl 0 rfl) ?_
                      refine g_cWi (k2 := 8) (n2 := 2050) (g_runSH (n := 6) (rest := []) hC (w_delegate hE (nb := nb) (oa := oa) (n := n) (μ := μ) (K := K) (nI jp) (nI jh) (nI lm) (nI fi) (nI la) (by omega)) Z_delegate.1 Z_delegate.2.1 Z_delegate.2.2.1 k_827 Z_delegate.2.2.2 hSI rfl hl.1 dL_isDelegated_270 ⟨Nat.le_of_ble_eq_true rfl, Nat.le_of_ble_eq_true rfl⟩ ⟨Nat.le_of_ble_eq_true rfl, Nat.le_of_ble_eq_true rfl⟩ rfl (Nat.le_of_ble_eq_true rfl)) hS (fun q h => h.1) rfl rfl (fun r52_ H lo hw53_ hz_ hk_ hS => ?_)
                      have hA := hA.kept (hk_ nb hA.lt (fun z => z.2 rfl))
                      obtain ⟨er_, hSI⟩ := hw53_.no 3 (kd_4 (isP_nI hjp (by omega)) (isP_nI hjh (by omega)) (pw_n (by omega) (by omega) (by omega) (by omega)) (fun z => by have z := (kd_c eq0 eL0 eF0 eT0 (by omega) (by omega) (by omega) (by omega) (by omega) (by omega) (by omega) (by omega) (by omega)).mp z; omega) (by rw [show ix (nI jp) = jp from nI_clamp (by omega)]; first | exact Or.inr (by assumption) | exact Or.inl (by show μ 1 jp ≠ 0; rw [(by assumption : μ 1 jp = 1)]; decide)))
                      have er_ : r52_ = (-900004 : Int32) := er_
                      subst er_
                      refine lv_ldc (own := "SignatoryLaw") (v := -900004) hx hb hC.2.2.2.2.2.1 (gw hC.1 hC.2.1 k_553 rfl) dL_isDelegated_273 ?_
                      refine lv_icmp_ne (tgt := 282) hx hb dL_isDelegated_275 (by decide) (fun c54_ => ?_) (fun c54_ => ?_)
                      · exact absurd rfl c54_
                      · refine lv_iconst (v := 1) hx hb dL_isDelegated_278 (by decide) ?_
                        refine lv_goto (tgt := 283) hx hb dL_isDelegated_279 (by decide) ?_
                        exact g_zretW hC hr rfl dL_isDelegated_283 hS (Nat.le_of_ble_eq_true rfl) (Nat.le_of_ble_eq_true rfl) ⟨rfl, _, _, _, ⟨hSI.mono (by omega), hA, (hN.mono (by omega) (by omega))⟩, h2, h1⟩
                · have n40_ : T0 < la := not_le_nI (by omega) (by omega) c39_
                  refine lv_aload_n hx hb dL_isDelegated_215 rfl (lv_at hl 7 rfl) ?_
                  refine lv_iload hx hb dL_isDelegated_216 (lv_at hl 6 rfl) ?_
                  refine lv_iload hx hb dL_isDelegated_218 (lv_at hl 3 rfl) ?_
                  refine lv_iload hx hb dL_isDelegated_220 (lv_at hl 2 rfl) ?_
                  refine lv_iload hx hb dL_isDelegated_222 (lv_at hl 1 rfl) ?_
                  refine lv_iload hx hb dL_isDelegated_224 (lv_at hl 0 rfl) ?_
                  refine g_cWi (k2 := 8) (n2 := 2050) (g_runSH (n := 6) (rest := []) hC (w_delegate hE (nb := nb) (oa := oa) (n := n) (μ := μ) (K := K) (nI jp) (nI jh) (nI lm) (nI fi) (nI la) (by omega)) Z_delegate.1 Z_delegate.2.1 Z_delegate.2.2.1 k_827 Z_delegate.2.2.2 hSI rfl hl.1 dL_isDelegated_226 ⟨Nat.le_of_ble_eq_true rfl, Nat.le_of_ble_eq_true rfl⟩ ⟨Nat.le_of_ble_eq_true rfl, Nat.le_of_ble_eq_true rfl⟩ rfl (Nat.le_of_ble_eq_true rfl)) hS (fun q h => h.1) rfl rfl (fun r55_ H lo hw56_ hz_ hk_ hS => ?_)
                  have hA := hA.kept (hk_ nb hA.lt (fun z => z.2 rfl))
                  obtain ⟨er_, hSI⟩ := hw56_.no 2 (kd_3 (isP_nI hjp (by omega)) (isP_nI hjh (by omega)) (pw_n (by omega) (by omega) (by omega) (by omega)) ((kd_c eq0 eL0 eF0 eT0 (by omega) (by omega) (by omega) (by omega) (by omega) (by omega) (by omega) (by omega) (by omega)).mpr (by omega)))
                  have er_ : r55_ = (-900003 : Int32) := er_
                  subst er_
                  refine lv_ldc (own := "SignatoryLaw") (v := -900003) hx hb hC.2.2.2.2.2.1 (gw hC.1 hC.2.1 k_525 rfl) dL_isDelegated_229 ?_
                  refine lv_icmp_ne (tgt := 238) hx hb dL_isDelegated_231 (by decide) (fun c57_ => ?_) (fun c57_ => ?_)
                  · exact absurd rfl c57_
                  · refine lv_iconst (v := 1) hx hb dL_isDelegated_234 (by decide) ?_
                    refine lv_goto (tgt := 239) hx hb dL_isDelegated_235 (by decide) ?_
                    exact g_zretW hC hr rfl dL_isDelegated_239 hS (Nat.le_of_ble_eq_true rfl) (Nat.le_of_ble_eq_true rfl) ⟨rfl, _, _, _, ⟨hSI.mono (by omega), hA, (hN.mono (by omega) (by omega))⟩, h2, h1⟩
        · exact absurd (nI_pos' (by omega)) c23_
    · refine lv_if_ne (tgt := 116) hx hb dL_isDelegated_109 (by decide) (fun c58_ => ?_) (fun c58_ => ?_)
      · have q59_ : ¬ jc = 0 := fun z => c58_ (congrArg nI z)
        refine lv_iconst (v := 0) hx hb dL_isDelegated_116 (by decide) ?_
        exact J13_ _ (Or.inl rfl)
      · have q59_ : jc = 0 := (nI_eq (by omega) (by omega)).mp c58_
        refine lv_iconst (v := 1) hx hb dL_isDelegated_112 (by decide) ?_
        refine lv_goto (tgt := 117) hx hb dL_isDelegated_113 (by decide) ?_
        exact J13_ _ (Or.inr rfl)
  · refine lv_if_ne (tgt := 68) hx hb dL_isDelegated_51 (by decide) (fun c60_ => ?_) (fun c60_ => ?_)
    · have q61_ : ¬ ja = 0 := fun z => c60_ (congrArg nI z)
      refine lv_iconst (v := 1) hx hb dL_isDelegated_68 (by decide) ?_
      refine lv_aload_n hx hb dL_isDelegated_69 rfl (lv_at hl 6 rfl) ?_
      refine lv_iload_n hx hb dL_isDelegated_70 rfl (lv_at hl 7 rfl) ?_
      refine lv_iconst (v := 3) hx hb dL_isDelegated_71 (by decide) ?_
      refine g_naddn (a := i) (b := 3) hx hb dL_isDelegated_72 ?_
      refine lv_aload_n hx hb dL_isDelegated_73 rfl (lv_at hl 5 rfl) ?_
      refine lv_iload hx hb dL_isDelegated_74 (lv_at hl 2 rfl) ?_
      refine lv_iconst (v := 3) hx hb dL_isDelegated_76 (by decide) ?_
      refine g_naddn (a := 30 + 8 * jp) (b := 3) hx hb dL_isDelegated_77 ?_
      refine g_iald (n := 450) (f := f) (j := 30 + 8 * jp + 3) hC hA (by omega) (by decide) dL_isDelegated_78 ?_
      rw [show f (30 + 8 * jp + 3) = nI L0 from (by rw [show 30 + 8 * jp + 3 = 33 + 8 * jp by omega]; exact ((hN.p5 (i := jp) (by omega) rfl).trans eL0))]
      refine g_cRi (k2 := 0) (n2 := 0) (g_runS (rest := [.int 1]) hC (c_L_in hE hX hbl hL (i + 3) (L0) (by omega) (by omega) (by omega)) Y_L_in k_654 S_L_in hSI.frz rfl hl.1 dL_isDelegated_79 ⟨Nat.le_of_ble_eq_true rfl, Nat.le_of_ble_eq_true rfl⟩ ⟨Nat.le_of_ble_eq_true rfl, Nat.le_of_ble_eq_true rfl⟩ rfl (Nat.le_of_ble_eq_true rfl)) rfl rfl g_no (fun r62_ h63_ => ?_)
      obtain ⟨jx, hjx, rfl⟩ := h63_
      refine g_naddn (a := 1) (b := jx) hx hb dL_isDelegated_82 ?_
      exact J7_ _ ⟨1 + jx, by omega, by omega, rfl⟩
    · have q61_ : ja = 0 := (nI_eq (by omega) (by omega)).mp c60_
      refine lv_iconst (v := 1) hx hb dL_isDelegated_54 (by decide) ?_
      refine lv_aload_n hx hb dL_isDelegated_55 rfl (lv_at hl 6 rfl) ?_
      refine lv_iload_n hx hb dL_isDelegated_56 rfl (lv_at hl 7 rfl) ?_
      refine lv_iconst (v := 3) hx hb dL_isDelegated_57 (by decide) ?_
      refine g_naddn (a := i) (b := 3) hx hb dL_isDelegated_58 ?_
      refine lv_ldc (own := "SignatoryLaw") (v := 99999) hx hb hC.2.2.2.2.2.1 (gw hC.1 hC.2.1 k_756 rfl) dL_isDelegated_59 ?_
      refine g_cRi (k2 := 0) (n2 := 0) (g_runS (rest := [.int 1]) hC (c_L_in hE hX hbl hL (i + 3) (99999) (by omega) (by omega) (by omega)) Y_L_in k_654 S_L_in hSI.frz rfl hl.1 dL_isDelegated_61 ⟨Nat.le_of_ble_eq_true rfl, Nat.le_of_ble_eq_true rfl⟩ ⟨Nat.le_of_ble_eq_true rfl, Nat.le_of_ble_eq_true rfl⟩ rfl (Nat.le_of_ble_eq_true rfl)) rfl rfl g_no (fun r64_ h65_ => ?_)
      obtain ⟨jx, hjx, rfl⟩ := h65_
      refine g_naddn (a := 1) (b := jx) hx hb dL_isDelegated_64 ?_
      refine lv_goto (tgt := 83) hx hb dL_isDelegated_65 (by decide) ?_
      exact J7_ _ ⟨1 + jx, by omega, by omega, rfl⟩
