set_option maxHeartbeats 4000000 in
set_option maxRecDepth 100000 in
theorem c_L_isPower {l : Launch} {E : gV} (hE : gOK l E) {b L : Nat} {xs : Nat → Int32} (hX : va_X b L xs E.2.1 E.2.1.heap) (hbl : b < E.2.1.heap.size) (hL : L < 2 ^ 31) {nb oa n D : Nat} {f : Nat → Int32} {μ : F2} {K : Nat → Nat} (hN : NL f μ K D) (hnb : E.2.1.heap.size ≤ nb) (h2 : 2 ≤ K 0) (hn : n < 500) (hD : D ≤ 391) (i : Nat) (hi : i < 2000) : gM l E yL_isPower cL_isPower 11 (some .boolean) ({ frames := 13, cells := 8, slots := 2050, locals := 330 } : Room) [.ref oa, .ref nb, .ref b, .int (nI i)] (fun H => SI E nb oa μ K n H ∧ gNet E nb f H) (gQW (gA0 E) (gWi (fun r H => r = 1 ∧ NJ E nb oa (D + 9) (n + 1) 1 H))) (fun _ => False) (gA0 E) := by
  refine gM_body hE (by decide +kernel) (Nat.le_of_ble_eq_true rfl) ?_
  intro p_ e_ s m args below meth c hC ht hr hname hP ls hl
  have hx := hC.2.2.1
  have hb := hC.2.2.2.1
  have hl : lv_has ls 11 [(0, .ref oa), (1, .ref nb), (2, .ref b), (3, .int (nI i))] := hl
  have hS : va_S ((gA0 E)) s.heap s.heap [] := va_S.rf
  obtain ⟨hSI, hA⟩ := hP
  have hU := hSI.pu
  have hb0 := hN.b0
  have hb1 := hN.b1
  have hb2 := hN.b2
  obtain ⟨td, htd, hd3, hd22⟩ := hN.day
  refine lv_bipush (v := 30) hx hb dL_isPower_0 (by decide) ?_
  refine lv_bipush (v := 8) hx hb dL_isPower_2 (by decide) ?_
  refine lv_aload_n hx hb dL_isPower_4 rfl (lv_at hl 1 rfl) ?_
  refine lv_iconst (v := 1) hx hb dL_isPower_5 (by decide) ?_
  refine g_iald (n := 450) (f := f) (j := 1) hC hA (by omega) (by decide) dL_isPower_6 ?_
  rw [show f (1) = nI (K 1) from hN.k1]
  refine g_nmuln (a := 8) (b := K 1) hx hb dL_isPower_7 ?_
  refine g_naddn (a := 30) (b := 8 * (K 1)) hx hb dL_isPower_8 ?_
  refine lv_istore (lv' := [(4, .int (nI (30 + 8 * (K 1)))), (0, .ref oa), (1, .ref nb), (2, .ref b), (3, .int (nI i))]) hx hb dL_isPower_9 hl (by decide) rfl (fun ls hl => ?_)
  refine lv_aload_n hx hb dL_isPower_11 rfl (lv_at hl 3 rfl) ?_
  refine lv_iload_n hx hb dL_isPower_12 rfl (lv_at hl 4 rfl) ?_
  refine lv_aload_n hx hb dL_isPower_13 rfl (lv_at hl 2 rfl) ?_
  refine lv_iconst (v := 0) hx hb dL_isPower_14 (by decide) ?_
  refine g_iald (n := 450) (f := f) (j := 0) hC hA (by omega) (by decide) dL_isPower_15 ?_
  rw [show f (0) = nI (K 0) from hN.k0]
  refine g_cRi (k2 := 0) (n2 := 0) (g_runS (rest := []) hC (c_L_in hE hX hbl hL (i) (K 0) (by omega) (by omega) (by omega)) Y_L_in k_654 S_L_in hSI.frz rfl hl.1 dL_isPower_16 ⟨Nat.le_of_ble_eq_true rfl, Nat.le_of_ble_eq_true rfl⟩ ⟨Nat.le_of_ble_eq_true rfl, Nat.le_of_ble_eq_true rfl⟩ rfl (Nat.le_of_ble_eq_true rfl)) rfl rfl g_no (fun r1_ h2_ => ?_)
  obtain ⟨jh, hjh, rfl⟩ := h2_
  refine lv_istore (lv' := [(5, .int (nI jh)), (4, .int (nI (30 + 8 * (K 1)))), (0, .ref oa), (1, .ref nb), (2, .ref b), (3, .int (nI i))]) hx hb dL_isPower_19 hl (by decide) rfl (fun ls hl => ?_)
  refine lv_aload_n hx hb dL_isPower_21 rfl (lv_at hl 4 rfl) ?_
  refine lv_iload_n hx hb dL_isPower_22 rfl (lv_at hl 5 rfl) ?_
  refine lv_iconst (v := 1) hx hb dL_isPower_23 (by decide) ?_
  refine g_naddn (a := i) (b := 1) hx hb dL_isPower_24 ?_
  refine lv_iconst (v := 5) hx hb dL_isPower_25 (by decide) ?_
  refine g_cRi (k2 := 0) (n2 := 0) (g_runS (rest := []) hC (c_L_in hE hX hbl hL (i + 1) (5) (by omega) (by omega) (by omega)) Y_L_in k_654 S_L_in hSI.frz rfl hl.1 dL_isPower_26 ⟨Nat.le_of_ble_eq_true rfl, Nat.le_of_ble_eq_true rfl⟩ ⟨Nat.le_of_ble_eq_true rfl, Nat.le_of_ble_eq_true rfl⟩ rfl (Nat.le_of_ble_eq_true rfl)) rfl rfl g_no (fun r3_ h4_ => ?_)
  obtain ⟨jk, hjk, rfl⟩ := h4_
  refine g_join (pc1 := 37) (rest := []) (P := fun x => x = 0 ∨ x = 1) (fun kd_ hx6_ => ?_) (fun J5_ => ?_)
  · have hkd := hx6_
    refine lv_istore (lv' := [(6, .int kd_), (5, .int (nI jh)), (4, .int (nI (30 + 8 * (K 1)))), (0, .ref oa), (1, .ref nb), (2, .ref b), (3, .int (nI i))]) hx hb dL_isPower_37 hl (by decide) rfl (fun ls hl => ?_)
    refine lv_aload_n hx hb dL_isPower_39 rfl (lv_at hl 5 rfl) ?_
    refine lv_iload_n hx hb dL_isPower_40 rfl (lv_at hl 6 rfl) ?_
    refine lv_iconst (v := 2) hx hb dL_isPower_41 (by decide) ?_
    refine g_naddn (a := i) (b := 2) hx hb dL_isPower_42 ?_
    refine lv_iconst (v := 3) hx hb dL_isPower_43 (by decide) ?_
    refine g_cRi (k2 := 0) (n2 := 0) (g_runS (rest := []) hC (c_L_in hE hX hbl hL (i + 2) (3) (by omega) (by omega) (by omega)) Y_L_in k_654 S_L_in hSI.frz rfl hl.1 dL_isPower_44 ⟨Nat.le_of_ble_eq_true rfl, Nat.le_of_ble_eq_true rfl⟩ ⟨Nat.le_of_ble_eq_true rfl, Nat.le_of_ble_eq_true rfl⟩ rfl (Nat.le_of_ble_eq_true rfl)) rfl rfl g_no (fun r7_ h8_ => ?_)
    obtain ⟨jm, hjm, rfl⟩ := h8_
    refine lv_istore (lv' := [(7, .int (nI jm)), (6, .int kd_), (5, .int (nI jh)), (4, .int (nI (30 + 8 * (K 1)))), (0, .ref oa), (1, .ref nb), (2, .ref b), (3, .int (nI i))]) hx hb dL_isPower_47 hl (by decide) rfl (fun ls hl => ?_)
    refine lv_iconst (v := 1) hx hb dL_isPower_49 (by decide) ?_
    refine lv_aload_n hx hb dL_isPower_50 rfl (lv_at hl 6 rfl) ?_
    refine lv_iload_n hx hb dL_isPower_51 rfl (lv_at hl 7 rfl) ?_
    refine lv_iconst (v := 3) hx hb dL_isPower_52 (by decide) ?_
    refine g_naddn (a := i) (b := 3) hx hb dL_isPower_53 ?_
    refine lv_aload_n hx hb dL_isPower_54 rfl (lv_at hl 6 rfl) ?_
    refine lv_iload_n hx hb dL_isPower_55 rfl (lv_at hl 7 rfl) ?_
    refine lv_iconst (v := 4) hx hb dL_isPower_56 (by decide) ?_
    refine g_naddn (a := i) (b := 4) hx hb dL_isPower_57 ?_
    refine lv_iconst (v := 3) hx hb dL_isPower_58 (by decide) ?_
    refine g_cRi (k2 := 0) (n2 := 0) (g_runS (rest := [.int (nI (i + 3)), .ref b, .int 1]) hC (c_L_in hE hX hbl hL (i + 4) (3) (by omega) (by omega) (by omega)) Y_L_in k_654 S_L_in hSI.frz rfl hl.1 dL_isPower_59 ⟨Nat.le_of_ble_eq_true rfl, Nat.le_of_ble_eq_true rfl⟩ ⟨Nat.le_of_ble_eq_true rfl, Nat.le_of_ble_eq_true rfl⟩ rfl (Nat.le_of_ble_eq_true rfl)) rfl rfl g_no (fun r9_ h10_ => ?_)
    obtain ⟨jl, hjl, rfl⟩ := h10_
    refine g_join (pc1 := 73) (rest := [.int (nI (i + 3)), .ref b, .int 1]) (P := fun x => ∃ q : Nat, 1 ≤ q ∧ q ≤ 99999 ∧ x = nI q) (fun x_ hx12_ => ?_) (fun J11_ => ?_)
    · obtain ⟨lm, hlm1, hlm2, rfl⟩ := hx12_
      refine g_cRi (k2 := 0) (n2 := 0) (g_runS (rest := [.int 1]) hC (c_L_in hE hX hbl hL (i + 3) (lm) (by omega) (by omega) (by omega)) Y_L_in k_654 S_L_in hSI.frz rfl hl.1 dL_isPower_73 ⟨Nat.le_of_ble_eq_true rfl, Nat.le_of_ble_eq_true rfl⟩ ⟨Nat.le_of_ble_eq_true rfl, Nat.le_of_ble_eq_true rfl⟩ rfl (Nat.le_of_ble_eq_true rfl)) rfl rfl g_no (fun r13_ h14_ => ?_)
      obtain ⟨jv, hjv, rfl⟩ := h14_
      refine g_naddn (a := 1) (b := jv) hx hb dL_isPower_76 ?_
      refine lv_istore (lv' := [(8, .int (nI (1 + jv))), (7, .int (nI jm)), (6, .int kd_), (5, .int (nI jh)), (4, .int (nI (30 + 8 * (K 1)))), (0, .ref oa), (1, .ref nb), (2, .ref b), (3, .int (nI i))]) hx hb dL_isPower_77 hl (by decide) rfl (fun ls hl => ?_)
      refine lv_iconst (v := 0) hx hb dL_isPower_79 (by decide) ?_
      refine lv_aload_n hx hb dL_isPower_80 rfl (lv_at hl 6 rfl) ?_
      refine lv_iconst (v := 3) hx hb dL_isPower_81 (by decide) ?_
      refine g_iald (n := 450) (f := f) (j := 3) hC hA (by omega) (by decide) dL_isPower_82 ?_
      rw [show f (3) = nI td from hd3]
      refine lv_aload_n hx hb dL_isPower_83 rfl (lv_at hl 7 rfl) ?_
      refine lv_iload_n hx hb dL_isPower_84 rfl (lv_at hl 8 rfl) ?_
      refine lv_iconst (v := 5) hx hb dL_isPower_85 (by decide) ?_
      refine g_naddn (a := i) (b := 5) hx hb dL_isPower_86 ?_
      refine lv_bipush (v := 8) hx hb dL_isPower_87 (by decide) ?_
      refine g_cRi (k2 := 0) (n2 := 0) (g_runS (rest := [.int (nI td), .int 0]) hC (c_L_in hE hX hbl hL (i + 5) (8) (by omega) (by omega) (by omega)) Y_L_in k_654 S_L_in hSI.frz rfl hl.1 dL_isPower_89 ⟨Nat.le_of_ble_eq_true rfl, Nat.le_of_ble_eq_true rfl⟩ ⟨Nat.le_of_ble_eq_true rfl, Nat.le_of_ble_eq_true rfl⟩ rfl (Nat.le_of_ble_eq_true rfl)) rfl rfl g_no (fun r15_ h16_ => ?_)
      obtain ⟨j5, hj5, rfl⟩ := h16_
      refine lv_isub hx hb dL_isPower_92 ?_
      refine lv_aload_n hx hb dL_isPower_93 rfl (lv_at hl 7 rfl) ?_
      refine lv_iload_n hx hb dL_isPower_94 rfl (lv_at hl 8 rfl) ?_
      refine lv_bipush (v := 6) hx hb dL_isPower_95 (by decide) ?_
      refine g_naddn (a := i) (b := 6) hx hb dL_isPower_97 ?_
      refine lv_bipush (v := 6) hx hb dL_isPower_98 (by decide) ?_
      refine g_cRi (k2 := 0) (n2 := 0) (g_runS (rest := [.int ((nI td) - (nI j5)), .int 0]) hC (c_L_in hE hX hbl hL (i + 6) (6) (by omega) (by omega) (by omega)) Y_L_in k_654 S_L_in hSI.frz rfl hl.1 dL_isPower_100 ⟨Nat.le_of_ble_eq_true rfl, Nat.le_of_ble_eq_true rfl⟩ ⟨Nat.le_of_ble_eq_true rfl, Nat.le_of_ble_eq_true rfl⟩ rfl (Nat.le_of_ble_eq_true rfl)) rfl rfl g_no (fun r17_ h18_ => ?_)
      obtain ⟨j6, hj6, rfl⟩ := h18_
      refine lv_iadd hx hb dL_isPower_103 ?_
      refine va_mmax (own := "SignatoryLaw") (index := 107) (rest := []) hx hb (hC.2.2.2.2.1.trans hl.1.symm) hC.2.2.2.2.2.1 (gw hC.1 hC.2.1 k_757 rfl) (gw hC.1 hC.2.1 k_202 rfl) (gw hC.1 hC.2.1 k_10 rfl) (gw hC.1 hC.2.1 k_203 rfl) (Nat.le_of_ble_eq_true rfl) (Nat.le_of_ble_eq_true rfl) (Nat.le_of_ble_eq_true rfl) (Nat.le_of_ble_eq_true rfl) dL_isPower_104 ?_
      obtain ⟨fi, hfi, efi⟩ := mx_day (td := td) (a := j5) (b := j6) (by omega) (by omega) (by omega)
      rw [efi]
      refine lv_istore (lv' := [(9, .int (nI fi)), (8, .int (nI (1 + jv))), (7, .int (nI jm)), (6, .int kd_), (5, .int (nI jh)), (4, .int (nI (30 + 8 * (K 1)))), (0, .ref oa), (1, .ref nb), (2, .ref b), (3, .int (nI i))]) hx hb dL_isPower_107 hl (by decide) rfl (fun ls hl => ?_)
      refine lv_iload hx hb dL_isPower_109 (lv_at hl 0 rfl) ?_
      refine lv_aload_n hx hb dL_isPower_111 rfl (lv_at hl 8 rfl) ?_
      refine lv_iload_n hx hb dL_isPower_112 rfl (lv_at hl 9 rfl) ?_
      refine lv_bipush (v := 7) hx hb dL_isPower_113 (by decide) ?_
      refine g_naddn (a := i) (b := 7) hx hb dL_isPower_115 ?_
      refine lv_bipush (v := 50) hx hb dL_isPower_116 (by decide) ?_
      refine g_cRi (k2 := 0) (n2 := 0) (g_runS (rest := [.int (nI fi)]) hC (c_L_in hE hX hbl hL (i + 7) (50) (by omega) (by omega) (by omega)) Y_L_in k_654 S_L_in hSI.frz rfl hl.1 dL_isPower_118 ⟨Nat.le_of_ble_eq_true rfl, Nat.le_of_ble_eq_true rfl⟩ ⟨Nat.le_of_ble_eq_true rfl, Nat.le_of_ble_eq_true rfl⟩ rfl (Nat.le_of_ble_eq_true rfl)) rfl rfl g_no (fun r19_ h20_ => ?_)
      obtain ⟨jd, hjd, rfl⟩ := h20_
      refine g_naddn (a := fi) (b := jd) hx hb dL_isPower_121 ?_
      refine lv_istore (lv' := [(10, .int (nI (fi + jd))), (9, .int (nI fi)), (8, .int (nI (1 + jv))), (7, .int (nI jm)), (6, .int kd_), (5, .int (nI jh)), (4, .int (nI (30 + 8 * (K 1)))), (0, .ref oa), (1, .ref nb), (2, .ref b), (3, .int (nI i))]) hx hb dL_isPower_122 hl (by decide) rfl (fun ls hl => ?_)
      refine lv_aload_n hx hb dL_isPower_124 rfl (lv_at hl 8 rfl) ?_
      refine lv_iconst (v := 1) hx hb dL_isPower_125 (by decide) ?_
      refine g_iald (n := 450) (f := f) (j := 1) hC hA (by omega) (by decide) dL_isPower_126 ?_
      rw [show f (1) = nI (K 1) from hN.k1]
      refine lv_bipush (v := 20) hx hb dL_isPower_127 (by decide) ?_
      refine lv_icmp_ne (tgt := 162) hx hb dL_isPower_129 (by decide) (fun c21_ => ?_) (fun c21_ => ?_)
      · have n22_ : ¬ (K 1) = 20 := fun z => c21_ (congrArg nI z)
        refine lv_aload_n hx hb dL_isPower_162 rfl (lv_at hl 8 rfl) ?_
        refine lv_iload hx hb dL_isPower_163 (lv_at hl 6 rfl) ?_
        refine lv_iload hx hb dL_isPower_165 (lv_at hl 5 rfl) ?_
        refine g_iast (n := 450) (f := f) (j := 30 + 8 * (K 1)) (x := nI jh) hC hA hS hnb (by omega) (by decide) dL_isPower_167 (fun H lo hA hz_ ho_ hS => ?_)
        have hSI := hSI.netw hnb hz_ ho_
        have hA : gNet E nb (upd f (30 + 8 * (K 1)) (nI jh)) H := hA
        refine lv_aload_n hx hb dL_isPower_168 rfl (lv_at hl 8 rfl) ?_
        refine lv_iload hx hb dL_isPower_169 (lv_at hl 6 rfl) ?_
        refine lv_iconst (v := 1) hx hb dL_isPower_171 (by decide) ?_
        refine g_naddn (a := 30 + 8 * (K 1)) (b := 1) hx hb dL_isPower_172 ?_
        refine lv_iload hx hb dL_isPower_173 (lv_at hl 4 rfl) ?_
        refine g_iast (n := 450) (f := (upd f (30 + 8 * (K 1)) (nI jh))) (j := 30 + 8 * (K 1) + 1) (x := kd_) hC hA hS hnb (by omega) (by decide) dL_isPower_175 (fun H lo hA hz_ ho_ hS => ?_)
        have hSI := hSI.netw hnb hz_ ho_
        have hA : gNet E nb (upd (upd f (30 + 8 * (K 1)) (nI jh)) (30 + 8 * (K 1) + 1) kd_) H := hA
        refine lv_aload_n hx hb dL_isPower_176 rfl (lv_at hl 8 rfl) ?_
        refine lv_iload hx hb dL_isPower_177 (lv_at hl 6 rfl) ?_
        refine lv_iconst (v := 2) hx hb dL_isPower_179 (by decide) ?_
        refine g_naddn (a := 30 + 8 * (K 1)) (b := 2) hx hb dL_isPower_180 ?_
        refine lv_iload hx hb dL_isPower_181 (lv_at hl 3 rfl) ?_
        refine g_iast (n := 450) (f := (upd (upd f (30 + 8 * (K 1)) (nI jh)) (30 + 8 * (K 1) + 1) kd_)) (j := 30 + 8 * (K 1) + 2) (x := nI jm) hC hA hS hnb (by omega) (by decide) dL_isPower_183 (fun H lo hA hz_ ho_ hS => ?_)
        have hSI := hSI.netw hnb hz_ ho_
        have hA : gNet E nb (upd (upd (upd f (30 + 8 * (K 1)) (nI jh)) (30 + 8 * (K 1) + 1) kd_) (30 + 8 * (K 1) + 2) (nI jm)) H := hA
        refine lv_aload_n hx hb dL_isPower_184 rfl (lv_at hl 8 rfl) ?_
        refine lv_iload hx hb dL_isPower_185 (lv_at hl 6 rfl) ?_
        refine lv_iconst (v := 3) hx hb dL_isPower_187 (by decide) ?_
        refine g_naddn (a := 30 + 8 * (K 1)) (b := 3) hx hb dL_isPower_188 ?_
        refine lv_iload hx hb dL_isPower_189 (lv_at hl 2 rfl) ?_
        refine g_iast (n := 450) (f := (upd (upd (upd f (30 + 8 * (K 1)) (nI jh)) (30 + 8 * (K 1) + 1) kd_) (30 + 8 * (K 1) + 2) (nI jm))) (j := 30 + 8 * (K 1) + 3) (x := nI (1 + jv)) hC hA hS hnb (by omega) (by decide) dL_isPower_191 (fun H lo hA hz_ ho_ hS => ?_)
        have hSI := hSI.netw hnb hz_ ho_
        have hA : gNet E nb (upd (upd (upd (upd f (30 + 8 * (K 1)) (nI jh)) (30 + 8 * (K 1) + 1) kd_) (30 + 8 * (K 1) + 2) (nI jm)) (30 + 8 * (K 1) + 3) (nI (1 + jv))) H := hA
        refine lv_aload_n hx hb dL_isPower_192 rfl (lv_at hl 8 rfl) ?_
        refine lv_iload hx hb dL_isPower_193 (lv_at hl 6 rfl) ?_
        refine lv_iconst (v := 4) hx hb dL_isPower_195 (by decide) ?_
        refine g_naddn (a := 30 + 8 * (K 1)) (b := 4) hx hb dL_isPower_196 ?_
        refine lv_iload hx hb dL_isPower_197 (lv_at hl 1 rfl) ?_
        refine g_iast (n := 450) (f := (upd (upd (upd (upd f (30 + 8 * (K 1)) (nI jh)) (30 + 8 * (K 1) + 1) kd_) (30 + 8 * (K 1) + 2) (nI jm)) (30 + 8 * (K 1) + 3) (nI (1 + jv)))) (j := 30 + 8 * (K 1) + 4) (x := nI fi) hC hA hS hnb (by omega) (by decide) dL_isPower_199 (fun H lo hA hz_ ho_ hS => ?_)
        have hSI := hSI.netw hnb hz_ ho_
        have hA : gNet E nb (upd (upd (upd (upd (upd f (30 + 8 * (K 1)) (nI jh)) (30 + 8 * (K 1) + 1) kd_) (30 + 8 * (K 1) + 2) (nI jm)) (30 + 8 * (K 1) + 3) (nI (1 + jv))) (30 + 8 * (K 1) + 4) (nI fi)) H := hA
        refine lv_aload_n hx hb dL_isPower_200 rfl (lv_at hl 8 rfl) ?_
        refine lv_iload hx hb dL_isPower_201 (lv_at hl 6 rfl) ?_
        refine lv_iconst (v := 5) hx hb dL_isPower_203 (by decide) ?_
        refine g_naddn (a := 30 + 8 * (K 1)) (b := 5) hx hb dL_isPower_204 ?_
        refine lv_iload hx hb dL_isPower_205 (lv_at hl 0 rfl) ?_
        refine g_iast (n := 450) (f := (upd (upd (upd (upd (upd f (30 + 8 * (K 1)) (nI jh)) (30 + 8 * (K 1) + 1) kd_) (30 + 8 * (K 1) + 2) (nI jm)) (30 + 8 * (K 1) + 3) (nI (1 + jv))) (30 + 8 * (K 1) + 4) (nI fi))) (j := 30 + 8 * (K 1) + 5) (x := nI (fi + jd)) hC hA hS hnb (by omega) (by decide) dL_isPower_207 (fun H lo hA hz_ ho_ hS => ?_)
        have hSI := hSI.netw hnb hz_ ho_
        have hA : gNet E nb (upd (upd (upd (upd (upd (upd f (30 + 8 * (K 1)) (nI jh)) (30 + 8 * (K 1) + 1) kd_) (30 + 8 * (K 1) + 2) (nI jm)) (30 + 8 * (K 1) + 3) (nI (1 + jv))) (30 + 8 * (K 1) + 4) (nI fi)) (30 + 8 * (K 1) + 5) (nI (fi + jd))) H := hA
        refine lv_aload_n hx hb dL_isPower_208 rfl (lv_at hl 8 rfl) ?_
        refine lv_iload hx hb dL_isPower_209 (lv_at hl 6 rfl) ?_
        refine lv_bipush (v := 6) hx hb dL_isPower_211 (by decide) ?_
        refine g_naddn (a := 30 + 8 * (K 1)) (b := 6) hx hb dL_isPower_213 ?_
        refine lv_iconst (v := (-1)) hx hb dL_isPower_214 (by decide) ?_
        refine g_iast (n := 450) (f := (upd (upd (upd (upd (upd (upd f (30 + 8 * (K 1)) (nI jh)) (30 + 8 * (K 1) + 1) kd_) (30 + 8 * (K 1) + 2) (nI jm)) (30 + 8 * (K 1) + 3) (nI (1 + jv))) (30 + 8 * (K 1) + 4) (nI fi)) (30 + 8 * (K 1) + 5) (nI (fi + jd)))) (j := 30 + 8 * (K 1) + 6) (x := (-1)) hC hA hS hnb (by omega) (by decide) dL_isPower_215 (fun H lo hA hz_ ho_ hS => ?_)
        have hSI := hSI.netw hnb hz_ ho_
        have hA : gNet E nb (upd (upd (upd (upd (upd (upd (upd f (30 + 8 * (K 1)) (nI jh)) (30 + 8 * (K 1) + 1) kd_) (30 + 8 * (K 1) + 2) (nI jm)) (30 + 8 * (K 1) + 3) (nI (1 + jv))) (30 + 8 * (K 1) + 4) (nI fi)) (30 + 8 * (K 1) + 5) (nI (fi + jd))) (30 + 8 * (K 1) + 6) (-1)) H := hA
        refine lv_aload_n hx hb dL_isPower_216 rfl (lv_at hl 8 rfl) ?_
        refine lv_iconst (v := 1) hx hb dL_isPower_217 (by decide) ?_
        refine lv_dup2_11 hx hb dL_isPower_218 rfl rfl ?_
        refine g_iald (n := 450) (f := (upd (upd (upd (upd (upd (upd (upd f (30 + 8 * (K 1)) (nI jh)) (30 + 8 * (K 1) + 1) kd_) (30 + 8 * (K 1) + 2) (nI jm)) (30 + 8 * (K 1) + 3) (nI (1 + jv))) (30 + 8 * (K 1) + 4) (nI fi)) (30 + 8 * (K 1) + 5) (nI (fi + jd))) (30 + 8 * (K 1) + 6) (-1))) (j := 1) hC hA (by omega) (by decide) dL_isPower_219 ?_
        rw [show (upd (upd (upd (upd (upd (upd (upd f (30 + 8 * (K 1)) (nI jh)) (30 + 8 * (K 1) + 1) kd_) (30 + 8 * (K 1) + 2) (nI jm)) (30 + 8 * (K 1) + 3) (nI (1 + jv))) (30 + 8 * (K 1) + 4) (nI fi)) (30 + 8 * (K 1) + 5) (nI (fi + jd))) (30 + 8 * (K 1) + 6) (-1)) (1) = nI (K 1) from by rw [upd_n _ _ (by omega), upd_n _ _ (by omega), upd_n _ _ (by omega), upd_n _ _ (by omega), upd_n _ _ (by omega), upd_n _ _ (by omega), upd_n _ _ (by omega)]; exact hN.k1]
        refine lv_iconst (v := 1) hx hb dL_isPower_220 (by decide) ?_
        refine g_naddn (a := K 1) (b := 1) hx hb dL_isPower_221 ?_
        refine g_iast (n := 450) (f := (upd (upd (upd (upd (upd (upd (upd f (30 + 8 * (K 1)) (nI jh)) (30 + 8 * (K 1) + 1) kd_) (30 + 8 * (K 1) + 2) (nI jm)) (30 + 8 * (K 1) + 3) (nI (1 + jv))) (30 + 8 * (K 1) + 4) (nI fi)) (30 + 8 * (K 1) + 5) (nI (fi + jd))) (30 + 8 * (K 1) + 6) (-1))) (j := 1) (x := nI (K 1 + 1)) hC hA hS hnb (by omega) (by decide) dL_isPower_222 (fun H lo hA hz_ ho_ hS => ?_)
        have hSI := hSI.netw hnb hz_ ho_
        have hA : gNet E nb (upd (upd (upd (upd (upd (upd (upd (upd f (30 + 8 * (K 1)) (nI jh)) (30 + 8 * (K 1) + 1) kd_) (30 + 8 * (K 1) + 2) (nI jm)) (30 + 8 * (K 1) + 3) (nI (1 + jv))) (30 + 8 * (K 1) + 4) (nI fi)) (30 + 8 * (K 1) + 5) (nI (fi + jd))) (30 + 8 * (K 1) + 6) (-1)) (1) (nI (K 1 + 1))) H := hA
        have hN24_ : NL (upd (upd (upd (upd (upd (upd (upd (upd f (30 + 8 * (K 1)) (nI jh)) (30 + 8 * (K 1) + 1) kd_) (30 + 8 * (K 1) + 2) (nI jm)) (30 + 8 * (K 1) + 3) (nI (1 + jv))) (30 + 8 * (K 1) + 4) (nI fi)) (30 + 8 * (K 1) + 5) (nI (fi + jd))) (30 + 8 * (K 1) + 6) (-1)) (1) (nI (K 1 + 1))) (mAdds μ (K 1) (nI jh) kd_ (hch (nI jm)) (nI (1 + jv)) (nI fi) (nI (fi + jd)) (-1)) (updN K 1 (K 1 + 1)) D := hN.power (by omega) hjm rfl rfl (by omega) (by omega)
        obtain ⟨g23_, eg23_⟩ : ∃ g_, g_ = (upd (upd (upd (upd (upd (upd (upd (upd f (30 + 8 * (K 1)) (nI jh)) (30 + 8 * (K 1) + 1) kd_) (30 + 8 * (K 1) + 2) (nI jm)) (30 + 8 * (K 1) + 3) (nI (1 + jv))) (30 + 8 * (K 1) + 4) (nI fi)) (30 + 8 * (K 1) + 5) (nI (fi + jd))) (30 + 8 * (K 1) + 6) (-1)) (1) (nI (K 1 + 1))) := ⟨_, rfl⟩
        rw [← eg23_] at hN24_ hA
        refine lv_aload_n hx hb dL_isPower_223 rfl (lv_at hl 7 rfl) ?_
        refine lv_iload hx hb dL_isPower_224 (lv_at hl 5 rfl) ?_
        refine lv_iload hx hb dL_isPower_226 (lv_at hl 4 rfl) ?_
        refine lv_iload hx hb dL_isPower_228 (lv_at hl 3 rfl) ?_
        refine g_cRi (k2 := 0) (n2 := 0) (g_runS (rest := [.int kd_, .int (nI jh), .ref oa]) hC (c_L_hand hE (nI jm)) Y_L_hand k_758 S_L_hand trivial rfl hl.1 dL_isPower_230 ⟨Nat.le_of_ble_eq_true rfl, Nat.le_of_ble_eq_true rfl⟩ ⟨Nat.le_of_ble_eq_true rfl, Nat.le_of_ble_eq_true rfl⟩ rfl (Nat.le_of_ble_eq_true rfl)) rfl rfl g_no (fun r25_ h26_ => ?_)
        obtain rfl := h26_
        refine lv_iload hx hb dL_isPower_233 (lv_at hl 2 rfl) ?_
        refine lv_iload hx hb dL_isPower_235 (lv_at hl 1 rfl) ?_
        refine lv_iload hx hb dL_isPower_237 (lv_at hl 0 rfl) ?_
        refine g_cWi (k2 := 8) (n2 := 2050) (g_runSH (n := 7) (rest := []) hC (w_grant hE (nb := nb) (oa := oa) (n := n) (μ := μ) (K := K) (nI jh) kd_ (hch (nI jm)) (nI (1 + jv)) (nI fi) (nI (fi + jd)) (by omega)) Z_grant.1 Z_grant.2.1 Z_grant.2.2.1 k_761 Z_grant.2.2.2 hSI rfl hl.1 dL_isPower_239 ⟨Nat.le_of_ble_eq_true rfl, Nat.le_of_ble_eq_true rfl⟩ ⟨Nat.le_of_ble_eq_true rfl, Nat.le_of_ble_eq_true rfl⟩ rfl (Nat.le_of_ble_eq_true rfl)) hS (fun q h => h.1) rfl rfl (fun r27_ H lo hw28_ hz_ hk_ hS => ?_)
        have hA := hA.kept (hk_ nb hA.lt (fun z => z.2 rfl))
        obtain ⟨er_, hSI⟩ := hw28_.ok (kg_0 (isP_nI hjh (by omega)) (kd01 hkd) (hd_h hjm) (pw_n (by omega) (by omega) (by omega) (by omega)) (by omega))
        have er_ : r27_ = nI (K 1) := er_
        subst er_
        refine lv_aload_n hx hb dL_isPower_242 rfl (lv_at hl 8 rfl) ?_
        refine lv_iconst (v := 1) hx hb dL_isPower_243 (by decide) ?_
        refine g_iald (n := 450) (f := g23_) (j := 1) hC hA (by omega) (by decide) dL_isPower_244 ?_
        rw [show g23_ (1) = nI (K 1 + 1) from hN24_.k1]
        refine lv_iconst (v := 1) hx hb dL_isPower_245 (by decide) ?_
        refine g_isub1 hx hb dL_isPower_246 ?_
        refine lv_icmp_ne (tgt := 254) hx hb dL_isPower_247 (by decide) (fun c29_ => ?_) (fun c29_ => ?_)
        · exact absurd rfl c29_
        · refine lv_iconst (v := 1) hx hb dL_isPower_250 (by decide) ?_
          refine lv_goto (tgt := 255) hx hb dL_isPower_251 (by decide) ?_
          exact g_zretW hC hr rfl dL_isPower_255 hS (Nat.le_of_ble_eq_true rfl) (Nat.le_of_ble_eq_true rfl) ⟨rfl, _, _, _, ⟨hSI.mono (by omega), hA, (hN24_.mono (by omega) (by omega))⟩, h2, (by show 1 ≤ K 1 + 1; omega)⟩
      · have n22_ : (K 1) = 20 := (nI_eq (by omega) (by omega)).mp c21_
        refine lv_aload_n hx hb dL_isPower_132 rfl (lv_at hl 7 rfl) ?_
        refine lv_iload hx hb dL_isPower_133 (lv_at hl 5 rfl) ?_
        refine lv_iload hx hb dL_isPower_135 (lv_at hl 4 rfl) ?_
        refine lv_iload hx hb dL_isPower_137 (lv_at hl 3 rfl) ?_
        refine g_cRi (k2 := 0) (n2 := 0) (g_runS (rest := [.int kd_, .int (nI jh), .ref oa]) hC (c_L_hand hE (nI jm)) Y_L_hand k_758 S_L_hand trivial rfl hl.1 dL_isPower_139 ⟨Nat.le_of_ble_eq_true rfl, Nat.le_of_ble_eq_true rfl⟩ ⟨Nat.le_of_ble_eq_true rfl, Nat.le_of_ble_eq_true rfl⟩ rfl (Nat.le_of_ble_eq_true rfl)) rfl rfl g_no (fun r30_ h31_ => ?_)
        obtain rfl := h31_
        refine lv_iload hx hb dL_isPower_142 (lv_at hl 2 rfl) ?_
        refine lv_iload hx hb dL_isPower_144 (lv_at hl 1 rfl) ?_
        refine lv_iload hx hb dL_isPower_146 (lv_at hl 0 rfl) ?_
        refine g_cWi (k2 := 8) (n2 := 2050) (g_runSH (n := 7) (rest := []) hC (w_grant hE (nb := nb) (oa := oa) (n := n) (μ := μ) (K := K) (nI jh) kd_ (hch (nI jm)) (nI (1 + jv)) (nI fi) (nI (fi + jd)) (by omega)) Z_grant.1 Z_grant.2.1 Z_grant.2.2.1 k_761 Z_grant.2.2.2 hSI rfl hl.1 dL_isPower_148 ⟨Nat.le_of_ble_eq_true rfl, Nat.le_of_ble_eq_true rfl⟩ ⟨Nat.le_of_ble_eq_true rfl, Nat.le_of_ble_eq_true rfl⟩ rfl (Nat.le_of_ble_eq_true rfl)) hS (fun q h => h.1) rfl rfl (fun r32_ H lo hw33_ hz_ hk_ hS => ?_)
        have hA := hA.kept (hk_ nb hA.lt (fun z => z.2 rfl))
        obtain ⟨er_, hSI⟩ := hw33_.no 2 (kg_3 (isP_nI hjh (by omega)) (kd01 hkd) (hd_h hjm) (pw_n (by omega) (by omega) (by omega) (by omega)) (by omega))
        have er_ : r32_ = (-900003 : Int32) := er_
        subst er_
        refine lv_ldc (own := "SignatoryLaw") (v := -900003) hx hb hC.2.2.2.2.2.1 (gw hC.1 hC.2.1 k_525 rfl) dL_isPower_151 ?_
        refine lv_icmp_ne (tgt := 160) hx hb dL_isPower_153 (by decide) (fun c34_ => ?_) (fun c34_ => ?_)
        · exact absurd rfl c34_
        · refine lv_iconst (v := 1) hx hb dL_isPower_156 (by decide) ?_
          refine lv_goto (tgt := 161) hx hb dL_isPower_157 (by decide) ?_
          exact g_zretW hC hr rfl dL_isPower_161 hS (Nat.le_of_ble_eq_true rfl) (Nat.le_of_ble_eq_true rfl) ⟨rfl, _, _, _, ⟨hSI.mono (by omega), hA, (hN.mono (by omega) (by omega))⟩, h2, (by omega)⟩
    · refine lv_if_ne (tgt := 70) hx hb dL_isPower_62 (by decide) (fun c35_ => ?_) (fun c35_ => ?_)
      · have q36_ : ¬ jl = 0 := fun z => c35_ (congrArg nI z)
        refine lv_sipush (v := 3000) hx hb dL_isPower_70 (by decide) ?_
        exact J11_ _ ⟨3000, by omega, by omega, rfl⟩
      · have q36_ : jl = 0 := (nI_eq (by omega) (by omega)).mp c35_
        refine lv_ldc (own := "SignatoryLaw") (v := 99999) hx hb hC.2.2.2.2.2.1 (gw hC.1 hC.2.1 k_756 rfl) dL_isPower_65 ?_
        refine lv_goto (tgt := 73) hx hb dL_isPower_67 (by decide) ?_
        exact J11_ _ ⟨99999, by omega, by omega, rfl⟩
  · refine lv_if_ne (tgt := 36) hx hb dL_isPower_29 (by decide) (fun c37_ => ?_) (fun c37_ => ?_)
    · have q38_ : ¬ jk = 0 := fun z => c37_ (congrArg nI z)
      refine lv_iconst (v := 0) hx hb dL_isPower_36 (by decide) ?_
      exact J5_ _ (Or.inl rfl)
    · have q38_ : jk = 0 := (nI_eq (by omega) (by omega)).mp c37_
      refine lv_iconst (v := 1) hx hb dL_isPower_32 (by decide) ?_
      refine lv_goto (tgt := 37) hx hb dL_isPower_33 (by decide) ?_
      exact J5_ _ (Or.inr rfl)
