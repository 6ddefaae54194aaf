set_option maxHeartbeats 4000000 in
set_option maxRecDepth 100000 in
theorem c_L_isSigned {l : Launch} {E : gV} (hE : gOK l E) {b L : Nat} {xs : Nat → Int32} (hX : va_X b L xs E.2.1 E.2.1.heap) (hbl : b < E.2.1.heap.size) (hL : L < 2 ^ 31) {nb oa n D : Nat} {f : Nat → Int32} {μ : F2} {K : Nat → Nat} (hN : NL f μ K D) (hnb : E.2.1.heap.size ≤ nb) (h2 : 2 ≤ K 0) (h1 : 1 ≤ K 1) (hn : n < 500) (hD : D ≤ 391) (i : Nat) (hi : i < 2000) : gM l E yL_isSigned cL_isSigned 11 (some .boolean) ({ frames := 12, cells := 8, slots := 1060, locals := 303 } : Room) [.ref oa, .ref nb, .ref b, .int (nI i)] (fun H => SI E nb oa μ K n H ∧ gNet E nb f H) (gQW (gA0 E) (gWi (fun r H => r = 1 ∧ NJ E nb oa (D + 9) (n + 1) 1 H))) (fun _ => False) (gA0 E) := by
  refine gM_body hE (by decide +kernel) (Nat.le_of_ble_eq_true rfl) ?_
  intro p_ e_ s m args below meth c hC ht hr hname hP ls hl
  have hx := hC.2.2.1
  have hb := hC.2.2.2.1
  have hl : lv_has ls 11 [(0, .ref oa), (1, .ref nb), (2, .ref b), (3, .int (nI i))] := hl
  have hS : va_S ((gA0 E)) s.heap s.heap [] := va_S.rf
  obtain ⟨hSI, hA⟩ := hP
  have hU := hSI.pu
  have hb0 := hN.b0
  have hb1 := hN.b1
  have hb2 := hN.b2
  obtain ⟨td, htd, hd3, hd22⟩ := hN.day
  have hbD := hN.bD
  refine lv_aload_n hx hb dL_isSigned_0 rfl (lv_at hl 2 rfl) ?_
  refine lv_iload_n hx hb dL_isSigned_1 rfl (lv_at hl 3 rfl) ?_
  refine lv_aload_n hx hb dL_isSigned_2 rfl (lv_at hl 1 rfl) ?_
  refine lv_iconst (v := 0) hx hb dL_isSigned_3 (by decide) ?_
  refine g_iald (n := 450) (f := f) (j := 0) hC hA (by omega) (by decide) dL_isSigned_4 ?_
  rw [show f (0) = nI (K 0) from hN.k0]
  refine g_cRi (k2 := 0) (n2 := 0) (g_runS (rest := []) hC (c_L_in hE hX hbl hL (i) (K 0) (by omega) (by omega) (by omega)) Y_L_in k_654 S_L_in hSI.frz rfl hl.1 dL_isSigned_5 ⟨Nat.le_of_ble_eq_true rfl, Nat.le_of_ble_eq_true rfl⟩ ⟨Nat.le_of_ble_eq_true rfl, Nat.le_of_ble_eq_true rfl⟩ rfl (Nat.le_of_ble_eq_true rfl)) rfl rfl g_no (fun r1_ h2_ => ?_)
  obtain ⟨ip, hip, rfl⟩ := h2_
  refine lv_istore (lv' := [(4, .int (nI ip)), (0, .ref oa), (1, .ref nb), (2, .ref b), (3, .int (nI i))]) hx hb dL_isSigned_8 hl (by decide) rfl (fun ls hl => ?_)
  refine lv_aload_n hx hb dL_isSigned_10 rfl (lv_at hl 3 rfl) ?_
  refine lv_iload_n hx hb dL_isSigned_11 rfl (lv_at hl 4 rfl) ?_
  refine lv_iconst (v := 1) hx hb dL_isSigned_12 (by decide) ?_
  refine g_naddn (a := i) (b := 1) hx hb dL_isSigned_13 ?_
  refine lv_iconst (v := 2) hx hb dL_isSigned_14 (by decide) ?_
  refine g_cRi (k2 := 0) (n2 := 0) (g_runS (rest := []) hC (c_L_in hE hX hbl hL (i + 1) (2) (by omega) (by omega) (by omega)) Y_L_in k_654 S_L_in hSI.frz rfl hl.1 dL_isSigned_15 ⟨Nat.le_of_ble_eq_true rfl, Nat.le_of_ble_eq_true rfl⟩ ⟨Nat.le_of_ble_eq_true rfl, Nat.le_of_ble_eq_true rfl⟩ rfl (Nat.le_of_ble_eq_true rfl)) rfl rfl g_no (fun r3_ h4_ => ?_)
  obtain ⟨ja, hja, rfl⟩ := h4_
  refine lv_if_ne (tgt := 25) hx hb dL_isSigned_18 (by decide) (fun c5_ => ?_) (fun c5_ => ?_)
  · have q6_ : ¬ ja = 0 := fun z => c5_ (congrArg nI z)
    refine lv_aload_n hx hb dL_isSigned_25 rfl (lv_at hl 3 rfl) ?_
    refine lv_iload_n hx hb dL_isSigned_26 rfl (lv_at hl 4 rfl) ?_
    refine lv_iconst (v := 2) hx hb dL_isSigned_27 (by decide) ?_
    refine g_naddn (a := i) (b := 2) hx hb dL_isSigned_28 ?_
    refine lv_aload_n hx hb dL_isSigned_29 rfl (lv_at hl 2 rfl) ?_
    refine lv_iconst (v := 0) hx hb dL_isSigned_30 (by decide) ?_
    refine g_iald (n := 450) (f := f) (j := 0) hC hA (by omega) (by decide) dL_isSigned_31 ?_
    rw [show f (0) = nI (K 0) from hN.k0]
    refine g_cRi (k2 := 0) (n2 := 0) (g_runS (rest := []) hC (c_L_in hE hX hbl hL (i + 2) (K 0) (by omega) (by omega) (by omega)) Y_L_in k_654 S_L_in hSI.frz rfl hl.1 dL_isSigned_32 ⟨Nat.le_of_ble_eq_true rfl, Nat.le_of_ble_eq_true rfl⟩ ⟨Nat.le_of_ble_eq_true rfl, Nat.le_of_ble_eq_true rfl⟩ rfl (Nat.le_of_ble_eq_true rfl)) rfl rfl g_no (fun r7_ h8_ => ?_)
    obtain ⟨jq, hjq, rfl⟩ := h8_
    refine lv_istore (lv' := [(5, .int (nI jq)), (4, .int (nI ip)), (0, .ref oa), (1, .ref nb), (2, .ref b), (3, .int (nI i))]) hx hb dL_isSigned_35 hl (by decide) rfl (fun ls hl => ?_)
    refine lv_aload_n hx hb dL_isSigned_37 rfl (lv_at hl 4 rfl) ?_
    refine lv_iload_n hx hb dL_isSigned_38 rfl (lv_at hl 5 rfl) ?_
    refine lv_iconst (v := 3) hx hb dL_isSigned_39 (by decide) ?_
    refine g_naddn (a := i) (b := 3) hx hb dL_isSigned_40 ?_
    refine lv_iconst (v := 5) hx hb dL_isSigned_41 (by decide) ?_
    refine g_cRi (k2 := 0) (n2 := 0) (g_runS (rest := []) hC (c_L_in hE hX hbl hL (i + 3) (5) (by omega) (by omega) (by omega)) Y_L_in k_654 S_L_in hSI.frz rfl hl.1 dL_isSigned_42 ⟨Nat.le_of_ble_eq_true rfl, Nat.le_of_ble_eq_true rfl⟩ ⟨Nat.le_of_ble_eq_true rfl, Nat.le_of_ble_eq_true rfl⟩ rfl (Nat.le_of_ble_eq_true rfl)) rfl rfl g_no (fun r9_ h10_ => ?_)
    obtain ⟨jk, hjk, rfl⟩ := h10_
    refine g_join (pc1 := 53) (rest := []) (P := fun x => x = 0 ∨ x = 1) (fun kd_ hx12_ => ?_) (fun J11_ => ?_)
    · have hkd := hx12_
      refine lv_istore (lv' := [(6, .int kd_), (5, .int (nI jq)), (4, .int (nI ip)), (0, .ref oa), (1, .ref nb), (2, .ref b), (3, .int (nI i))]) hx hb dL_isSigned_53 hl (by decide) rfl (fun ls hl => ?_)
      refine lv_iconst (v := 1) hx hb dL_isSigned_55 (by decide) ?_
      refine lv_aload_n hx hb dL_isSigned_56 rfl (lv_at hl 5 rfl) ?_
      refine lv_iload_n hx hb dL_isSigned_57 rfl (lv_at hl 6 rfl) ?_
      refine lv_iconst (v := 4) hx hb dL_isSigned_58 (by decide) ?_
      refine g_naddn (a := i) (b := 4) hx hb dL_isSigned_59 ?_
      refine lv_aload_n hx hb dL_isSigned_60 rfl (lv_at hl 5 rfl) ?_
      refine lv_iload_n hx hb dL_isSigned_61 rfl (lv_at hl 6 rfl) ?_
      refine lv_iconst (v := 5) hx hb dL_isSigned_62 (by decide) ?_
      refine g_naddn (a := i) (b := 5) hx hb dL_isSigned_63 ?_
      refine lv_iconst (v := 4) hx hb dL_isSigned_64 (by decide) ?_
      refine g_cRi (k2 := 0) (n2 := 0) (g_runS (rest := [.int (nI (i + 4)), .ref b, .int 1]) hC (c_L_in hE hX hbl hL (i + 5) (4) (by omega) (by omega) (by omega)) Y_L_in k_654 S_L_in hSI.frz rfl hl.1 dL_isSigned_65 ⟨Nat.le_of_ble_eq_true rfl, Nat.le_of_ble_eq_true rfl⟩ ⟨Nat.le_of_ble_eq_true rfl, Nat.le_of_ble_eq_true rfl⟩ rfl (Nat.le_of_ble_eq_true rfl)) rfl rfl g_no (fun r13_ h14_ => ?_)
      obtain ⟨jl, hjl, rfl⟩ := h14_
      refine g_join (pc1 := 80) (rest := [.int (nI (i + 4)), .ref b, .int 1]) (P := fun x => ∃ q : Nat, 1 ≤ q ∧ q ≤ 9999 ∧ x = nI q) (fun x_ hx16_ => ?_) (fun J15_ => ?_)
      · obtain ⟨lm, hlm1, hlm2, rfl⟩ := hx16_
        refine g_cRi (k2 := 0) (n2 := 0) (g_runS (rest := [.int 1]) hC (c_L_in hE hX hbl hL (i + 4) (lm) (by omega) (by omega) (by omega)) Y_L_in k_654 S_L_in hSI.frz rfl hl.1 dL_isSigned_80 ⟨Nat.le_of_ble_eq_true rfl, Nat.le_of_ble_eq_true rfl⟩ ⟨Nat.le_of_ble_eq_true rfl, Nat.le_of_ble_eq_true rfl⟩ rfl (Nat.le_of_ble_eq_true rfl)) rfl rfl g_no (fun r17_ h18_ => ?_)
        obtain ⟨jv, hjv, rfl⟩ := h18_
        refine g_naddn (a := 1) (b := jv) hx hb dL_isSigned_83 ?_
        refine lv_istore (lv' := [(7, .int (nI (1 + jv))), (6, .int kd_), (5, .int (nI jq)), (4, .int (nI ip)), (0, .ref oa), (1, .ref nb), (2, .ref b), (3, .int (nI i))]) hx hb dL_isSigned_84 hl (by decide) rfl (fun ls hl => ?_)
        refine lv_aload_n hx hb dL_isSigned_86 rfl (lv_at hl 6 rfl) ?_
        refine lv_iload_n hx hb dL_isSigned_87 rfl (lv_at hl 7 rfl) ?_
        refine lv_bipush (v := 6) hx hb dL_isSigned_88 (by decide) ?_
        refine g_naddn (a := i) (b := 6) hx hb dL_isSigned_90 ?_
        refine lv_iconst (v := 3) hx hb dL_isSigned_91 (by decide) ?_
        refine g_cRi (k2 := 0) (n2 := 0) (g_runS (rest := []) hC (c_L_in hE hX hbl hL (i + 6) (3) (by omega) (by omega) (by omega)) Y_L_in k_654 S_L_in hSI.frz rfl hl.1 dL_isSigned_92 ⟨Nat.le_of_ble_eq_true rfl, Nat.le_of_ble_eq_true rfl⟩ ⟨Nat.le_of_ble_eq_true rfl, Nat.le_of_ble_eq_true rfl⟩ rfl (Nat.le_of_ble_eq_true rfl)) rfl rfl g_no (fun r19_ h20_ => ?_)
        obtain ⟨jp, hjp, rfl⟩ := h20_
        refine lv_istore (lv' := [(8, .int (nI jp)), (7, .int (nI (1 + jv))), (6, .int kd_), (5, .int (nI jq)), (4, .int (nI ip)), (0, .ref oa), (1, .ref nb), (2, .ref b), (3, .int (nI i))]) hx hb dL_isSigned_95 hl (by decide) rfl (fun ls hl => ?_)
        refine lv_iload hx hb dL_isSigned_97 (lv_at hl 4 rfl) ?_
        refine lv_iload hx hb dL_isSigned_99 (lv_at hl 3 rfl) ?_
        refine lv_icmp_ne (tgt := 129) hx hb dL_isSigned_101 (by decide) (fun c21_ => ?_) (fun c21_ => ?_)
        · have n22_ : ¬ ip = jq := fun z => c21_ (congrArg nI z)
          refine lv_aload_n hx hb dL_isSigned_129 rfl (lv_at hl 6 rfl) ?_
          refine lv_iconst (v := 2) hx hb dL_isSigned_130 (by decide) ?_
          refine g_iald (n := 450) (f := f) (j := 2) hC hA (by omega) (by decide) dL_isSigned_131 ?_
          rw [show f (2) = nI (K 2) from hN.k2]
          refine lv_bipush (v := 24) hx hb dL_isSigned_132 (by decide) ?_
          refine lv_icmp_ne (tgt := 192) hx hb dL_isSigned_134 (by decide) (fun c23_ => ?_) (fun c23_ => ?_)
          · have n24_ : ¬ (K 2) = 24 := fun z => c23_ (congrArg nI z)
            refine lv_aload_n hx hb dL_isSigned_192 rfl (lv_at hl 6 rfl) ?_
            refine lv_iconst (v := 2) hx hb dL_isSigned_193 (by decide) ?_
            refine g_iald (n := 450) (f := f) (j := 2) hC hA (by omega) (by decide) dL_isSigned_194 ?_
            rw [show f (2) = nI (K 2) from hN.k2]
            refine lv_istore (lv' := [(9, .int (nI (K 2))), (8, .int (nI jp)), (7, .int (nI (1 + jv))), (6, .int kd_), (5, .int (nI jq)), (4, .int (nI ip)), (0, .ref oa), (1, .ref nb), (2, .ref b), (3, .int (nI i))]) hx hb dL_isSigned_195 hl (by decide) rfl (fun ls hl => ?_)
            refine lv_sipush (v := 200) hx hb dL_isSigned_197 (by decide) ?_
            refine lv_bipush (v := 10) hx hb dL_isSigned_200 (by decide) ?_
            refine lv_iload hx hb dL_isSigned_202 (lv_at hl 0 rfl) ?_
            refine g_nmuln (a := 10) (b := K 2) hx hb dL_isSigned_204 ?_
            refine g_naddn (a := 200) (b := 10 * (K 2)) hx hb dL_isSigned_205 ?_
            refine lv_istore (lv' := [(10, .int (nI (200 + 10 * (K 2)))), (9, .int (nI (K 2))), (8, .int (nI jp)), (7, .int (nI (1 + jv))), (6, .int kd_), (5, .int (nI jq)), (4, .int (nI ip)), (0, .ref oa), (1, .ref nb), (2, .ref b), (3, .int (nI i))]) hx hb dL_isSigned_206 hl (by decide) rfl (fun ls hl => ?_)
            refine lv_aload_n hx hb dL_isSigned_208 rfl (lv_at hl 8 rfl) ?_
            refine lv_iload hx hb dL_isSigned_209 (lv_at hl 0 rfl) ?_
            refine lv_iconst (v := 4) hx hb dL_isSigned_211 (by decide) ?_
            refine g_naddn (a := 200 + 10 * (K 2)) (b := 4) hx hb dL_isSigned_212 ?_
            refine lv_aload_n hx hb dL_isSigned_213 rfl (lv_at hl 8 rfl) ?_
            refine lv_iload hx hb dL_isSigned_214 (lv_at hl 4 rfl) ?_
            refine lv_iload hx hb dL_isSigned_216 (lv_at hl 3 rfl) ?_
            refine lv_iload hx hb dL_isSigned_218 (lv_at hl 2 rfl) ?_
            refine g_cRi (k2 := 0) (n2 := 0) (g_runS (rest := [.int (nI (200 + 10 * (K 2) + 4)), .ref nb]) hC (c_L_added hE (nb := nb) hN hU kd_ (nI (1 + jv)) (nI jp)) Y_L_added k_906 S_L_added hA rfl hl.1 dL_isSigned_220 ⟨Nat.le_of_ble_eq_true rfl, Nat.le_of_ble_eq_true rfl⟩ ⟨Nat.le_of_ble_eq_true rfl, Nat.le_of_ble_eq_true rfl⟩ rfl (Nat.le_of_ble_eq_true rfl)) rfl rfl g_no (fun r25_ h26_ => ?_)
            refine g_iast (n := 450) (f := f) (j := 200 + 10 * (K 2) + 4) (x := r25_) hC hA hS hnb (by omega) (by decide) dL_isSigned_223 (fun H lo hA hz_ ho_ hS => ?_)
            have hSI := hSI.netw hnb hz_ ho_
            have hA : gNet E nb (upd f (200 + 10 * (K 2) + 4) r25_) H := hA
            refine lv_aload_n hx hb dL_isSigned_224 rfl (lv_at hl 8 rfl) ?_
            refine lv_iload hx hb dL_isSigned_225 (lv_at hl 0 rfl) ?_
            refine lv_iload hx hb dL_isSigned_227 (lv_at hl 4 rfl) ?_
            refine g_iast (n := 450) (f := (upd f (200 + 10 * (K 2) + 4) r25_)) (j := 200 + 10 * (K 2)) (x := kd_) hC hA hS hnb (by omega) (by decide) dL_isSigned_229 (fun H lo hA hz_ ho_ hS => ?_)
            have hSI := hSI.netw hnb hz_ ho_
            have hA : gNet E nb (upd (upd f (200 + 10 * (K 2) + 4) r25_) (200 + 10 * (K 2)) kd_) H := hA
            refine lv_aload_n hx hb dL_isSigned_230 rfl (lv_at hl 8 rfl) ?_
            refine lv_iload hx hb dL_isSigned_231 (lv_at hl 0 rfl) ?_
            refine lv_iconst (v := 1) hx hb dL_isSigned_233 (by decide) ?_
            refine g_naddn (a := 200 + 10 * (K 2)) (b := 1) hx hb dL_isSigned_234 ?_
            refine lv_iload hx hb dL_isSigned_235 (lv_at hl 3 rfl) ?_
            refine g_iast (n := 450) (f := (upd (upd f (200 + 10 * (K 2) + 4) r25_) (200 + 10 * (K 2)) kd_)) (j := 200 + 10 * (K 2) + 1) (x := nI (1 + jv)) hC hA hS hnb (by omega) (by decide) dL_isSigned_237 (fun H lo hA hz_ ho_ hS => ?_)
            have hSI := hSI.netw hnb hz_ ho_
            have hA : gNet E nb (upd (upd (upd f (200 + 10 * (K 2) + 4) r25_) (200 + 10 * (K 2)) kd_) (200 + 10 * (K 2) + 1) (nI (1 + jv))) H := hA
            refine lv_aload_n hx hb dL_isSigned_238 rfl (lv_at hl 8 rfl) ?_
            refine lv_iload hx hb dL_isSigned_239 (lv_at hl 0 rfl) ?_
            refine lv_iconst (v := 2) hx hb dL_isSigned_241 (by decide) ?_
            refine g_naddn (a := 200 + 10 * (K 2)) (b := 2) hx hb dL_isSigned_242 ?_
            refine lv_iload hx hb dL_isSigned_243 (lv_at hl 2 rfl) ?_
            refine g_iast (n := 450) (f := (upd (upd (upd f (200 + 10 * (K 2) + 4) r25_) (200 + 10 * (K 2)) kd_) (200 + 10 * (K 2) + 1) (nI (1 + jv)))) (j := 200 + 10 * (K 2) + 2) (x := nI jp) hC hA hS hnb (by omega) (by decide) dL_isSigned_245 (fun H lo hA hz_ ho_ hS => ?_)
            have hSI := hSI.netw hnb hz_ ho_
            have hA : gNet E nb (upd (upd (upd (upd f (200 + 10 * (K 2) + 4) r25_) (200 + 10 * (K 2)) kd_) (200 + 10 * (K 2) + 1) (nI (1 + jv))) (200 + 10 * (K 2) + 2) (nI jp)) H := hA
            refine lv_aload_n hx hb dL_isSigned_246 rfl (lv_at hl 8 rfl) ?_
            refine lv_iload hx hb dL_isSigned_247 (lv_at hl 0 rfl) ?_
            refine lv_iconst (v := 3) hx hb dL_isSigned_249 (by decide) ?_
            refine g_naddn (a := 200 + 10 * (K 2)) (b := 3) hx hb dL_isSigned_250 ?_
            refine lv_aload_n hx hb dL_isSigned_251 rfl (lv_at hl 8 rfl) ?_
            refine lv_iconst (v := 3) hx hb dL_isSigned_252 (by decide) ?_
            refine g_iald (n := 450) (f := (upd (upd (upd (upd f (200 + 10 * (K 2) + 4) r25_) (200 + 10 * (K 2)) kd_) (200 + 10 * (K 2) + 1) (nI (1 + jv))) (200 + 10 * (K 2) + 2) (nI jp))) (j := 3) hC hA (by omega) (by decide) dL_isSigned_253 ?_
            rw [show (upd (upd (upd (upd f (200 + 10 * (K 2) + 4) r25_) (200 + 10 * (K 2)) kd_) (200 + 10 * (K 2) + 1) (nI (1 + jv))) (200 + 10 * (K 2) + 2) (nI jp)) (3) = nI td from by rw [upd_n _ _ (by omega), upd_n _ _ (by omega), upd_n _ _ (by omega), upd_n _ _ (by omega)]; exact hd3]
            refine g_iast (n := 450) (f := (upd (upd (upd (upd f (200 + 10 * (K 2) + 4) r25_) (200 + 10 * (K 2)) kd_) (200 + 10 * (K 2) + 1) (nI (1 + jv))) (200 + 10 * (K 2) + 2) (nI jp))) (j := 200 + 10 * (K 2) + 3) (x := nI td) hC hA hS hnb (by omega) (by decide) dL_isSigned_254 (fun H lo hA hz_ ho_ hS => ?_)
            have hSI := hSI.netw hnb hz_ ho_
            have hA : gNet E nb (upd (upd (upd (upd (upd f (200 + 10 * (K 2) + 4) r25_) (200 + 10 * (K 2)) kd_) (200 + 10 * (K 2) + 1) (nI (1 + jv))) (200 + 10 * (K 2) + 2) (nI jp)) (200 + 10 * (K 2) + 3) (nI td)) H := hA
            have hN28_ : NL (upd (upd (upd (upd (upd f (200 + 10 * (K 2) + 4) r25_) (200 + 10 * (K 2)) kd_) (200 + 10 * (K 2) + 1) (nI (1 + jv))) (200 + 10 * (K 2) + 2) (nI jp)) (200 + 10 * (K 2) + 3) (nI td)) μ K D := ((((hN.free (by omega) _).free (by omega) _).free (by omega) _).free (by omega) _).free (by omega) _
            obtain ⟨g27_, eg27_⟩ : ∃ g_, g_ = (upd (upd (upd (upd (upd f (200 + 10 * (K 2) + 4) r25_) (200 + 10 * (K 2)) kd_) (200 + 10 * (K 2) + 1) (nI (1 + jv))) (200 + 10 * (K 2) + 2) (nI jp)) (200 + 10 * (K 2) + 3) (nI td)) := ⟨_, rfl⟩
            rw [← eg27_] at hN28_ hA
            have u1 : ∀ z, (z < 200 + 10 * K 2 ∨ 208 + 10 * K 2 < z) → g27_ z = f z := fun z hz => by rw [eg27_, upd_n _ _ (by omega), upd_n _ _ (by omega), upd_n _ _ (by omega), upd_n _ _ (by omega), upd_n _ _ (by omega)]
            have a0 : g27_ (200 + 10 * K 2) = kd_ := by rw [eg27_, upd_n _ _ (by omega), upd_n _ _ (by omega), upd_n _ _ (by omega), upd_s]
            have a1 : g27_ (201 + 10 * K 2) = nI (1 + jv) := by rw [eg27_, upd_n _ _ (by omega), upd_n _ _ (by omega), show 201 + 10 * K 2 = 200 + 10 * K 2 + 1 by omega, upd_s]
            have a2 : g27_ (202 + 10 * K 2) = nI jp := by rw [eg27_, upd_n _ _ (by omega), show 202 + 10 * K 2 = 200 + 10 * K 2 + 2 by omega, upd_s]
            have a3 : g27_ (203 + 10 * K 2) = nI td := by rw [eg27_, show 203 + 10 * K 2 = 200 + 10 * K 2 + 3 by omega, upd_s]
            have a4 : g27_ (204 + 10 * K 2) = r25_ := by rw [eg27_, upd_n _ _ (by omega), upd_n _ _ (by omega), upd_n _ _ (by omega), upd_n _ _ (by omega), show 204 + 10 * K 2 = 200 + 10 * K 2 + 4 by omega, upd_s]
            refine lv_aload_n hx hb dL_isSigned_255 rfl (lv_at hl 8 rfl) ?_
            refine lv_iload hx hb dL_isSigned_256 (lv_at hl 0 rfl) ?_
            refine lv_iconst (v := 5) hx hb dL_isSigned_258 (by decide) ?_
            refine g_naddn (a := 200 + 10 * (K 2)) (b := 5) hx hb dL_isSigned_259 ?_
            refine lv_aload_n hx hb dL_isSigned_260 rfl (lv_at hl 8 rfl) ?_
            refine lv_iload hx hb dL_isSigned_261 (lv_at hl 6 rfl) ?_
            refine lv_iload hx hb dL_isSigned_263 (lv_at hl 5 rfl) ?_
            refine lv_iload hx hb dL_isSigned_265 (lv_at hl 4 rfl) ?_
            refine lv_aload_n hx hb dL_isSigned_267 rfl (lv_at hl 8 rfl) ?_
            refine lv_iload hx hb dL_isSigned_268 (lv_at hl 0 rfl) ?_
            refine lv_iconst (v := 4) hx hb dL_isSigned_270 (by decide) ?_
            refine g_naddn (a := 200 + 10 * (K 2)) (b := 4) hx hb dL_isSigned_271 ?_
            refine g_iald (n := 450) (f := g27_) (j := 200 + 10 * (K 2) + 4) hC hA (by omega) (by decide) dL_isSigned_272 ?_
            rw [show g27_ (200 + 10 * (K 2) + 4) = r25_ from (by rw [show 200 + 10 * (K 2) + 4 = 204 + 10 * (K 2) by omega]; exact a4)]
            refine g_cRi (k2 := 0) (n2 := 0) (g_runS (rest := [.int (nI (200 + 10 * (K 2) + 5)), .ref nb]) hC (c_L_can2 hE (nb := nb) hN28_ hU ip jq kd_ r25_ (by omega) (by omega)) Y_L_can k_909 S_L_can hA rfl hl.1 dL_isSigned_273 ⟨Nat.le_of_ble_eq_true rfl, Nat.le_of_ble_eq_true rfl⟩ ⟨Nat.le_of_ble_eq_true rfl, Nat.le_of_ble_eq_true rfl⟩ rfl (Nat.le_of_ble_eq_true rfl)) rfl rfl g_no (fun r29_ h30_ => ?_)
            refine lv_if_eq (tgt := 283) hx hb dL_isSigned_276 (by decide) (fun c31_ => ?_) (fun c31_ => ?_)
            · have q32_ := bz.f h30_ c31_
              have hmk := bz.f h30_ c31_
              refine lv_iconst (v := 1) hx hb dL_isSigned_283 (by decide) ?_
              refine g_iast (n := 450) (f := g27_) (j := 200 + 10 * (K 2) + 5) (x := 1) hC hA hS hnb (by omega) (by decide) dL_isSigned_284 (fun H lo hA hz_ ho_ hS => ?_)
              have hSI := hSI.netw hnb hz_ ho_
              have hA : gNet E nb (upd g27_ (200 + 10 * (K 2) + 5) 1) H := hA
              have hN34_ : NL (upd g27_ (200 + 10 * (K 2) + 5) 1) μ K D := hN28_.free (by omega) _
              obtain ⟨g33_, eg33_⟩ : ∃ g_, g_ = (upd g27_ (200 + 10 * (K 2) + 5) 1) := ⟨_, rfl⟩
              rw [← eg33_] at hN34_ hA
              have u2 : ∀ z, (z < 200 + 10 * K 2 ∨ 208 + 10 * K 2 < z) → g33_ z = f z := fun z hz => by rw [eg33_, upd_n _ _ (by omega)]; exact u1 z hz
              have b0 : g33_ (200 + 10 * K 2) = kd_ := by rw [eg33_, upd_n _ _ (by omega)]; exact a0
              have b1 : g33_ (201 + 10 * K 2) = nI (1 + jv) := by rw [eg33_, upd_n _ _ (by omega)]; exact a1
              have b2 : g33_ (202 + 10 * K 2) = nI jp := by rw [eg33_, upd_n _ _ (by omega)]; exact a2
              have b3 : g33_ (203 + 10 * K 2) = nI td := by rw [eg33_, upd_n _ _ (by omega)]; exact a3
              have b4 : g33_ (204 + 10 * K 2) = r25_ := by rw [eg33_, upd_n _ _ (by omega)]; exact a4
              have b5 : g33_ (205 + 10 * K 2) = 1 := by rw [eg33_, show 205 + 10 * K 2 = 200 + 10 * K 2 + 5 by omega, upd_s]
              refine lv_aload_n hx hb dL_isSigned_285 rfl (lv_at hl 8 rfl) ?_
              refine lv_iload hx hb dL_isSigned_286 (lv_at hl 0 rfl) ?_
              refine lv_iconst (v := 5) hx hb dL_isSigned_288 (by decide) ?_
              refine g_naddn (a := 200 + 10 * (K 2)) (b := 5) hx hb dL_isSigned_289 ?_
              refine g_iald (n := 450) (f := g33_) (j := 200 + 10 * (K 2) + 5) hC hA (by omega) (by decide) dL_isSigned_290 ?_
              rw [show g33_ (200 + 10 * (K 2) + 5) = 1 from (by rw [show 200 + 10 * (K 2) + 5 = 205 + 10 * (K 2) by omega]; exact b5)]
              refine lv_iconst (v := 1) hx hb dL_isSigned_291 (by decide) ?_
              refine lv_icmp_ne (tgt := 305) hx hb dL_isSigned_292 (by decide) (fun c35_ => ?_) (fun c35_ => ?_)
              · exact absurd rfl c35_
              · refine lv_aload_n hx hb dL_isSigned_295 rfl (lv_at hl 8 rfl) ?_
                refine lv_iload hx hb dL_isSigned_296 (lv_at hl 1 rfl) ?_
                refine lv_iload hx hb dL_isSigned_298 (lv_at hl 6 rfl) ?_
                refine lv_iload hx hb dL_isSigned_300 (lv_at hl 5 rfl) ?_
                refine g_cWv (k2 := 0) (n2 := 0) (g_runS (rest := []) hC (c_L_lays2 hE (nb := nb) hN34_ hU ip jq kd_ r25_ (by omega) (by omega) (by omega) b0 b4) Y_L_lays k_912 S_L_lays hA rfl hl.1 dL_isSigned_302 ⟨Nat.le_of_ble_eq_true rfl, Nat.le_of_ble_eq_true rfl⟩ ⟨Nat.le_of_ble_eq_true rfl, Nat.le_of_ble_eq_true rfl⟩ rfl (Nat.le_of_ble_eq_true rfl)) hS (fun q h => by rw [h]; exact hnb) rfl rfl (fun H lo h37_ hz_ hk_ hS => ?_)
                obtain ⟨g3_, hA, hN3_, hu3, hch3⟩ := h37_
                have hSI := hSI.netk hnb hz_ hk_
                have u2 : ∀ z, (z < 200 + 10 * K 2 ∨ 208 + 10 * K 2 < z) → g3_ z = f z := fun z hz => (hu3 z (by omega) (by omega) (by omega)).trans (u2 z hz)
                have b0 := (hu3 (200 + 10 * K 2) (by omega) (by omega) (by omega)).trans b0
                have b1 := (hu3 (201 + 10 * K 2) (by omega) (by omega) (by omega)).trans b1
                have b2 := (hu3 (202 + 10 * K 2) (by omega) (by omega) (by omega)).trans b2
                have b3 := (hu3 (203 + 10 * K 2) (by omega) (by omega) (by omega)).trans b3
                have b4 := (hu3 (204 + 10 * K 2) (by omega) (by omega) (by omega)).trans b4
                have b5 := (hu3 (205 + 10 * K 2) (by omega) (by omega) (by omega)).trans b5
                refine lv_aload_n hx hb dL_isSigned_305 rfl (lv_at hl 8 rfl) ?_
                refine lv_iconst (v := 2) hx hb dL_isSigned_306 (by decide) ?_
                refine lv_dup2_11 hx hb dL_isSigned_307 rfl rfl ?_
                refine g_iald (n := 450) (f := g3_) (j := 2) hC hA (by omega) (by decide) dL_isSigned_308 ?_
                rw [show g3_ (2) = nI (K 2) from hN3_.k2]
                refine lv_iconst (v := 1) hx hb dL_isSigned_309 (by decide) ?_
                refine g_naddn (a := K 2) (b := 1) hx hb dL_isSigned_310 ?_
                refine g_iast (n := 450) (f := g3_) (j := 2) (x := nI (K 2 + 1)) hC hA hS hnb (by omega) (by decide) dL_isSigned_311 (fun H lo hA hz_ ho_ hS => ?_)
                have hSI := hSI.netw hnb hz_ ho_
                have hA : gNet E nb (upd g3_ (2) (nI (K 2 + 1))) H := hA
                have hN39_ : NL (upd g3_ (2) (nI (K 2 + 1))) (mSig μ (K 1) (K 2) (nI ip) (nI jq) kd_ (nI (1 + jv)) (nI jp) r25_) (updN K 2 (K 2 + 1)) D := hN.deedB hU (by omega) hmk (fun z z1 hz => by rw [upd_n _ _ z1]; exact u2 z hz) (upd_s _ _ _) (by rw [upd_n _ _ (by omega)]; exact b0) (by rw [upd_n _ _ (by omega)]; exact b1) (by rw [upd_n _ _ (by omega)]; exact b2) (by rw [upd_n _ _ (by omega)]; exact b3.trans hd3.symm) (by rw [upd_n _ _ (by omega)]; exact b4) (by rw [upd_n _ _ (by omega)]; exact b5) (by rw [upd_n _ _ (by omega), upd_n _ _ (by omega), upd_n _ _ (by omega)]; exact hch3)
                obtain ⟨g38_, eg38_⟩ : ∃ g_, g_ = (upd g3_ (2) (nI (K 2 + 1))) := ⟨_, rfl⟩
                rw [← eg38_] at hN39_ hA
                refine lv_iload hx hb dL_isSigned_312 (lv_at hl 5 rfl) ?_
                refine lv_if_ge (tgt := 332) hx hb dL_isSigned_314 (by decide) (fun c40_ => ?_) (fun c40_ => ?_)
                · refine lv_aload_n hx hb dL_isSigned_332 rfl (lv_at hl 7 rfl) ?_
                  refine lv_iload hx hb dL_isSigned_333 (lv_at hl 6 rfl) ?_
                  refine lv_iload hx hb dL_isSigned_335 (lv_at hl 5 rfl) ?_
                  refine lv_iload hx hb dL_isSigned_337 (lv_at hl 4 rfl) ?_
                  refine lv_iload hx hb dL_isSigned_339 (lv_at hl 3 rfl) ?_
                  refine lv_iload hx hb dL_isSigned_341 (lv_at hl 2 rfl) ?_
                  refine g_cWi (k2 := 8) (n2 := 1060) (g_runSH (n := 6) (rest := []) hC (w_signTogether hE (nb := nb) (oa := oa) (n := n) (μ := μ) (K := K) (nI ip) (nI jq) kd_ (nI (1 + jv)) (nI jp)) Z_signTogether.1 Z_signTogether.2.1 Z_signTogether.2.2.1 k_526 Z_signTogether.2.2.2 hSI rfl hl.1 dL_isSigned_343 ⟨Nat.le_of_ble_eq_true rfl, Nat.le_of_ble_eq_true rfl⟩ ⟨Nat.le_of_ble_eq_true rfl, Nat.le_of_ble_eq_true rfl⟩ rfl (Nat.le_of_ble_eq_true rfl)) hS (fun q h => h.1) rfl rfl (fun r41_ H lo hw42_ hz_ hk_ hS => ?_)
                  have hA := hA.kept (hk_ nb hA.lt (fun z => z.2 rfl))
                  obtain ⟨er_, hSI⟩ := hw42_.ok (kt_0 (isP_nI hip (by omega)) (isP_nI hjq (by omega)) (dl_n hkd (by omega) (by omega) (by omega)) (fun z => by have := (nI_eq (by omega) (by omega)).mp z; omega) (by omega))
                  rw [← h26_] at hSI
                  have er_ : r41_ = nI (K 2) := er_
                  subst er_
                  refine lv_iload hx hb dL_isSigned_346 (lv_at hl 1 rfl) ?_
                  refine lv_icmp_ne (tgt := 355) hx hb dL_isSigned_348 (by decide) (fun c43_ => ?_) (fun c43_ => ?_)
                  · exact absurd rfl c43_
                  · refine lv_iconst (v := 1) hx hb dL_isSigned_351 (by decide) ?_
                    refine lv_goto (tgt := 356) hx hb dL_isSigned_352 (by decide) ?_
                    exact g_zretW hC hr rfl dL_isSigned_356 hS (Nat.le_of_ble_eq_true rfl) (Nat.le_of_ble_eq_true rfl) ⟨rfl, _, _, _, ⟨hSI.mono (by omega), hA, (hN39_.mono (by omega) (by omega))⟩, h2, h1⟩
                · exact absurd (nI_pos' (by omega)) c40_
            · have q32_ := bz.t h30_ c31_
              have hmk := bz.t h30_ c31_
              refine lv_iconst (v := 0) hx hb dL_isSigned_279 (by decide) ?_
              refine lv_goto (tgt := 284) hx hb dL_isSigned_280 (by decide) ?_
              refine g_iast (n := 450) (f := g27_) (j := 200 + 10 * (K 2) + 5) (x := 0) hC hA hS hnb (by omega) (by decide) dL_isSigned_284 (fun H lo hA hz_ ho_ hS => ?_)
              have hSI := hSI.netw hnb hz_ ho_
              have hA : gNet E nb (upd g27_ (200 + 10 * (K 2) + 5) 0) H := hA
              have hN45_ : NL (upd g27_ (200 + 10 * (K 2) + 5) 0) μ K D := hN28_.free (by omega) _
              obtain ⟨g44_, eg44_⟩ : ∃ g_, g_ = (upd g27_ (200 + 10 * (K 2) + 5) 0) := ⟨_, rfl⟩
              rw [← eg44_] at hN45_ hA
              have u2 : ∀ z, (z < 200 + 10 * K 2 ∨ 208 + 10 * K 2 < z) → g44_ z = f z := fun z hz => by rw [eg44_, upd_n _ _ (by omega)]; exact u1 z hz
              have b0 : g44_ (200 + 10 * K 2) = kd_ := by rw [eg44_, upd_n _ _ (by omega)]; exact a0
              have b1 : g44_ (201 + 10 * K 2) = nI (1 + jv) := by rw [eg44_, upd_n _ _ (by omega)]; exact a1
              have b2 : g44_ (202 + 10 * K 2) = nI jp := by rw [eg44_, upd_n _ _ (by omega)]; exact a2
              have b3 : g44_ (203 + 10 * K 2) = nI td := by rw [eg44_, upd_n _ _ (by omega)]; exact a3
              have b4 : g44_ (204 + 10 * K 2) = r25_ := by rw [eg44_, upd_n _ _ (by omega)]; exact a4
              have b5 : g44_ (205 + 10 * K 2) = 0 := by rw [eg44_, show 205 + 10 * K 2 = 200 + 10 * K 2 + 5 by omega, upd_s]
              refine lv_aload_n hx hb dL_isSigned_285 rfl (lv_at hl 8 rfl) ?_
              refine lv_iload hx hb dL_isSigned_286 (lv_at hl 0 rfl) ?_
              refine lv_iconst (v := 5) hx hb dL_isSigned_288 (by decide) ?_
              refine g_naddn (a := 200 + 10 * (K 2)) (b := 5) hx hb dL_isSigned_289 ?_
              refine g_iald (n := 450) (f := g44_) (j := 200 + 10 * (K 2) + 5) hC hA (by omega) (by decide) dL_isSigned_290 ?_
              rw [show g44_ (200 + 10 * (K 2) + 5) = 0 from (by rw [show 200 + 10 * (K 2) + 5 = 205 + 10 * (K 2) by omega]; exact b5)]
              refine lv_iconst (v := 1) hx hb dL_isSigned_291 (by decide) ?_
              refine lv_icmp_ne (tgt := 305) hx hb dL_isSigned_292 (by decide) (fun c46_ => ?_) (fun c46_ => ?_)
              · refine lv_aload_n hx hb dL_isSigned_305 rfl (lv_at hl 8 rfl) ?_
                refine lv_iconst (v := 2) hx hb dL_isSigned_306 (by decide) ?_
                refine lv_dup2_11 hx hb dL_isSigned_307 rfl rfl ?_
                refine g_iald (n := 450) (f := g44_) (j := 2) hC hA (by omega) (by decide) dL_isSigned_308 ?_
                rw [show g44_ (2) = nI (K 2) from hN45_.k2]
                refine lv_iconst (v := 1) hx hb dL_isSigned_309 (by decide) ?_
                refine g_naddn (a := K 2) (b := 1) hx hb dL_isSigned_310 ?_
                refine g_iast (n := 450) (f := g44_) (j := 2) (x := nI (K 2 + 1)) hC hA hS hnb (by omega) (by decide) dL_isSigned_311 (fun H lo hA hz_ ho_ hS => ?_)
                have hSI := hSI.netw hnb hz_ ho_
                have hA : gNet E nb (upd g44_ (2) (nI (K 2 + 1))) H := hA
                have hN48_ : NL (upd g44_ (2) (nI (K 2 + 1))) (mSig μ (K 1) (K 2) (nI ip) (nI jq) kd_ (nI (1 + jv)) (nI jp) r25_) (updN K 2 (K 2 + 1)) D := hN.deedA (by omega) hmk (fun z z1 hz => by rw [upd_n _ _ z1]; exact u2 z hz) (upd_s _ _ _) (by rw [upd_n _ _ (by omega)]; exact b0) (by rw [upd_n _ _ (by omega)]; exact b1) (by rw [upd_n _ _ (by omega)]; exact b2) (by rw [upd_n _ _ (by omega)]; exact b3.trans hd3.symm) (by rw [upd_n _ _ (by omega)]; exact b4) (by rw [upd_n _ _ (by omega)]; exact b5)
                obtain ⟨g47_, eg47_⟩ : ∃ g_, g_ = (upd g44_ (2) (nI (K 2 + 1))) := ⟨_, rfl⟩
                rw [← eg47_] at hN48_ hA
                refine lv_iload hx hb dL_isSigned_312 (lv_at hl 5 rfl) ?_
                refine lv_if_ge (tgt := 332) hx hb dL_isSigned_314 (by decide) (fun c49_ => ?_) (fun c49_ => ?_)
                · refine lv_aload_n hx hb dL_isSigned_332 rfl (lv_at hl 7 rfl) ?_
                  refine lv_iload hx hb dL_isSigned_333 (lv_at hl 6 rfl) ?_
                  refine lv_iload hx hb dL_isSigned_335 (lv_at hl 5 rfl) ?_
                  refine lv_iload hx hb dL_isSigned_337 (lv_at hl 4 rfl) ?_
                  refine lv_iload hx hb dL_isSigned_339 (lv_at hl 3 rfl) ?_
                  refine lv_iload hx hb dL_isSigned_341 (lv_at hl 2 rfl) ?_
                  refine g_cWi (k2 := 8) (n2 := 1060) (g_runSH (n := 6) (rest := []) hC (w_signTogether hE (nb := nb) (oa := oa) (n := n) (μ := μ) (K := K) (nI ip) (nI jq) kd_ (nI (1 + jv)) (nI jp)) Z_signTogether.1 Z_signTogether.2.1 Z_signTogether.2.2.1 k_526 Z_signTogether.2.2.2 hSI rfl hl.1 dL_isSigned_343 ⟨Nat.le_of_ble_eq_true rfl, Nat.le_of_ble_eq_true rfl⟩ ⟨Nat.le_of_ble_eq_true rfl, Nat.le_of_ble_eq_true rfl⟩ rfl (Nat.le_of_ble_eq_true rfl)) hS (fun q h => h.1) rfl rfl (fun r50_ H lo hw51_ hz_ hk_ hS => ?_)
                  have hA := hA.kept (hk_ nb hA.lt (fun z => z.2 rfl))
                  obtain ⟨er_, hSI⟩ := hw51_.ok (kt_0 (isP_nI hip (by omega)) (isP_nI hjq (by omega)) (dl_n hkd (by omega) (by omega) (by omega)) (fun z => by have := (nI_eq (by omega) (by omega)).mp z; omega) (by omega))
                  rw [← h26_] at hSI
                  have er_ : r50_ = nI (K 2) := er_
                  subst er_
                  refine lv_iload hx hb dL_isSigned_346 (lv_at hl 1 rfl) ?_
                  refine lv_icmp_ne (tgt := 355) hx hb dL_isSigned_348 (by decide) (fun c52_ => ?_) (fun c52_ => ?_)
                  · exact absurd rfl c52_
                  · refine lv_iconst (v := 1) hx hb dL_isSigned_351 (by decide) ?_
                    refine lv_goto (tgt := 356) hx hb dL_isSigned_352 (by decide) ?_
                    exact g_zretW hC hr rfl dL_isSigned_356 hS (Nat.le_of_ble_eq_true rfl) (Nat.le_of_ble_eq_true rfl) ⟨rfl, _, _, _, ⟨hSI.mono (by omega), hA, (hN48_.mono (by omega) (by omega))⟩, h2, h1⟩
                · exact absurd (nI_pos' (by omega)) c49_
              · exact absurd c46_ (by decide)
          · have n24_ : (K 2) = 24 := (nI_eq (by omega) (by omega)).mp c23_
            refine lv_iload hx hb dL_isSigned_137 (lv_at hl 3 rfl) ?_
            refine lv_if_ge (tgt := 157) hx hb dL_isSigned_139 (by decide) (fun c53_ => ?_) (fun c53_ => ?_)
            · refine lv_aload_n hx hb dL_isSigned_157 rfl (lv_at hl 5 rfl) ?_
              refine lv_iload hx hb dL_isSigned_158 (lv_at hl 4 rfl) ?_
              refine lv_iload hx hb dL_isSigned_160 (lv_at hl 3 rfl) ?_
              refine lv_iload hx hb dL_isSigned_162 (lv_at hl 2 rfl) ?_
              refine lv_iload hx hb dL_isSigned_164 (lv_at hl 1 rfl) ?_
              refine lv_iload hx hb dL_isSigned_166 (lv_at hl 0 rfl) ?_
              refine g_cWi (k2 := 8) (n2 := 1060) (g_runSH (n := 6) (rest := []) hC (w_signTogether hE (nb := nb) (oa := oa) (n := n) (μ := μ) (K := K) (nI ip) (nI jq) kd_ (nI (1 + jv)) (nI jp)) Z_signTogether.1 Z_signTogether.2.1 Z_signTogether.2.2.1 k_526 Z_signTogether.2.2.2 hSI rfl hl.1 dL_isSigned_168 ⟨Nat.le_of_ble_eq_true rfl, Nat.le_of_ble_eq_true rfl⟩ ⟨Nat.le_of_ble_eq_true rfl, Nat.le_of_ble_eq_true rfl⟩ rfl (Nat.le_of_ble_eq_true rfl)) hS (fun q h => h.1) rfl rfl (fun r54_ H lo hw55_ hz_ hk_ hS => ?_)
              have hA := hA.kept (hk_ nb hA.lt (fun z => z.2 rfl))
              obtain ⟨er_, hSI⟩ := hw55_.no 3 (kt_4 (isP_nI hip (by omega)) (isP_nI hjq (by omega)) (dl_n hkd (by omega) (by omega) (by omega)) (fun z => by have := (nI_eq (by omega) (by omega)).mp z; omega) (by omega))
              have er_ : r54_ = (-900004 : Int32) := er_
              subst er_
              refine lv_iload hx hb dL_isSigned_171 (lv_at hl 3 rfl) ?_
              refine lv_if_ge (tgt := 181) hx hb dL_isSigned_173 (by decide) (fun c56_ => ?_) (fun c56_ => ?_)
              · refine lv_ldc (own := "SignatoryLaw") (v := -900004) hx hb hC.2.2.2.2.2.1 (gw hC.1 hC.2.1 k_553 rfl) dL_isSigned_181 ?_
                refine lv_icmp_ne (tgt := 190) hx hb dL_isSigned_183 (by decide) (fun c57_ => ?_) (fun c57_ => ?_)
                · exact absurd rfl c57_
                · refine lv_iconst (v := 1) hx hb dL_isSigned_186 (by decide) ?_
                  refine lv_goto (tgt := 191) hx hb dL_isSigned_187 (by decide) ?_
                  exact g_zretW hC hr rfl dL_isSigned_191 hS (Nat.le_of_ble_eq_true rfl) (Nat.le_of_ble_eq_true rfl) ⟨rfl, _, _, _, ⟨hSI.mono (by omega), hA, (hN.mono (by omega) (by omega))⟩, h2, h1⟩
              · exact absurd (nI_pos' (by omega)) c56_
            · exact absurd (nI_pos' (by omega)) c53_
        · have n22_ : ip = jq := (nI_eq (by omega) (by omega)).mp c21_
          refine lv_aload_n hx hb dL_isSigned_104 rfl (lv_at hl 5 rfl) ?_
          refine lv_iload hx hb dL_isSigned_105 (lv_at hl 4 rfl) ?_
          refine lv_iload hx hb dL_isSigned_107 (lv_at hl 3 rfl) ?_
          refine lv_iload hx hb dL_isSigned_109 (lv_at hl 2 rfl) ?_
          refine lv_iload hx hb dL_isSigned_111 (lv_at hl 1 rfl) ?_
          refine lv_iload hx hb dL_isSigned_113 (lv_at hl 0 rfl) ?_
          refine g_cWi (k2 := 8) (n2 := 1060) (g_runSH (n := 6) (rest := []) hC (w_signTogether hE (nb := nb) (oa := oa) (n := n) (μ := μ) (K := K) (nI ip) (nI jq) kd_ (nI (1 + jv)) (nI jp)) Z_signTogether.1 Z_signTogether.2.1 Z_signTogether.2.2.1 k_526 Z_signTogether.2.2.2 hSI rfl hl.1 dL_isSigned_115 ⟨Nat.le_of_ble_eq_true rfl, Nat.le_of_ble_eq_true rfl⟩ ⟨Nat.le_of_ble_eq_true rfl, Nat.le_of_ble_eq_true rfl⟩ rfl (Nat.le_of_ble_eq_true rfl)) hS (fun q h => h.1) rfl rfl (fun r58_ H lo hw59_ hz_ hk_ hS => ?_)
          have hA := hA.kept (hk_ nb hA.lt (fun z => z.2 rfl))
          obtain ⟨er_, hSI⟩ := hw59_.no 2 (kt_3 (isP_nI hip (by omega)) (isP_nI hjq (by omega)) (dl_n hkd (by omega) (by omega) (by omega)) (congrArg nI (by omega)))
          have er_ : r58_ = (-900003 : Int32) := er_
          subst er_
          refine lv_ldc (own := "SignatoryLaw") (v := -900003) hx hb hC.2.2.2.2.2.1 (gw hC.1 hC.2.1 k_525 rfl) dL_isSigned_118 ?_
          refine lv_icmp_ne (tgt := 127) hx hb dL_isSigned_120 (by decide) (fun c60_ => ?_) (fun c60_ => ?_)
          · exact absurd rfl c60_
          · refine lv_iconst (v := 1) hx hb dL_isSigned_123 (by decide) ?_
            refine lv_goto (tgt := 128) hx hb dL_isSigned_124 (by decide) ?_
            exact g_zretW hC hr rfl dL_isSigned_128 hS (Nat.le_of_ble_eq_true rfl) (Nat.le_of_ble_eq_true rfl) ⟨rfl, _, _, _, ⟨hSI.mono (by omega), hA, (hN.mono (by omega) (by omega))⟩, h2, h1⟩
      · refine lv_if_ne (tgt := 77) hx hb dL_isSigned_68 (by decide) (fun c61_ => ?_) (fun c61_ => ?_)
        · have q62_ : ¬ jl = 0 := fun z => c61_ (congrArg nI z)
          refine lv_sipush (v := 900) hx hb dL_isSigned_77 (by decide) ?_
          exact J15_ _ ⟨900, by omega, by omega, rfl⟩
        · have q62_ : jl = 0 := (nI_eq (by omega) (by omega)).mp c61_
          refine lv_sipush (v := 9999) hx hb dL_isSigned_71 (by decide) ?_
          refine lv_goto (tgt := 80) hx hb dL_isSigned_74 (by decide) ?_
          exact J15_ _ ⟨9999, by omega, by omega, rfl⟩
    · refine lv_if_ne (tgt := 52) hx hb dL_isSigned_45 (by decide) (fun c63_ => ?_) (fun c63_ => ?_)
      · have q64_ : ¬ jk = 0 := fun z => c63_ (congrArg nI z)
        refine lv_iconst (v := 0) hx hb dL_isSigned_52 (by decide) ?_
        exact J11_ _ (Or.inl rfl)
      · have q64_ : jk = 0 := (nI_eq (by omega) (by omega)).mp c63_
        refine lv_iconst (v := 1) hx hb dL_isSigned_48 (by decide) ?_
        refine lv_goto (tgt := 53) hx hb dL_isSigned_49 (by decide) ?_
        exact J11_ _ (Or.inr rfl)
  · have q6_ : ja = 0 := (nI_eq (by omega) (by omega)).mp c5_
    refine lv_iconst (v := (-1)) hx hb dL_isSigned_21 (by decide) ?_
    refine lv_goto (tgt := 35) hx hb dL_isSigned_22 (by decide) ?_
    refine lv_istore (lv' := [(5, .int ((-1))), (4, .int (nI ip)), (0, .ref oa), (1, .ref nb), (2, .ref b), (3, .int (nI i))]) hx hb dL_isSigned_35 hl (by decide) rfl (fun ls hl => ?_)
    refine lv_aload_n hx hb dL_isSigned_37 rfl (lv_at hl 4 rfl) ?_
    refine lv_iload_n hx hb dL_isSigned_38 rfl (lv_at hl 5 rfl) ?_
    refine lv_iconst (v := 3) hx hb dL_isSigned_39 (by decide) ?_
    refine g_naddn (a := i) (b := 3) hx hb dL_isSigned_40 ?_
    refine lv_iconst (v := 5) hx hb dL_isSigned_41 (by decide) ?_
    refine g_cRi (k2 := 0) (n2 := 0) (g_runS (rest := []) hC (c_L_in hE hX hbl hL (i + 3) (5) (by omega) (by omega) (by omega)) Y_L_in k_654 S_L_in hSI.frz rfl hl.1 dL_isSigned_42 ⟨Nat.le_of_ble_eq_true rfl, Nat.le_of_ble_eq_true rfl⟩ ⟨Nat.le_of_ble_eq_true rfl, Nat.le_of_ble_eq_true rfl⟩ rfl (Nat.le_of_ble_eq_true rfl)) rfl rfl g_no (fun r65_ h66_ => ?_)
    obtain ⟨jk, hjk, rfl⟩ := h66_
    refine g_join (pc1 := 53) (rest := []) (P := fun x => x = 0 ∨ x = 1) (fun kd_ hx68_ => ?_) (fun J67_ => ?_)
    · have hkd := hx68_
      refine lv_istore (lv' := [(6, .int kd_), (5, .int ((-1))), (4, .int (nI ip)), (0, .ref oa), (1, .ref nb), (2, .ref b), (3, .int (nI i))]) hx hb dL_isSigned_53 hl (by decide) rfl (fun ls hl => ?_)
      refine lv_iconst (v := 1) hx hb dL_isSigned_55 (by decide) ?_
      refine lv_aload_n hx hb dL_isSigned_56 rfl (lv_at hl 5 rfl) ?_
      refine lv_iload_n hx hb dL_isSigned_57 rfl (lv_at hl 6 rfl) ?_
      refine lv_iconst (v := 4) hx hb dL_isSigned_58 (by decide) ?_
      refine g_naddn (a := i) (b := 4) hx hb dL_isSigned_59 ?_
      refine lv_aload_n hx hb dL_isSigned_60 rfl (lv_at hl 5 rfl) ?_
      refine lv_iload_n hx hb dL_isSigned_61 rfl (lv_at hl 6 rfl) ?_
      refine lv_iconst (v := 5) hx hb dL_isSigned_62 (by decide) ?_
      refine g_naddn (a := i) (b := 5) hx hb dL_isSigned_63 ?_
      refine lv_iconst (v := 4) hx hb dL_isSigned_64 (by decide) ?_
      refine g_cRi (k2 := 0) (n2 := 0) (g_runS (rest := [.int (nI (i + 4)), .ref b, .int 1]) hC (c_L_in hE hX hbl hL (i + 5) (4) (by omega) (by omega) (by omega)) Y_L_in k_654 S_L_in hSI.frz rfl hl.1 dL_isSigned_65 ⟨Nat.le_of_ble_eq_true rfl, Nat.le_of_ble_eq_true rfl⟩ ⟨Nat.le_of_ble_eq_true rfl, Nat.le_of_ble_eq_true rfl⟩ rfl (Nat.le_of_ble_eq_true rfl)) rfl rfl g_no (fun r69_ h70_ => ?_)
      obtain ⟨jl, hjl, rfl⟩ := h70_
      refine g_join (pc1 := 80) (rest := [.int (nI (i + 4)), .ref b, .int 1]) (P := fun x => ∃ q : Nat, 1 ≤ q ∧ q ≤ 9999 ∧ x = nI q) (fun x_ hx72_ => ?_) (fun J71_ => ?_)
      · obtain ⟨lm, hlm1, hlm2, rfl⟩ := hx72_
        refine g_cRi (k2 := 0) (n2 := 0) (g_runS (rest := [.int 1]) hC (c_L_in hE hX hbl hL (i + 4) (lm) (by omega) (by omega) (by omega)) Y_L_in k_654 S_L_in hSI.frz rfl hl.1 dL_isSigned_80 ⟨Nat.le_of_ble_eq_true rfl, Nat.le_of_ble_eq_true rfl⟩ ⟨Nat.le_of_ble_eq_true rfl, Nat.le_of_ble_eq_true rfl⟩ rfl (Nat.le_of_ble_eq_true rfl)) rfl rfl g_no (fun r73_ h74_ => ?_)
        obtain ⟨jv, hjv, rfl⟩ := h74_
        refine g_naddn (a := 1) (b := jv) hx hb dL_isSigned_83 ?_
        refine lv_istore (lv' := [(7, .int (nI (1 + jv))), (6, .int kd_), (5, .int ((-1))), (4, .int (nI ip)), (0, .ref oa), (1, .ref nb), (2, .ref b), (3, .int (nI i))]) hx hb dL_isSigned_84 hl (by decide) rfl (fun ls hl => ?_)
        refine lv_aload_n hx hb dL_isSigned_86 rfl (lv_at hl 6 rfl) ?_
        refine lv_iload_n hx hb dL_isSigned_87 rfl (lv_at hl 7 rfl) ?_
        refine lv_bipush (v := 6) hx hb dL_isSigned_88 (by decide) ?_
        refine g_naddn (a := i) (b := 6) hx hb dL_isSigned_90 ?_
        refine lv_iconst (v := 3) hx hb dL_isSigned_91 (by decide) ?_
        refine g_cRi (k2 := 0) (n2 := 0) (g_runS (rest := []) hC (c_L_in hE hX hbl hL (i + 6) (3) (by omega) (by omega) (by omega)) Y_L_in k_654 S_L_in hSI.frz rfl hl.1 dL_isSigned_92 ⟨Nat.le_of_ble_eq_true rfl, Nat.le_of_ble_eq_true rfl⟩ ⟨Nat.le_of_ble_eq_true rfl, Nat.le_of_ble_eq_true rfl⟩ rfl (Nat.le_of_ble_eq_true rfl)) rfl rfl g_no (fun r75_ h76_ => ?_)
        obtain ⟨jp, hjp, rfl⟩ := h76_
        refine lv_istore (lv' := [(8, .int (nI jp)), (7, .int (nI (1 + jv))), (6, .int kd_), (5, .int ((-1))), (4, .int (nI ip)), (0, .ref oa), (1, .ref nb), (2, .ref b), (3, .int (nI i))]) hx hb dL_isSigned_95 hl (by decide) rfl (fun ls hl => ?_)
        refine lv_iload hx hb dL_isSigned_97 (lv_at hl 4 rfl) ?_
        refine lv_iload hx hb dL_isSigned_99 (lv_at hl 3 rfl) ?_
        refine lv_icmp_ne (tgt := 129) hx hb dL_isSigned_101 (by decide) (fun c77_ => ?_) (fun c77_ => ?_)
        · refine lv_aload_n hx hb dL_isSigned_129 rfl (lv_at hl 6 rfl) ?_
          refine lv_iconst (v := 2) hx hb dL_isSigned_130 (by decide) ?_
          refine g_iald (n := 450) (f := f) (j := 2) hC hA (by omega) (by decide) dL_isSigned_131 ?_
          rw [show f (2) = nI (K 2) from hN.k2]
          refine lv_bipush (v := 24) hx hb dL_isSigned_132 (by decide) ?_
          refine lv_icmp_ne (tgt := 192) hx hb dL_isSigned_134 (by decide) (fun c78_ => ?_) (fun c78_ => ?_)
          · have n79_ : ¬ (K 2) = 24 := fun z => c78_ (congrArg nI z)
            refine lv_aload_n hx hb dL_isSigned_192 rfl (lv_at hl 6 rfl) ?_
            refine lv_iconst (v := 2) hx hb dL_isSigned_193 (by decide) ?_
            refine g_iald (n := 450) (f := f) (j := 2) hC hA (by omega) (by decide) dL_isSigned_194 ?_
            rw [show f (2) = nI (K 2) from hN.k2]
            refine lv_istore (lv' := [(9, .int (nI (K 2))), (8, .int (nI jp)), (7, .int (nI (1 + jv))), (6, .int kd_), (5, .int ((-1))), (4, .int (nI ip)), (0, .ref oa), (1, .ref nb), (2, .ref b), (3, .int (nI i))]) hx hb dL_isSigned_195 hl (by decide) rfl (fun ls hl => ?_)
            refine lv_sipush (v := 200) hx hb dL_isSigned_197 (by decide) ?_
            refine lv_bipush (v := 10) hx hb dL_isSigned_200 (by decide) ?_
            refine lv_iload hx hb dL_isSigned_202 (lv_at hl 0 rfl) ?_
            refine g_nmuln (a := 10) (b := K 2) hx hb dL_isSigned_204 ?_
            refine g_naddn (a := 200) (b := 10 * (K 2)) hx hb dL_isSigned_205 ?_
            refine lv_istore (lv' := [(10, .int (nI (200 + 10 * (K 2)))), (9, .int (nI (K 2))), (8, .int (nI jp)), (7, .int (nI (1 + jv))), (6, .int kd_), (5, .int ((-1))), (4, .int (nI ip)), (0, .ref oa), (1, .ref nb), (2, .ref b), (3, .int (nI i))]) hx hb dL_isSigned_206 hl (by decide) rfl (fun ls hl => ?_)
            refine lv_aload_n hx hb dL_isSigned_208 rfl (lv_at hl 8 rfl) ?_
            refine lv_iload hx hb dL_isSigned_209 (lv_at hl 0 rfl) ?_
            refine lv_iconst (v := 4) hx hb dL_isSigned_211 (by decide) ?_
            refine g_naddn (a := 200 + 10 * (K 2)) (b := 4) hx hb dL_isSigned_212 ?_
            refine lv_aload_n hx hb dL_isSigned_213 rfl (lv_at hl 8 rfl) ?_
            refine lv_iload hx hb dL_isSigned_214 (lv_at hl 4 rfl) ?_
            refine lv_iload hx hb dL_isSigned_216 (lv_at hl 3 rfl) ?_
            refine lv_iload hx hb dL_isSigned_218 (lv_at hl 2 rfl) ?_
            refine g_cRi (k2 := 0) (n2 := 0) (g_runS (rest := [.int (nI (200 + 10 * (K 2) + 4)), .ref nb]) hC (c_L_added hE (nb := nb) hN hU kd_ (nI (1 + jv)) (nI jp)) Y_L_added k_906 S_L_added hA rfl hl.1 dL_isSigned_220 ⟨Nat.le_of_ble_eq_true rfl, Nat.le_of_ble_eq_true rfl⟩ ⟨Nat.le_of_ble_eq_true rfl, Nat.le_of_ble_eq_true rfl⟩ rfl (Nat.le_of_ble_eq_true rfl)) rfl rfl g_no (fun r80_ h81_ => ?_)
            refine g_iast (n := 450) (f := f) (j := 200 + 10 * (K 2) + 4) (x := r80_) hC hA hS hnb (by omega) (by decide) dL_isSigned_223 (fun H lo hA hz_ ho_ hS => ?_)
            have hSI := hSI.netw hnb hz_ ho_
            have hA : gNet E nb (upd f (200 + 10 * (K 2) + 4) r80_) H := hA
            refine lv_aload_n hx hb dL_isSigned_224 rfl (lv_at hl 8 rfl) ?_
            refine lv_iload hx hb dL_isSigned_225 (lv_at hl 0 rfl) ?_
            refine lv_iload hx hb dL_isSigned_227 (lv_at hl 4 rfl) ?_
            refine g_iast (n := 450) (f := (upd f (200 + 10 * (K 2) + 4) r80_)) (j := 200 + 10 * (K 2)) (x := kd_) hC hA hS hnb (by omega) (by decide) dL_isSigned_229 (fun H lo hA hz_ ho_ hS => ?_)
            have hSI := hSI.netw hnb hz_ ho_
            have hA : gNet E nb (upd (upd f (200 + 10 * (K 2) + 4) r80_) (200 + 10 * (K 2)) kd_) H := hA
            refine lv_aload_n hx hb dL_isSigned_230 rfl (lv_at hl 8 rfl) ?_
            refine lv_iload hx hb dL_isSigned_231 (lv_at hl 0 rfl) ?_
            refine lv_iconst (v := 1) hx hb dL_isSigned_233 (by decide) ?_
            refine g_naddn (a := 200 + 10 * (K 2)) (b := 1) hx hb dL_isSigned_234 ?_
            refine lv_iload hx hb dL_isSigned_235 (lv_at hl 3 rfl) ?_
            refine g_iast (n := 450) (f := (upd (upd f (200 + 10 * (K 2) + 4) r80_) (200 + 10 * (K 2)) kd_)) (j := 200 + 10 * (K 2) + 1) (x := nI (1 + jv)) hC hA hS hnb (by omega) (by decide) dL_isSigned_237 (fun H lo hA hz_ ho_ hS => ?_)
            have hSI := hSI.netw hnb hz_ ho_
            have hA : gNet E nb (upd (upd (upd f (200 + 10 * (K 2) + 4) r80_) (200 + 10 * (K 2)) kd_) (200 + 10 * (K 2) + 1) (nI (1 + jv))) H := hA
            refine lv_aload_n hx hb dL_isSigned_238 rfl (lv_at hl 8 rfl) ?_
            refine lv_iload hx hb dL_isSigned_239 (lv_at hl 0 rfl) ?_
            refine lv_iconst (v := 2) hx hb dL_isSigned_241 (by decide) ?_
            refine g_naddn (a := 200 + 10 * (K 2)) (b := 2) hx hb dL_isSigned_242 ?_
            refine lv_iload hx hb dL_isSigned_243 (lv_at hl 2 rfl) ?_
            refine g_iast (n := 450) (f := (upd (upd (upd f (200 + 10 * (K 2) + 4) r80_) (200 + 10 * (K 2)) kd_) (200 + 10 * (K 2) + 1) (nI (1 + jv)))) (j := 200 + 10 * (K 2) + 2) (x := nI jp) hC hA hS hnb (by omega) (by decide) dL_isSigned_245 (fun H lo hA hz_ ho_ hS => ?_)
            have hSI := hSI.netw hnb hz_ ho_
            have hA : gNet E nb (upd (upd (upd (upd f (200 + 10 * (K 2) + 4) r80_) (200 + 10 * (K 2)) kd_) (200 + 10 * (K 2) + 1) (nI (1 + jv))) (200 + 10 * (K 2) + 2) (nI jp)) H := hA
            refine lv_aload_n hx hb dL_isSigned_246 rfl (lv_at hl 8 rfl) ?_
            refine lv_iload hx hb dL_isSigned_247 (lv_at hl 0 rfl) ?_
            refine lv_iconst (v := 3) hx hb dL_isSigned_249 (by decide) ?_
            refine g_naddn (a := 200 + 10 * (K 2)) (b := 3) hx hb dL_isSigned_250 ?_
            refine lv_aload_n hx hb dL_isSigned_251 rfl (lv_at hl 8 rfl) ?_
            refine lv_iconst (v := 3) hx hb dL_isSigned_252 (by decide) ?_
            refine g_iald (n := 450) (f := (upd (upd (upd (upd f (200 + 10 * (K 2) + 4) r80_) (200 + 10 * (K 2)) kd_) (200 + 10 * (K 2) + 1) (nI (1 + jv))) (200 + 10 * (K 2) + 2) (nI jp))) (j := 3) hC hA (by omega) (by decide) dL_isSigned_253 ?_
            rw [show (upd (upd (upd (upd f (200 + 10 * (K 2) + 4) r80_) (200 + 10 * (K 2)) kd_) (200 + 10 * (K 2) + 1) (nI (1 + jv))) (200 + 10 * (K 2) + 2) (nI jp)) (3) = nI td from by rw [upd_n _ _ (by omega), upd_n _ _ (by omega), upd_n _ _ (by omega), upd_n _ _ (by omega)]; exact hd3]
            refine g_iast (n := 450) (f := (upd (upd (upd (upd f (200 + 10 * (K 2) + 4) r80_) (200 + 10 * (K 2)) kd_) (200 + 10 * (K 2) + 1) (nI (1 + jv))) (200 + 10 * (K 2) + 2) (nI jp))) (j := 200 + 10 * (K 2) + 3) (x := nI td) hC hA hS hnb (by omega) (by decide) dL_isSigned_254 (fun H lo hA hz_ ho_ hS => ?_)
            have hSI := hSI.netw hnb hz_ ho_
            have hA : gNet E nb (upd (upd (upd (upd (upd f (200 + 10 * (K 2) + 4) r80_) (200 + 10 * (K 2)) kd_) (200 + 10 * (K 2) + 1) (nI (1 + jv))) (200 + 10 * (K 2) + 2) (nI jp)) (200 + 10 * (K 2) + 3) (nI td)) H := hA
            have hN83_ : NL (upd (upd (upd (upd (upd f (200 + 10 * (K 2) + 4) r80_) (200 + 10 * (K 2)) kd_) (200 + 10 * (K 2) + 1) (nI (1 + jv))) (200 + 10 * (K 2) + 2) (nI jp)) (200 + 10 * (K 2) + 3) (nI td)) μ K D := ((((hN.free (by omega) _).free (by omega) _).free (by omega) _).free (by omega) _).free (by omega) _
            obtain ⟨g82_, eg82_⟩ : ∃ g_, g_ = (upd (upd (upd (upd (upd f (200 + 10 * (K 2) + 4) r80_) (200 + 10 * (K 2)) kd_) (200 + 10 * (K 2) + 1) (nI (1 + jv))) (200 + 10 * (K 2) + 2) (nI jp)) (200 + 10 * (K 2) + 3) (nI td)) := ⟨_, rfl⟩
            rw [← eg82_] at hN83_ hA
            have u1 : ∀ z, (z < 200 + 10 * K 2 ∨ 208 + 10 * K 2 < z) → g82_ z = f z := fun z hz => by rw [eg82_, upd_n _ _ (by omega), upd_n _ _ (by omega), upd_n _ _ (by omega), upd_n _ _ (by omega), upd_n _ _ (by omega)]
            have a0 : g82_ (200 + 10 * K 2) = kd_ := by rw [eg82_, upd_n _ _ (by omega), upd_n _ _ (by omega), upd_n _ _ (by omega), upd_s]
            have a1 : g82_ (201 + 10 * K 2) = nI (1 + jv) := by rw [eg82_, upd_n _ _ (by omega), upd_n _ _ (by omega), show 201 + 10 * K 2 = 200 + 10 * K 2 + 1 by omega, upd_s]
            have a2 : g82_ (202 + 10 * K 2) = nI jp := by rw [eg82_, upd_n _ _ (by omega), show 202 + 10 * K 2 = 200 + 10 * K 2 + 2 by omega, upd_s]
            have a3 : g82_ (203 + 10 * K 2) = nI td := by rw [eg82_, show 203 + 10 * K 2 = 200 + 10 * K 2 + 3 by omega, upd_s]
            have a4 : g82_ (204 + 10 * K 2) = r80_ := by rw [eg82_, upd_n _ _ (by omega), upd_n _ _ (by omega), upd_n _ _ (by omega), upd_n _ _ (by omega), show 204 + 10 * K 2 = 200 + 10 * K 2 + 4 by omega, upd_s]
            refine lv_aload_n hx hb dL_isSigned_255 rfl (lv_at hl 8 rfl) ?_
            refine lv_iload hx hb dL_isSigned_256 (lv_at hl 0 rfl) ?_
            refine lv_iconst (v := 5) hx hb dL_isSigned_258 (by decide) ?_
            refine g_naddn (a := 200 + 10 * (K 2)) (b := 5) hx hb dL_isSigned_259 ?_
            refine lv_aload_n hx hb dL_isSigned_260 rfl (lv_at hl 8 rfl) ?_
            refine lv_iload hx hb dL_isSigned_261 (lv_at hl 6 rfl) ?_
            refine lv_iload hx hb dL_isSigned_263 (lv_at hl 5 rfl) ?_
            refine lv_iload hx hb dL_isSigned_265 (lv_at hl 4 rfl) ?_
            refine lv_aload_n hx hb dL_isSigned_267 rfl (lv_at hl 8 rfl) ?_
            refine lv_iload hx hb dL_isSigned_268 (lv_at hl 0 rfl) ?_
            refine lv_iconst (v := 4) hx hb dL_isSigned_270 (by decide) ?_
            refine g_naddn (a := 200 + 10 * (K 2)) (b := 4) hx hb dL_isSigned_271 ?_
            refine g_iald (n := 450) (f := g82_) (j := 200 + 10 * (K 2) + 4) hC hA (by omega) (by decide) dL_isSigned_272 ?_
            rw [show g82_ (200 + 10 * (K 2) + 4) = r80_ from (by rw [show 200 + 10 * (K 2) + 4 = 204 + 10 * (K 2) by omega]; exact a4)]
            refine g_cRi (k2 := 0) (n2 := 0) (g_runS (rest := [.int (nI (200 + 10 * (K 2) + 5)), .ref nb]) hC (c_L_can1 hE (nb := nb) hN83_ hU ip kd_ r80_ (by omega)) Y_L_can k_909 S_L_can hA rfl hl.1 dL_isSigned_273 ⟨Nat.le_of_ble_eq_true rfl, Nat.le_of_ble_eq_true rfl⟩ ⟨Nat.le_of_ble_eq_true rfl, Nat.le_of_ble_eq_true rfl⟩ rfl (Nat.le_of_ble_eq_true rfl)) rfl rfl g_no (fun r84_ h85_ => ?_)
            refine lv_if_eq (tgt := 283) hx hb dL_isSigned_276 (by decide) (fun c86_ => ?_) (fun c86_ => ?_)
            · have q87_ := bz.f h85_ c86_
              have hmk := bz.f h85_ c86_
              refine lv_iconst (v := 1) hx hb dL_isSigned_283 (by decide) ?_
              refine g_iast (n := 450) (f := g82_) (j := 200 + 10 * (K 2) + 5) (x := 1) hC hA hS hnb (by omega) (by decide) dL_isSigned_284 (fun H lo hA hz_ ho_ hS => ?_)
              have hSI := hSI.netw hnb hz_ ho_
              have hA : gNet E nb (upd g82_ (200 + 10 * (K 2) + 5) 1) H := hA
              have hN89_ : NL (upd g82_ (200 + 10 * (K 2) + 5) 1) μ K D := hN83_.free (by omega) _
              obtain ⟨g88_, eg88_⟩ : ∃ g_, g_ = (upd g82_ (200 + 10 * (K 2) + 5) 1) := ⟨_, rfl⟩
              rw [← eg88_] at hN89_ hA
              have u2 : ∀ z, (z < 200 + 10 * K 2 ∨ 208 + 10 * K 2 < z) → g88_ z = f z := fun z hz => by rw [eg88_, upd_n _ _ (by omega)]; exact u1 z hz
              have b0 : g88_ (200 + 10 * K 2) = kd_ := by rw [eg88_, upd_n _ _ (by omega)]; exact a0
              have b1 : g88_ (201 + 10 * K 2) = nI (1 + jv) := by rw [eg88_, upd_n _ _ (by omega)]; exact a1
              have b2 : g88_ (202 + 10 * K 2) = nI jp := by rw [eg88_, upd_n _ _ (by omega)]; exact a2
              have b3 : g88_ (203 + 10 * K 2) = nI td := by rw [eg88_, upd_n _ _ (by omega)]; exact a3
              have b4 : g88_ (204 + 10 * K 2) = r80_ := by rw [eg88_, upd_n _ _ (by omega)]; exact a4
              have b5 : g88_ (205 + 10 * K 2) = 1 := by rw [eg88_, show 205 + 10 * K 2 = 200 + 10 * K 2 + 5 by omega, upd_s]
              refine lv_aload_n hx hb dL_isSigned_285 rfl (lv_at hl 8 rfl) ?_
              refine lv_iload hx hb dL_isSigned_286 (lv_at hl 0 rfl) ?_
              refine lv_iconst (v := 5) hx hb dL_isSigned_288 (by decide) ?_
              refine g_naddn (a := 200 + 10 * (K 2)) (b := 5) hx hb dL_isSigned_289 ?_
              refine g_iald (n := 450) (f := g88_) (j := 200 + 10 * (K 2) + 5) hC hA (by omega) (by decide) dL_isSigned_290 ?_
              rw [show g88_ (200 + 10 * (K 2) + 5) = 1 from (by rw [show 200 + 10 * (K 2) + 5 = 205 + 10 * (K 2) by omega]; exact b5)]
              refine lv_iconst (v := 1) hx hb dL_isSigned_291 (by decide) ?_
              refine lv_icmp_ne (tgt := 305) hx hb dL_isSigned_292 (by decide) (fun c90_ => ?_) (fun c90_ => ?_)
              · exact absurd rfl c90_
              · refine lv_aload_n hx hb dL_isSigned_295 rfl (lv_at hl 8 rfl) ?_
                refine lv_iload hx hb dL_isSigned_296 (lv_at hl 1 rfl) ?_
                refine lv_iload hx hb dL_isSigned_298 (lv_at hl 6 rfl) ?_
                refine lv_iload hx hb dL_isSigned_300 (lv_at hl 5 rfl) ?_
                refine g_cWv (k2 := 0) (n2 := 0) (g_runS (rest := []) hC (c_L_lays1 hE (nb := nb) hN89_ hU ip kd_ r80_ (by omega) (by omega) b0 b4) Y_L_lays k_912 S_L_lays hA rfl hl.1 dL_isSigned_302 ⟨Nat.le_of_ble_eq_true rfl, Nat.le_of_ble_eq_true rfl⟩ ⟨Nat.le_of_ble_eq_true rfl, Nat.le_of_ble_eq_true rfl⟩ rfl (Nat.le_of_ble_eq_true rfl)) hS (fun q h => by rw [h]; exact hnb) rfl rfl (fun H lo h92_ hz_ hk_ hS => ?_)
                obtain ⟨g3_, hA, hN3_, hu3, hch3⟩ := h92_
                have hSI := hSI.netk hnb hz_ hk_
                have u2 : ∀ z, (z < 200 + 10 * K 2 ∨ 208 + 10 * K 2 < z) → g3_ z = f z := fun z hz => (hu3 z (by omega) (by omega) (by omega)).trans (u2 z hz)
                have b0 := (hu3 (200 + 10 * K 2) (by omega) (by omega) (by omega)).trans b0
                have b1 := (hu3 (201 + 10 * K 2) (by omega) (by omega) (by omega)).trans b1
                have b2 := (hu3 (202 + 10 * K 2) (by omega) (by omega) (by omega)).trans b2
                have b3 := (hu3 (203 + 10 * K 2) (by omega) (by omega) (by omega)).trans b3
                have b4 := (hu3 (204 + 10 * K 2) (by omega) (by omega) (by omega)).trans b4
                have b5 := (hu3 (205 + 10 * K 2) (by omega) (by omega) (by omega)).trans b5
                refine lv_aload_n hx hb dL_isSigned_305 rfl (lv_at hl 8 rfl) ?_
                refine lv_iconst (v := 2) hx hb dL_isSigned_306 (by decide) ?_
                refine lv_dup2_11 hx hb dL_isSigned_307 rfl rfl ?_
                refine g_iald (n := 450) (f := g3_) (j := 2) hC hA (by omega) (by decide) dL_isSigned_308 ?_
                rw [show g3_ (2) = nI (K 2) from hN3_.k2]
                refine lv_iconst (v := 1) hx hb dL_isSigned_309 (by decide) ?_
                refine g_naddn (a := K 2) (b := 1) hx hb dL_isSigned_310 ?_
                refine g_iast (n := 450) (f := g3_) (j := 2) (x := nI (K 2 + 1)) hC hA hS hnb (by omega) (by decide) dL_isSigned_311 (fun H lo hA hz_ ho_ hS => ?_)
                have hSI := hSI.netw hnb hz_ ho_
                have hA : gNet E nb (upd g3_ (2) (nI (K 2 + 1))) H := hA
                have hN94_ : NL (upd g3_ (2) (nI (K 2 + 1))) (mSig μ (K 1) (K 2) (nI ip) (-1) kd_ (nI (1 + jv)) (nI jp) r80_) (updN K 2 (K 2 + 1)) D := hN.deedB hU (by omega) hmk (fun z z1 hz => by rw [upd_n _ _ z1]; exact u2 z hz) (upd_s _ _ _) (by rw [upd_n _ _ (by omega)]; exact b0) (by rw [upd_n _ _ (by omega)]; exact b1) (by rw [upd_n _ _ (by omega)]; exact b2) (by rw [upd_n _ _ (by omega)]; exact b3.trans hd3.symm) (by rw [upd_n _ _ (by omega)]; exact b4) (by rw [upd_n _ _ (by omega)]; exact b5) (by rw [upd_n _ _ (by omega), upd_n _ _ (by omega), upd_n _ _ (by omega)]; exact hch3)
                obtain ⟨g93_, eg93_⟩ : ∃ g_, g_ = (upd g3_ (2) (nI (K 2 + 1))) := ⟨_, rfl⟩
                rw [← eg93_] at hN94_ hA
                refine lv_iload hx hb dL_isSigned_312 (lv_at hl 5 rfl) ?_
                refine lv_if_ge (tgt := 332) hx hb dL_isSigned_314 (by decide) (fun c95_ => ?_) (fun c95_ => ?_)
                · exact absurd c95_ (by decide)
                · refine lv_aload_n hx hb dL_isSigned_317 rfl (lv_at hl 7 rfl) ?_
                  refine lv_iload hx hb dL_isSigned_318 (lv_at hl 6 rfl) ?_
                  refine lv_iload hx hb dL_isSigned_320 (lv_at hl 4 rfl) ?_
                  refine lv_iload hx hb dL_isSigned_322 (lv_at hl 3 rfl) ?_
                  refine lv_iload hx hb dL_isSigned_324 (lv_at hl 2 rfl) ?_
                  refine g_cWi (k2 := 8) (n2 := 1060) (g_runSH (n := 5) (rest := []) hC (w_sign hE (nb := nb) (oa := oa) (n := n) (μ := μ) (K := K) (nI ip) kd_ (nI (1 + jv)) (nI jp)) Z_sign.1 Z_sign.2.1 Z_sign.2.2.1 k_270 Z_sign.2.2.2 hSI rfl hl.1 dL_isSigned_326 ⟨Nat.le_of_ble_eq_true rfl, Nat.le_of_ble_eq_true rfl⟩ ⟨Nat.le_of_ble_eq_true rfl, Nat.le_of_ble_eq_true rfl⟩ rfl (Nat.le_of_ble_eq_true rfl)) hS (fun q h => h.1) rfl rfl (fun r96_ H lo hw97_ hz_ hk_ hS => ?_)
                  have hA := hA.kept (hk_ nb hA.lt (fun z => z.2 rfl))
                  obtain ⟨er_, hSI⟩ := hw97_.ok (kz_0 (isP_nI hip (by omega)) (dl_n hkd (by omega) (by omega) (by omega)) (by omega))
                  rw [← h81_] at hSI
                  have er_ : r96_ = nI (K 2) := er_
                  subst er_
                  refine lv_goto (tgt := 346) hx hb dL_isSigned_329 (by decide) ?_
                  refine lv_iload hx hb dL_isSigned_346 (lv_at hl 1 rfl) ?_
                  refine lv_icmp_ne (tgt := 355) hx hb dL_isSigned_348 (by decide) (fun c98_ => ?_) (fun c98_ => ?_)
                  · exact absurd rfl c98_
                  · refine lv_iconst (v := 1) hx hb dL_isSigned_351 (by decide) ?_
                    refine lv_goto (tgt := 356) hx hb dL_isSigned_352 (by decide) ?_
                    exact g_zretW hC hr rfl dL_isSigned_356 hS (Nat.le_of_ble_eq_true rfl) (Nat.le_of_ble_eq_true rfl) ⟨rfl, _, _, _, ⟨hSI.mono (by omega), hA, (hN94_.mono (by omega) (by omega))⟩, h2, h1⟩
            · have q87_ := bz.t h85_ c86_
              have hmk := bz.t h85_ c86_
              refine lv_iconst (v := 0) hx hb dL_isSigned_279 (by decide) ?_
              refine lv_goto (tgt := 284) hx hb dL_isSigned_280 (by decide) ?_
              refine g_iast (n := 450) (f := g82_) (j := 200 + 10 * (K 2) + 5) (x := 0) hC hA hS hnb (by omega) (by decide) dL_isSigned_284 (fun H lo hA hz_ ho_ hS => ?_)
              have hSI := hSI.netw hnb hz_ ho_
              have hA : gNet E nb (upd g82_ (200 + 10 * (K 2) + 5) 0) H := hA
              have hN100_ : NL (upd g82_ (200 + 10 * (K 2) + 5) 0) μ K D := hN83_.free (by omega) _
              obtain ⟨g99_, eg99_⟩ : ∃ g_, g_ = (upd g82_ (200 + 10 * (K 2) + 5) 0) := ⟨_, rfl⟩
              rw [← eg99_] at hN100_ hA
              have u2 : ∀ z, (z < 200 + 10 * K 2 ∨ 208 + 10 * K 2 < z) → g99_ z = f z := fun z hz => by rw [eg99_, upd_n _ _ (by omega)]; exact u1 z hz
              have b0 : g99_ (200 + 10 * K 2) = kd_ := by rw [eg99_, upd_n _ _ (by omega)]; exact a0
              have b1 : g99_ (201 + 10 * K 2) = nI (1 + jv) := by rw [eg99_, upd_n _ _ (by omega)]; exact a1
              have b2 : g99_ (202 + 10 * K 2) = nI jp := by rw [eg99_, upd_n _ _ (by omega)]; exact a2
              have b3 : g99_ (203 + 10 * K 2) = nI td := by rw [eg99_, upd_n _ _ (by omega)]; exact a3
              have b4 : g99_ (204 + 10 * K 2) = r80_ := by rw [eg99_, upd_n _ _ (by omega)]; exact a4
              have b5 : g99_ (205 + 10 * K 2) = 0 := by rw [eg99_, show 205 + 10 * K 2 = 200 + 10 * K 2 + 5 by omega, upd_s]
              refine lv_aload_n hx hb dL_isSigned_285 rfl (lv_at hl 8 rfl) ?_
              refine lv_iload hx hb dL_isSigned_286 (lv_at hl 0 rfl) ?_
              refine lv_iconst (v := 5) hx hb dL_isSigned_288 (by decide) ?_
              refine g_naddn (a := 200 + 10 * (K 2)) (b := 5) hx hb dL_isSigned_289 ?_
              refine g_iald (n := 450) (f := g99_) (j := 200 + 10 * (K 2) + 5) hC hA (by omega) (by decide) dL_isSigned_290 ?_
              rw [show g99_ (200 + 10 * (K 2) + 5) = 0 from (by rw [show 200 + 10 * (K 2) + 5 = 205 + 10 * (K 2) by omega]; exact b5)]
              refine lv_iconst (v := 1) hx hb dL_isSigned_291 (by decide) ?_
              refine lv_icmp_ne (tgt := 305) hx hb dL_isSigned_292 (by decide) (fun c101_ => ?_) (fun c101_ => ?_)
              · refine lv_aload_n hx hb dL_isSigned_305 rfl (lv_at hl 8 rfl) ?_
                refine lv_iconst (v := 2) hx hb dL_isSigned_306 (by decide) ?_
                refine lv_dup2_11 hx hb dL_isSigned_307 rfl rfl ?_
                refine g_iald (n := 450) (f := g99_) (j := 2) hC hA (by omega) (by decide) dL_isSigned_308 ?_
                rw [show g99_ (2) = nI (K 2) from hN100_.k2]
                refine lv_iconst (v := 1) hx hb dL_isSigned_309 (by decide) ?_
                refine g_naddn (a := K 2) (b := 1) hx hb dL_isSigned_310 ?_
                refine g_iast (n := 450) (f := g99_) (j := 2) (x := nI (K 2 + 1)) hC hA hS hnb (by omega) (by decide) dL_isSigned_311 (fun H lo hA hz_ ho_ hS => ?_)
                have hSI := hSI.netw hnb hz_ ho_
                have hA : gNet E nb (upd g99_ (2) (nI (K 2 + 1))) H := hA
                have hN103_ : NL (upd g99_ (2) (nI (K 2 + 1))) (mSig μ (K 1) (K 2) (nI ip) (-1) kd_ (nI (1 + jv)) (nI jp) r80_) (updN K 2 (K 2 + 1)) D := hN.deedA (by omega) hmk (fun z z1 hz => by rw [upd_n _ _ z1]; exact u2 z hz) (upd_s _ _ _) (by rw [upd_n _ _ (by omega)]; exact b0) (by rw [upd_n _ _ (by omega)]; exact b1) (by rw [upd_n _ _ (by omega)]; exact b2) (by rw [upd_n _ _ (by omega)]; exact b3.trans hd3.symm) (by rw [upd_n _ _ (by omega)]; exact b4) (by rw [upd_n _ _ (by omega)]; exact b5)
                obtain ⟨g102_, eg102_⟩ : ∃ g_, g_ = (upd g99_ (2) (nI (K 2 + 1))) := ⟨_, rfl⟩
                rw [← eg102_] at hN103_ hA
                refine lv_iload hx hb dL_isSigned_312 (lv_at hl 5 rfl) ?_
                refine lv_if_ge (tgt := 332) hx hb dL_isSigned_314 (by decide) (fun c104_ => ?_) (fun c104_ => ?_)
                · exact absurd c104_ (by decide)
                · refine lv_aload_n hx hb dL_isSigned_317 rfl (lv_at hl 7 rfl) ?_
                  refine lv_iload hx hb dL_isSigned_318 (lv_at hl 6 rfl) ?_
                  refine lv_iload hx hb dL_isSigned_320 (lv_at hl 4 rfl) ?_
                  refine lv_iload hx hb dL_isSigned_322 (lv_at hl 3 rfl) ?_
                  refine lv_iload hx hb dL_isSigned_324 (lv_at hl 2 rfl) ?_
                  refine g_cWi (k2 := 8) (n2 := 1060) (g_runSH (n := 5) (rest := []) hC (w_sign hE (nb := nb) (oa := oa) (n := n) (μ := μ) (K := K) (nI ip) kd_ (nI (1 + jv)) (nI jp)) Z_sign.1 Z_sign.2.1 Z_sign.2.2.1 k_270 Z_sign.2.2.2 hSI rfl hl.1 dL_isSigned_326 ⟨Nat.le_of_ble_eq_true rfl, Nat.le_of_ble_eq_true rfl⟩ ⟨Nat.le_of_ble_eq_true rfl, Nat.le_of_ble_eq_true rfl⟩ rfl (Nat.le_of_ble_eq_true rfl)) hS (fun q h => h.1) rfl rfl (fun r105_ H lo hw106_ hz_ hk_ hS => ?_)
                  have hA := hA.kept (hk_ nb hA.lt (fun z => z.2 rfl))
                  obtain ⟨er_, hSI⟩ := hw106_.ok (kz_0 (isP_nI hip (by omega)) (dl_n hkd (by omega) (by omega) (by omega)) (by omega))
                  rw [← h81_] at hSI
                  have er_ : r105_ = nI (K 2) := er_
                  subst er_
                  refine lv_goto (tgt := 346) hx hb dL_isSigned_329 (by decide) ?_
                  refine lv_iload hx hb dL_isSigned_346 (lv_at hl 1 rfl) ?_
                  refine lv_icmp_ne (tgt := 355) hx hb dL_isSigned_348 (by decide) (fun c107_ => ?_) (fun c107_ => ?_)
                  · exact absurd rfl c107_
                  · refine lv_iconst (v := 1) hx hb dL_isSigned_351 (by decide) ?_
                    refine lv_goto (tgt := 356) hx hb dL_isSigned_352 (by decide) ?_
                    exact g_zretW hC hr rfl dL_isSigned_356 hS (Nat.le_of_ble_eq_true rfl) (Nat.le_of_ble_eq_true rfl) ⟨rfl, _, _, _, ⟨hSI.mono (by omega), hA, (hN103_.mono (by omega) (by omega))⟩, h2, h1⟩
              · exact absurd c101_ (by decide)
          · have n79_ : (K 2) = 24 := (nI_eq (by omega) (by omega)).mp c78_
            refine lv_iload hx hb dL_isSigned_137 (lv_at hl 3 rfl) ?_
            refine lv_if_ge (tgt := 157) hx hb dL_isSigned_139 (by decide) (fun c108_ => ?_) (fun c108_ => ?_)
            · exact absurd c108_ (by decide)
            · refine lv_aload_n hx hb dL_isSigned_142 rfl (lv_at hl 5 rfl) ?_
              refine lv_iload hx hb dL_isSigned_143 (lv_at hl 4 rfl) ?_
              refine lv_iload hx hb dL_isSigned_145 (lv_at hl 2 rfl) ?_
              refine lv_iload hx hb dL_isSigned_147 (lv_at hl 1 rfl) ?_
              refine lv_iload hx hb dL_isSigned_149 (lv_at hl 0 rfl) ?_
              refine g_cWi (k2 := 8) (n2 := 1060) (g_runSH (n := 5) (rest := []) hC (w_sign hE (nb := nb) (oa := oa) (n := n) (μ := μ) (K := K) (nI ip) kd_ (nI (1 + jv)) (nI jp)) Z_sign.1 Z_sign.2.1 Z_sign.2.2.1 k_270 Z_sign.2.2.2 hSI rfl hl.1 dL_isSigned_151 ⟨Nat.le_of_ble_eq_true rfl, Nat.le_of_ble_eq_true rfl⟩ ⟨Nat.le_of_ble_eq_true rfl, Nat.le_of_ble_eq_true rfl⟩ rfl (Nat.le_of_ble_eq_true rfl)) hS (fun q h => h.1) rfl rfl (fun r109_ H lo hw110_ hz_ hk_ hS => ?_)
              have hA := hA.kept (hk_ nb hA.lt (fun z => z.2 rfl))
              obtain ⟨er_, hSI⟩ := hw110_.no 2 (kz_3 (isP_nI hip (by omega)) (dl_n hkd (by omega) (by omega) (by omega)) (by omega))
              have er_ : r109_ = (-900003 : Int32) := er_
              subst er_
              refine lv_goto (tgt := 171) hx hb dL_isSigned_154 (by decide) ?_
              refine lv_iload hx hb dL_isSigned_171 (lv_at hl 3 rfl) ?_
              refine lv_if_ge (tgt := 181) hx hb dL_isSigned_173 (by decide) (fun c111_ => ?_) (fun c111_ => ?_)
              · exact absurd c111_ (by decide)
              · refine lv_ldc (own := "SignatoryLaw") (v := -900003) hx hb hC.2.2.2.2.2.1 (gw hC.1 hC.2.1 k_525 rfl) dL_isSigned_176 ?_
                refine lv_goto (tgt := 183) hx hb dL_isSigned_178 (by decide) ?_
                refine lv_icmp_ne (tgt := 190) hx hb dL_isSigned_183 (by decide) (fun c112_ => ?_) (fun c112_ => ?_)
                · exact absurd rfl c112_
                · refine lv_iconst (v := 1) hx hb dL_isSigned_186 (by decide) ?_
                  refine lv_goto (tgt := 191) hx hb dL_isSigned_187 (by decide) ?_
                  exact g_zretW hC hr rfl dL_isSigned_191 hS (Nat.le_of_ble_eq_true rfl) (Nat.le_of_ble_eq_true rfl) ⟨rfl, _, _, _, ⟨hSI.mono (by omega), hA, (hN.mono (by omega) (by omega))⟩, h2, h1⟩
        · exact absurd c77_ (fun z => absurd (z ▸ nI_pos (by omega) : ¬ (-1 : Int32) < 0) (fun y => y (by decide)))
      · refine lv_if_ne (tgt := 77) hx hb dL_isSigned_68 (by decide) (fun c113_ => ?_) (fun c113_ => ?_)
        · have q114_ : ¬ jl = 0 := fun z => c113_ (congrArg nI z)
          refine lv_sipush (v := 900) hx hb dL_isSigned_77 (by decide) ?_
          exact J71_ _ ⟨900, by omega, by omega, rfl⟩
        · have q114_ : jl = 0 := (nI_eq (by omega) (by omega)).mp c113_
          refine lv_sipush (v := 9999) hx hb dL_isSigned_71 (by decide) ?_
          refine lv_goto (tgt := 80) hx hb dL_isSigned_74 (by decide) ?_
          exact J71_ _ ⟨9999, by omega, by omega, rfl⟩
    · refine lv_if_ne (tgt := 52) hx hb dL_isSigned_45 (by decide) (fun c115_ => ?_) (fun c115_ => ?_)
      · have q116_ : ¬ jk = 0 := fun z => c115_ (congrArg nI z)
        refine lv_iconst (v := 0) hx hb dL_isSigned_52 (by decide) ?_
        exact J67_ _ (Or.inl rfl)
      · have q116_ : jk = 0 := (nI_eq (by omega) (by omega)).mp c115_
        refine lv_iconst (v := 1) hx hb dL_isSigned_48 (by decide) ?_
        refine lv_goto (tgt := 53) hx hb dL_isSigned_49 (by decide) ?_
        exact J67_ _ (Or.inr rfl)
