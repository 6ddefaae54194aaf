set_option maxHeartbeats 4000000 in
set_option maxRecDepth 100000 in
theorem c_L_isPassed {l : Launch} {E : gV} (hE : gOK l E) {nb oa n D : Nat} {f : Nat → Int32} {μ : F2} {K : Nat → Nat} (hN : NL f μ K D) (hnb : E.2.1.heap.size ≤ nb) (h2 : 2 ≤ K 0) (h1 : 1 ≤ K 1) (hn : n < 500) (hD : D ≤ 391) (q : Nat) (hq1 : 1 ≤ q) (hq9 : q ≤ 9) : gM l E yL_isPassed cL_isPassed 3 (some .boolean) ({ frames := 11, cells := 2, slots := 12, locals := 203 } : Room) [.ref oa, .ref nb, .int (nI q)] (fun H => SI E nb oa μ K n H ∧ gNet E nb f H) (gQW (gA0 E) (gWi (fun r H => r = 1 ∧ NJ E nb oa (D + 9) (n + 1) 1 H))) (fun _ => False) (gA0 E) := by
  refine gM_body hE (by decide +kernel) (Nat.le_of_ble_eq_true rfl) ?_
  intro p_ e_ s m args below meth c hC ht hr hname hP ls hl
  have hx := hC.2.2.1
  have hb := hC.2.2.2.1
  have hl : lv_has ls 3 [(0, .ref oa), (1, .ref nb), (2, .int (nI q))] := hl
  have hS : va_S ((gA0 E)) s.heap s.heap [] := va_S.rf
  obtain ⟨hSI, hA⟩ := hP
  have hU := hSI.pu
  have hb0 := hN.b0
  have hb1 := hN.b1
  have hb2 := hN.b2
  obtain ⟨td, htd, hd3, hd22⟩ := hN.day
  have hbD := hN.bD
  refine lv_aload_n hx hb dL_isPassed_0 rfl (lv_at hl 1 rfl) ?_
  refine lv_iconst (v := 3) hx hb dL_isPassed_1 (by decide) ?_
  refine g_iald (n := 450) (f := f) (j := 3) hC hA (by omega) (by decide) dL_isPassed_2 ?_
  rw [show f (3) = nI td from hd3]
  refine lv_iload_n hx hb dL_isPassed_3 rfl (lv_at hl 2 rfl) ?_
  refine g_naddn (a := td) (b := q) hx hb dL_isPassed_4 ?_
  refine lv_sipush (v := 999) hx hb dL_isPassed_5 (by decide) ?_
  refine lv_icmp_le (tgt := 27) hx hb dL_isPassed_8 (by decide) (fun c1_ => ?_) (fun c1_ => ?_)
  · refine lv_aload_n hx hb dL_isPassed_27 rfl (lv_at hl 1 rfl) ?_
    refine lv_iconst (v := 3) hx hb dL_isPassed_28 (by decide) ?_
    refine lv_dup2_11 hx hb dL_isPassed_29 rfl rfl ?_
    refine g_iald (n := 450) (f := f) (j := 3) hC hA (by omega) (by decide) dL_isPassed_30 ?_
    rw [show f (3) = nI td from hd3]
    refine lv_iload_n hx hb dL_isPassed_31 rfl (lv_at hl 2 rfl) ?_
    refine g_naddn (a := td) (b := q) hx hb dL_isPassed_32 ?_
    refine g_iast (n := 450) (f := f) (j := 3) (x := nI (td + q)) hC hA hS hnb (by omega) (by decide) dL_isPassed_33 (fun H lo hA hz_ ho_ hS => ?_)
    have hSI := hSI.netw hnb hz_ ho_
    have hA : gNet E nb (upd f (3) (nI (td + q))) H := hA
    have hN3_ : NL (upd f (3) (nI (td + q))) (up2 μ 22 0 (μ 22 0 + nI q)) K (D + 9) := hN.pass (by omega) hd3 (by omega) (by omega)
    obtain ⟨g2_, eg2_⟩ : ∃ g_, g_ = (upd f (3) (nI (td + q))) := ⟨_, rfl⟩
    rw [← eg2_] at hN3_ hA
    refine lv_aload_n hx hb dL_isPassed_34 rfl (lv_at hl 0 rfl) ?_
    refine lv_iload_n hx hb dL_isPassed_35 rfl (lv_at hl 2 rfl) ?_
    refine g_cWi (k2 := 2) (n2 := 12) (g_runSH (n := 2) (rest := []) hC (w_pass hE (nb := nb) (oa := oa) (n := n) (μ := μ) (K := K) (nI q)) Z_pass.1 Z_pass.2.1 Z_pass.2.2.1 k_635 Z_pass.2.2.2 hSI rfl hl.1 dL_isPassed_36 ⟨Nat.le_of_ble_eq_true rfl, Nat.le_of_ble_eq_true rfl⟩ ⟨Nat.le_of_ble_eq_true rfl, Nat.le_of_ble_eq_true rfl⟩ rfl (Nat.le_of_ble_eq_true rfl)) hS (fun q h => h.1) rfl rfl (fun r4_ H lo hw5_ hz_ hk_ hS => ?_)
    have hA := hA.kept (hk_ nb hA.lt (fun z => z.2 rfl))
    obtain ⟨er_, hSI⟩ := hw5_.ok (by rw [hd22]; exact kps_0 (by omega) (by omega) (by omega))
    rw [hd22, nI_add] at er_
    have er_ : r4_ = nI (td + q) := er_
    subst er_
    refine lv_aload_n hx hb dL_isPassed_39 rfl (lv_at hl 1 rfl) ?_
    refine lv_iconst (v := 3) hx hb dL_isPassed_40 (by decide) ?_
    refine g_iald (n := 450) (f := g2_) (j := 3) hC hA (by omega) (by decide) dL_isPassed_41 ?_
    rw [show g2_ (3) = nI (td + q) from (by rw [eg2_, upd_s])]
    refine lv_icmp_ne (tgt := 59) hx hb dL_isPassed_42 (by decide) (fun c6_ => ?_) (fun c6_ => ?_)
    · exact absurd rfl c6_
    · refine lv_aload_n hx hb dL_isPassed_45 rfl (lv_at hl 0 rfl) ?_
      obtain ⟨α, ξ, M, N, hRB, ha_, hK, hn2_⟩ := id hSI
      have hct := c_X4_today hE (α := α) (ξ := ξ) (M := M) (N := N)
      rw [ha_] at hct
      have hsg := hRB.1.sig
      rw [ha_] at hsg
      refine g_cRi (k2 := 2) (n2 := 12) (g_runV (rest := []) hC hct Y_X4_today k_899 I_X4_today V_X4_today hsg rfl hRB.1 rfl hl.1 dL_isPassed_46 ⟨Nat.le_of_ble_eq_true rfl, Nat.le_of_ble_eq_true rfl⟩ ⟨Nat.le_of_ble_eq_true rfl, Nat.le_of_ble_eq_true rfl⟩ rfl (Nat.le_of_ble_eq_true rfl)) rfl rfl g_no (fun rX hrX => ?_)
      obtain ⟨-, hrX⟩ := hrX
      have hrX : rX = nI (td + q) := hrX.trans (hK.td.trans (by rw [up2_s, hd22, nI_add]))
      subst hrX
      refine lv_aload_n hx hb dL_isPassed_49 rfl (lv_at hl 1 rfl) ?_
      refine lv_iconst (v := 3) hx hb dL_isPassed_50 (by decide) ?_
      refine g_iald (n := 450) (f := g2_) (j := 3) hC hA (by omega) (by decide) dL_isPassed_51 ?_
      rw [show g2_ (3) = nI (td + q) from (by rw [eg2_, upd_s])]
      refine lv_icmp_ne (tgt := 59) hx hb dL_isPassed_52 (by decide) (fun c7_ => ?_) (fun c7_ => ?_)
      · exact absurd rfl c7_
      · refine lv_iconst (v := 1) hx hb dL_isPassed_55 (by decide) ?_
        refine lv_goto (tgt := 60) hx hb dL_isPassed_56 (by decide) ?_
        exact g_zretW hC hr rfl dL_isPassed_60 hS (Nat.le_of_ble_eq_true rfl) (Nat.le_of_ble_eq_true rfl) ⟨rfl, _, _, _, ⟨hSI.mono (by omega), hA, hN3_⟩, h2, h1⟩
  · exact absurd (nI_le (show td + q ≤ 999 by omega) (by omega)) c1_
set_option maxHeartbeats 4000000 in
set_option maxRecDepth 100000 in
theorem c_L_isRatified {l : Launch} {E : gV} (hE : gOK l E) {nb oa n D : Nat} {f : Nat → Int32} {μ : F2} {K : Nat → Nat} (hN : NL f μ K D) (hnb : E.2.1.heap.size ≤ nb) (h2 : 2 ≤ K 0) (h1 : 1 ≤ K 1) (hn : n < 500) (hD : D ≤ 391) (d p : Nat) (hd : d < K 2) (hp : p < K 0) : gM l E yL_isRatified cL_isRatified 5 (some .boolean) ({ frames := 11, cells := 4, slots := 30, locals := 207 } : Room) [.ref oa, .ref nb, .int (nI d), .int (nI p)] (fun H => SI E nb oa μ K n H ∧ gNet E nb f H) (gQW (gA0 E) (gWi (fun r H => r = 1 ∧ NJ E nb oa (D + 9) (n + 1) 1 H))) (fun _ => False) (gA0 E) := by
  refine gM_body hE (by decide +kernel) (Nat.le_of_ble_eq_true rfl) ?_
  intro p_ e_ s m args below meth c hC ht hr hname hP ls hl
  have hx := hC.2.2.1
  have hb := hC.2.2.2.1
  have hl : lv_has ls 5 [(0, .ref oa), (1, .ref nb), (2, .int (nI d)), (3, .int (nI p))] := hl
  have hS : va_S ((gA0 E)) s.heap s.heap [] := va_S.rf
  obtain ⟨hSI, hA⟩ := hP
  have hU := hSI.pu
  have hb0 := hN.b0
  have hb1 := hN.b1
  have hb2 := hN.b2
  obtain ⟨c9, hc9, h5a, h5b⟩ := hN.st hd
  refine lv_sipush (v := 200) hx hb dL_isRatified_0 (by decide) ?_
  refine lv_bipush (v := 10) hx hb dL_isRatified_3 (by decide) ?_
  refine lv_iload_n hx hb dL_isRatified_5 rfl (lv_at hl 2 rfl) ?_
  refine g_nmuln (a := 10) (b := d) hx hb dL_isRatified_6 ?_
  refine g_naddn (a := 200) (b := 10 * d) hx hb dL_isRatified_7 ?_
  refine lv_istore (lv' := [(4, .int (nI (200 + 10 * d))), (0, .ref oa), (1, .ref nb), (2, .int (nI d)), (3, .int (nI p))]) hx hb dL_isRatified_8 hl (by decide) rfl (fun ls hl => ?_)
  refine lv_aload_n hx hb dL_isRatified_10 rfl (lv_at hl 2 rfl) ?_
  refine lv_iload hx hb dL_isRatified_11 (lv_at hl 0 rfl) ?_
  refine lv_iconst (v := 5) hx hb dL_isRatified_13 (by decide) ?_
  refine g_naddn (a := 200 + 10 * d) (b := 5) hx hb dL_isRatified_14 ?_
  refine g_iald (n := 450) (f := f) (j := 200 + 10 * d + 5) hC hA (by omega) (by decide) dL_isRatified_15 ?_
  rw [show f (200 + 10 * d + 5) = nI c9 from (by rw [show 200 + 10 * d + 5 = 205 + 10 * d by omega]; exact h5a)]
  refine lv_iconst (v := 1) hx hb dL_isRatified_16 (by decide) ?_
  refine lv_icmp_eq (tgt := 37) hx hb dL_isRatified_17 (by decide) (fun c1_ => ?_) (fun c1_ => ?_)
  · have n2_ : c9 = 1 := (nI_eq (by omega) (by omega)).mp c1_
    refine lv_aload_n hx hb dL_isRatified_37 rfl (lv_at hl 2 rfl) ?_
    refine lv_iload_n hx hb dL_isRatified_38 rfl (lv_at hl 4 rfl) ?_
    refine lv_aload_n hx hb dL_isRatified_39 rfl (lv_at hl 2 rfl) ?_
    refine lv_iload hx hb dL_isRatified_40 (lv_at hl 0 rfl) ?_
    refine g_iald (n := 450) (f := f) (j := 200 + 10 * d) hC hA (by omega) (by decide) dL_isRatified_42 ?_
    rw [show f (200 + 10 * d) = μ 10 d from hN.d10 (d := d) (by omega) (by omega)]
    refine lv_iconst (v := 0) hx hb dL_isRatified_43 (by decide) ?_
    refine lv_aload_n hx hb dL_isRatified_44 rfl (lv_at hl 2 rfl) ?_
    refine lv_iload hx hb dL_isRatified_45 (lv_at hl 0 rfl) ?_
    refine lv_iconst (v := 4) hx hb dL_isRatified_47 (by decide) ?_
    refine g_naddn (a := 200 + 10 * d) (b := 4) hx hb dL_isRatified_48 ?_
    refine g_iald (n := 450) (f := f) (j := 200 + 10 * d + 4) hC hA (by omega) (by decide) dL_isRatified_49 ?_
    rw [show f (200 + 10 * d + 4) = μ 14 d from hN.d14 (d := d) (by omega) (by omega)]
    refine g_cRi (k2 := 0) (n2 := 0) (g_runS (rest := []) hC (c_L_has hE (nb := nb) hN hU p (μ 10 d) 0 (μ 14 d) (by omega) (by omega)) Y_L_has k_846 S_L_has hA rfl hl.1 dL_isRatified_50 ⟨Nat.le_of_ble_eq_true rfl, Nat.le_of_ble_eq_true rfl⟩ ⟨Nat.le_of_ble_eq_true rfl, Nat.le_of_ble_eq_true rfl⟩ rfl (Nat.le_of_ble_eq_true rfl)) rfl rfl g_no (fun r3_ h4_ => ?_)
    rw [hch_0] at h4_
    refine lv_if_ne (tgt := 73) hx hb dL_isRatified_53 (by decide) (fun c5_ => ?_) (fun c5_ => ?_)
    · have q6_ := bz.t h4_ c5_
      refine lv_aload_n hx hb dL_isRatified_73 rfl (lv_at hl 2 rfl) ?_
      refine lv_iload hx hb dL_isRatified_74 (lv_at hl 0 rfl) ?_
      refine lv_iconst (v := 5) hx hb dL_isRatified_76 (by decide) ?_
      refine g_naddn (a := 200 + 10 * d) (b := 5) hx hb dL_isRatified_77 ?_
      refine lv_iconst (v := 2) hx hb dL_isRatified_78 (by decide) ?_
      refine g_iast (n := 450) (f := f) (j := 200 + 10 * d + 5) (x := 2) hC hA hS hnb (by omega) (by decide) dL_isRatified_79 (fun H lo hA hz_ ho_ hS => ?_)
      have hSI := hSI.netw hnb hz_ ho_
      have hA : gNet E nb (upd f (200 + 10 * d + 5) 2) H := hA
      have hN8_ : NL (upd f (200 + 10 * d + 5) 2) (up2 μ 17 d 114) K D := hN.stat hd (fun z => by have := (stc_115 hc9).mp (h5b.symm.trans z); omega) (c := 2) (by omega) (by omega) (by decide) (by omega)
      obtain ⟨g7_, eg7_⟩ : ∃ g_, g_ = (upd f (200 + 10 * d + 5) 2) := ⟨_, rfl⟩
      rw [← eg7_] at hN8_ hA
      refine lv_aload_n hx hb dL_isRatified_80 rfl (lv_at hl 1 rfl) ?_
      refine lv_iload_n hx hb dL_isRatified_81 rfl (lv_at hl 3 rfl) ?_
      refine lv_iload_n hx hb dL_isRatified_82 rfl (lv_at hl 4 rfl) ?_
      refine g_cWi (k2 := 4) (n2 := 30) (g_runSH (n := 3) (rest := []) hC (w_ratify hE (nb := nb) (oa := oa) (n := n) (μ := μ) (K := K) (nI d) (nI p)) Z_ratify.1 Z_ratify.2.1 Z_ratify.2.2.1 k_554 Z_ratify.2.2.2 hSI rfl hl.1 dL_isRatified_83 ⟨Nat.le_of_ble_eq_true rfl, Nat.le_of_ble_eq_true rfl⟩ ⟨Nat.le_of_ble_eq_true rfl, Nat.le_of_ble_eq_true rfl⟩ rfl (Nat.le_of_ble_eq_true rfl)) hS (fun q h => h.1) rfl rfl (fun r9_ H lo hw10_ hz_ hk_ hS => ?_)
      have hA := hA.kept (hk_ nb hA.lt (fun z => z.2 rfl))
      obtain ⟨er_, hSI⟩ := hw10_.ok (kr_0 (isP_nI hd (by omega)) (isP_nI hp (by omega)) (by rw [show ix (nI d) = d from nI_clamp (by omega)]; show μ 17 d = 119; rw [h5b]; exact (stc_119 hc9).mpr (by omega)) (by rw [show ix (nI d) = d from nI_clamp (by omega)]; assumption))
      simp only [show ix (nI d) = d from nI_clamp (by omega)] at er_ hSI
      have er_ : r9_ = μ 14 d := er_
      subst er_
      refine lv_aload_n hx hb dL_isRatified_86 rfl (lv_at hl 2 rfl) ?_
      refine lv_iload hx hb dL_isRatified_87 (lv_at hl 0 rfl) ?_
      refine lv_iconst (v := 4) hx hb dL_isRatified_89 (by decide) ?_
      refine g_naddn (a := 200 + 10 * d) (b := 4) hx hb dL_isRatified_90 ?_
      refine g_iald (n := 450) (f := g7_) (j := 200 + 10 * d + 4) hC hA (by omega) (by decide) dL_isRatified_91 ?_
      rw [show g7_ (200 + 10 * d + 4) = μ 14 d from (by rw [show 200 + 10 * d + 4 = 204 + 10 * d by omega]; exact ((hN8_.d14 (d := d) (by omega) rfl).trans (up2_at (Or.inr (by decide)))))]
      refine lv_icmp_ne (tgt := 99) hx hb dL_isRatified_92 (by decide) (fun c11_ => ?_) (fun c11_ => ?_)
      · exact absurd rfl c11_
      · refine lv_iconst (v := 1) hx hb dL_isRatified_95 (by decide) ?_
        refine lv_goto (tgt := 100) hx hb dL_isRatified_96 (by decide) ?_
        exact g_zretW hC hr rfl dL_isRatified_100 hS (Nat.le_of_ble_eq_true rfl) (Nat.le_of_ble_eq_true rfl) ⟨rfl, _, _, _, ⟨hSI.mono (by omega), hA, (hN8_.mono (by omega) (by omega))⟩, h2, h1⟩
    · have q6_ := bz.f h4_ c5_
      refine lv_aload_n hx hb dL_isRatified_56 rfl (lv_at hl 1 rfl) ?_
      refine lv_iload_n hx hb dL_isRatified_57 rfl (lv_at hl 3 rfl) ?_
      refine lv_iload_n hx hb dL_isRatified_58 rfl (lv_at hl 4 rfl) ?_
      refine g_cWi (k2 := 4) (n2 := 30) (g_runSH (n := 3) (rest := []) hC (w_ratify hE (nb := nb) (oa := oa) (n := n) (μ := μ) (K := K) (nI d) (nI p)) Z_ratify.1 Z_ratify.2.1 Z_ratify.2.2.1 k_554 Z_ratify.2.2.2 hSI rfl hl.1 dL_isRatified_59 ⟨Nat.le_of_ble_eq_true rfl, Nat.le_of_ble_eq_true rfl⟩ ⟨Nat.le_of_ble_eq_true rfl, Nat.le_of_ble_eq_true rfl⟩ rfl (Nat.le_of_ble_eq_true rfl)) hS (fun q h => h.1) rfl rfl (fun r12_ H lo hw13_ hz_ hk_ hS => ?_)
      have hA := hA.kept (hk_ nb hA.lt (fun z => z.2 rfl))
      obtain ⟨er_, hSI⟩ := hw13_.no 2 (kr_3 (isP_nI hd (by omega)) (isP_nI hp (by omega)) (by rw [show ix (nI d) = d from nI_clamp (by omega)]; show μ 17 d = 119; rw [h5b]; exact (stc_119 hc9).mpr (by omega)) (by rw [show ix (nI d) = d from nI_clamp (by omega)]; assumption))
      have er_ : r12_ = (-900003 : Int32) := er_
      subst er_
      refine lv_ldc (own := "SignatoryLaw") (v := -900003) hx hb hC.2.2.2.2.2.1 (gw hC.1 hC.2.1 k_525 rfl) dL_isRatified_62 ?_
      refine lv_icmp_ne (tgt := 71) hx hb dL_isRatified_64 (by decide) (fun c14_ => ?_) (fun c14_ => ?_)
      · exact absurd rfl c14_
      · refine lv_iconst (v := 1) hx hb dL_isRatified_67 (by decide) ?_
        refine lv_goto (tgt := 72) hx hb dL_isRatified_68 (by decide) ?_
        exact g_zretW hC hr rfl dL_isRatified_72 hS (Nat.le_of_ble_eq_true rfl) (Nat.le_of_ble_eq_true rfl) ⟨rfl, _, _, _, ⟨hSI.mono (by omega), hA, (hN.mono (by omega) (by omega))⟩, h2, h1⟩
  · have n2_ : ¬ c9 = 1 := fun z => c1_ (congrArg nI z)
    refine lv_aload_n hx hb dL_isRatified_20 rfl (lv_at hl 1 rfl) ?_
    refine lv_iload_n hx hb dL_isRatified_21 rfl (lv_at hl 3 rfl) ?_
    refine lv_iload_n hx hb dL_isRatified_22 rfl (lv_at hl 4 rfl) ?_
    refine g_cWi (k2 := 4) (n2 := 30) (g_runSH (n := 3) (rest := []) hC (w_ratify hE (nb := nb) (oa := oa) (n := n) (μ := μ) (K := K) (nI d) (nI p)) Z_ratify.1 Z_ratify.2.1 Z_ratify.2.2.1 k_554 Z_ratify.2.2.2 hSI rfl hl.1 dL_isRatified_23 ⟨Nat.le_of_ble_eq_true rfl, Nat.le_of_ble_eq_true rfl⟩ ⟨Nat.le_of_ble_eq_true rfl, Nat.le_of_ble_eq_true rfl⟩ rfl (Nat.le_of_ble_eq_true rfl)) hS (fun q h => h.1) rfl rfl (fun r15_ H lo hw16_ hz_ hk_ hS => ?_)
    have hA := hA.kept (hk_ nb hA.lt (fun z => z.2 rfl))
    obtain ⟨er_, hSI⟩ := hw16_.no 1 (kr_2 (isP_nI hd (by omega)) (isP_nI hp (by omega)) (by rw [show ix (nI d) = d from nI_clamp (by omega)]; show ¬ μ 17 d = 119; rw [h5b]; exact fun z => by have := (stc_119 hc9).mp z; omega))
    have er_ : r15_ = (-900002 : Int32) := er_
    subst er_
    refine lv_ldc (own := "SignatoryLaw") (v := -900002) hx hb hC.2.2.2.2.2.1 (gw hC.1 hC.2.1 k_245 rfl) dL_isRatified_26 ?_
    refine lv_icmp_ne (tgt := 35) hx hb dL_isRatified_28 (by decide) (fun c17_ => ?_) (fun c17_ => ?_)
    · exact absurd rfl c17_
    · refine lv_iconst (v := 1) hx hb dL_isRatified_31 (by decide) ?_
      refine lv_goto (tgt := 36) hx hb dL_isRatified_32 (by decide) ?_
      exact g_zretW hC hr rfl dL_isRatified_36 hS (Nat.le_of_ble_eq_true rfl) (Nat.le_of_ble_eq_true rfl) ⟨rfl, _, _, _, ⟨hSI.mono (by omega), hA, (hN.mono (by omega) (by omega))⟩, h2, h1⟩
set_option maxHeartbeats 4000000 in
set_option maxRecDepth 100000 in
theorem c_L_isAnnulled {l : Launch} {E : gV} (hE : gOK l E) {nb oa n D : Nat} {f : Nat → Int32} {μ : F2} {K : Nat → Nat} (hN : NL f μ K D) (hnb : E.2.1.heap.size ≤ nb) (h2 : 2 ≤ K 0) (h1 : 1 ≤ K 1) (hn : n < 500) (hD : D ≤ 391) (d : Nat) (hd : d < K 2) : gM l E yL_isAnnulled cL_isAnnulled 5 (some .boolean) ({ frames := 12, cells := 6, slots := 1040, locals := 299 } : Room) [.ref oa, .ref nb, .int (nI d)] (fun H => SI E nb oa μ K n H ∧ gNet E nb f H) (gQW (gA0 E) (gWi (fun r H => r = 1 ∧ NJ E nb oa (D + 9) (n + 1) 1 H))) (fun _ => False) (gA0 E) := by
  refine gM_body hE (by decide +kernel) (Nat.le_of_ble_eq_true rfl) ?_
  intro p_ e_ s m args below meth c hC ht hr hname hP ls hl
  have hx := hC.2.2.1
  have hb := hC.2.2.2.1
  have hl : lv_has ls 5 [(0, .ref oa), (1, .ref nb), (2, .int (nI d))] := hl
  have hS : va_S ((gA0 E)) s.heap s.heap [] := va_S.rf
  obtain ⟨hSI, hA⟩ := hP
  have hU := hSI.pu
  have hb0 := hN.b0
  have hb1 := hN.b1
  have hb2 := hN.b2
  obtain ⟨c9, hc9, h5a, h5b⟩ := hN.st hd
  refine lv_aload_n hx hb dL_isAnnulled_0 rfl (lv_at hl 1 rfl) ?_
  refine lv_sipush (v := 205) hx hb dL_isAnnulled_1 (by decide) ?_
  refine lv_bipush (v := 10) hx hb dL_isAnnulled_4 (by decide) ?_
  refine lv_iload_n hx hb dL_isAnnulled_6 rfl (lv_at hl 2 rfl) ?_
  refine g_nmuln (a := 10) (b := d) hx hb dL_isAnnulled_7 ?_
  refine g_naddn (a := 205) (b := 10 * d) hx hb dL_isAnnulled_8 ?_
  refine g_iald (n := 450) (f := f) (j := 205 + 10 * d) hC hA (by omega) (by decide) dL_isAnnulled_9 ?_
  rw [show f (205 + 10 * d) = nI c9 from h5a]
  refine lv_iconst (v := 1) hx hb dL_isAnnulled_10 (by decide) ?_
  refine lv_icmp_eq (tgt := 30) hx hb dL_isAnnulled_11 (by decide) (fun c1_ => ?_) (fun c1_ => ?_)
  · have n2_ : c9 = 1 := (nI_eq (by omega) (by omega)).mp c1_
    refine lv_aload_n hx hb dL_isAnnulled_30 rfl (lv_at hl 1 rfl) ?_
    refine lv_sipush (v := 205) hx hb dL_isAnnulled_31 (by decide) ?_
    refine lv_bipush (v := 10) hx hb dL_isAnnulled_34 (by decide) ?_
    refine lv_iload_n hx hb dL_isAnnulled_36 rfl (lv_at hl 2 rfl) ?_
    refine g_nmuln (a := 10) (b := d) hx hb dL_isAnnulled_37 ?_
    refine g_naddn (a := 205) (b := 10 * d) hx hb dL_isAnnulled_38 ?_
    refine lv_iconst (v := 3) hx hb dL_isAnnulled_39 (by decide) ?_
    refine g_iast (n := 450) (f := f) (j := 205 + 10 * d) (x := 3) hC hA hS hnb (by omega) (by decide) dL_isAnnulled_40 (fun H lo hA hz_ ho_ hS => ?_)
    have hSI := hSI.netw hnb hz_ ho_
    have hA : gNet E nb (upd f (205 + 10 * d) 3) H := hA
    have hN4_ : NL (upd f (205 + 10 * d) 3) (up2 μ 17 d 110) K D := hN.stat hd (fun z => by have := (stc_115 hc9).mp (h5b.symm.trans z); omega) (c := 3) (by omega) (by omega) (by decide) (by omega)
    obtain ⟨g3_, eg3_⟩ : ∃ g_, g_ = (upd f (205 + 10 * d) 3) := ⟨_, rfl⟩
    rw [← eg3_] at hN4_ hA
    have hT : NT E nb oa g3_ μ K n H := ⟨hSI, hA⟩
    refine lv_iconst (v := 0) hx hb dL_isAnnulled_41 (by decide) ?_
    refine lv_istore_n (lv' := [(3, .int 0), (0, .ref oa), (1, .ref nb), (2, .int (nI d))]) hx hb dL_isAnnulled_42 rfl hl (by decide) rfl (fun ls hl => ?_)
    refine lv_iconst (v := 0) hx hb dL_isAnnulled_43 (by decide) ?_
    refine lv_istore (lv' := [(4, .int 0), (3, .int 0), (0, .ref oa), (1, .ref nb), (2, .int (nI d))]) hx hb dL_isAnnulled_44 hl (by decide) rfl (fun ls hl => ?_)
    have loop : ∀ (n_ : Nat) (cn : Nat) (k : Nat) (H : Heap) (lo : List Loc) (ls : Array Slot), K 2 - k < n_ → (k ≤ K 2) → (cn = fCnt (fun t => upd (μ 17) d 110 t = 119) k) → NT E nb oa g3_ μ K n H → va_S ((gA0 E)) s.heap H lo → lv_has ls 5 [(0, .ref oa), (1, .ref nb), (2, .int (nI d)), (3, .int (nI cn)), (4, .int (nI k))] → W p_ l e_ ({ frames := 12, cells := 6, slots := 1040, locals := 299 } : Room) s m args below meth c H lo 0 0 (vx_MQ below (gQW (gA0 E) (gWi (fun r H => r = 1 ∧ NJ E nb oa (D + 9) (n + 1) 1 H))) (gX (fun _ => False)) args s 6 1040 (gA0 E)) (F0 m 46 ls []) := by
      intro n_
      induction n_ with
      | zero => intro cn k H lo ls h_; exact absurd h_ (Nat.not_lt_zero _)
      | succ n_ ih_loop =>
        intro cn k H lo ls hn_ i1 i2 hT hS hl
        have hSI := hT.1
        have hA := hT.2
        refine lv_iload hx hb dL_isAnnulled_46 (lv_at hl 4 rfl) ?_
        refine lv_aload_n hx hb dL_isAnnulled_48 rfl (lv_at hl 1 rfl) ?_
        refine lv_iconst (v := 2) hx hb dL_isAnnulled_49 (by decide) ?_
        refine g_iald (n := 450) (f := g3_) (j := 2) hC hA (by omega) (by decide) dL_isAnnulled_50 ?_
        rw [show g3_ (2) = nI (K 2) from hN4_.k2]
        refine lv_icmp_ge (tgt := 83) hx hb dL_isAnnulled_51 (by decide) (fun c5_ => ?_) (fun c5_ => ?_)
        · have n6_ : (K 2) ≤ k := le_nI (by omega) (by omega) c5_
          have hq : k = K 2 := by omega
          refine lv_aload_n hx hb dL_isAnnulled_83 rfl (lv_at hl 0 rfl) ?_
          refine lv_iload_n hx hb dL_isAnnulled_84 rfl (lv_at hl 2 rfl) ?_
          refine g_cWi (k2 := 6) (n2 := 1040) (g_runSH (n := 2) (rest := []) hC (w_annul hE (nb := nb) (oa := oa) (n := n) (μ := μ) (K := K) (nI d) (by omega)) Z_annul.1 Z_annul.2.1 Z_annul.2.2.1 k_575 Z_annul.2.2.2 hSI rfl hl.1 dL_isAnnulled_85 ⟨Nat.le_of_ble_eq_true rfl, Nat.le_of_ble_eq_true rfl⟩ ⟨Nat.le_of_ble_eq_true rfl, Nat.le_of_ble_eq_true rfl⟩ rfl (Nat.le_of_ble_eq_true rfl)) hS (fun q h => h.1) rfl rfl (fun r7_ H lo hw8_ hz_ hk_ hS => ?_)
          have hA := hA.kept (hk_ nb hA.lt (fun z => z.2 rfl))
          obtain ⟨er_, hSI⟩ := hw8_.ok (ka_0 (isP_nI hd (by omega)) (by rw [show ix (nI d) = d from nI_clamp (by omega)]; show μ 17 d = 119; rw [h5b]; exact (stc_119 hc9).mpr (by omega)))
          simp only [show ix (nI d) = d from nI_clamp (by omega)] at er_ hSI
          have er_ : r7_ = nI (fCnt (fun t => upd (μ 17) d 110 t = 119) (K 2)) := er_
          subst er_
          refine lv_iload_n hx hb dL_isAnnulled_88 rfl (lv_at hl 3 rfl) ?_
          refine lv_icmp_ne (tgt := 96) hx hb dL_isAnnulled_89 (by decide) (fun c9_ => ?_) (fun c9_ => ?_)
          · exact absurd (by rw [i2, hq]) c9_
          · refine lv_iconst (v := 1) hx hb dL_isAnnulled_92 (by decide) ?_
            refine lv_goto (tgt := 97) hx hb dL_isAnnulled_93 (by decide) ?_
            exact g_zretW hC hr rfl dL_isAnnulled_97 hS (Nat.le_of_ble_eq_true rfl) (Nat.le_of_ble_eq_true rfl) ⟨rfl, _, _, _, ⟨hSI.mono (by omega), hA, (hN4_.mono (by omega) (by omega))⟩, h2, h1⟩
        · have n6_ : k < (K 2) := not_le_nI (by omega) (by omega) c5_
          have hq : k < K 2 := by omega
          obtain ⟨c8, hc8, h8a, h8b⟩ := hN4_.st hq
          have h8c : upd (μ 17) d 110 k = stc (nI c8) := (congrFun (upA_s _ _ _) k).symm.trans h8b
          refine lv_iload_n hx hb dL_isAnnulled_54 rfl (lv_at hl 3 rfl) ?_
          refine lv_aload_n hx hb dL_isAnnulled_55 rfl (lv_at hl 1 rfl) ?_
          refine lv_sipush (v := 205) hx hb dL_isAnnulled_56 (by decide) ?_
          refine lv_bipush (v := 10) hx hb dL_isAnnulled_59 (by decide) ?_
          refine lv_iload hx hb dL_isAnnulled_61 (lv_at hl 4 rfl) ?_
          refine g_nmuln (a := 10) (b := k) hx hb dL_isAnnulled_63 ?_
          refine g_naddn (a := 205) (b := 10 * k) hx hb dL_isAnnulled_64 ?_
          refine g_iald (n := 450) (f := g3_) (j := 205 + 10 * k) hC hA (by omega) (by decide) dL_isAnnulled_65 ?_
          rw [show g3_ (205 + 10 * k) = nI c8 from h8a]
          refine lv_iconst (v := 1) hx hb dL_isAnnulled_66 (by decide) ?_
          refine lv_icmp_ne (tgt := 74) hx hb dL_isAnnulled_67 (by decide) (fun c10_ => ?_) (fun c10_ => ?_)
          · have n11_ : ¬ c8 = 1 := fun z => c10_ (congrArg nI z)
            refine lv_iconst (v := 0) hx hb dL_isAnnulled_74 (by decide) ?_
            refine g_naddn (a := cn) (b := 0) hx hb dL_isAnnulled_75 ?_
            refine lv_istore_n (lv' := [(3, .int (nI (cn + 0))), (0, .ref oa), (1, .ref nb), (2, .int (nI d)), (4, .int (nI k))]) hx hb dL_isAnnulled_76 rfl hl (by decide) rfl (fun ls hl => ?_)
            refine lv_iinc (v := nI (k + 1)) (lv' := [(4, .int (nI (k + 1))), (3, .int (nI (cn + 0))), (0, .ref oa), (1, .ref nb), (2, .int (nI d))]) hx hb dL_isAnnulled_77 hl (k := 4) rfl (g_inc _) (by decide) rfl (fun ls hl => ?_)
            refine lv_goto (tgt := 46) hx hb dL_isAnnulled_80 (by decide) ?_
            exact ih_loop (cn + 0) (k + 1) H lo ls (by omega) (by omega) (by rw [fCnt_f (P := fun t => upd (μ 17) d 110 t = 119) (n := k) (fun z => absurd ((stc_119 hc8).mp (h8c.symm.trans z)) (by assumption)), i2, Nat.add_zero]) hT hS (lv_sub hl [2, 3, 4, 1, 0] rfl)
          · have n11_ : c8 = 1 := (nI_eq (by omega) (by omega)).mp c10_
            refine lv_iconst (v := 1) hx hb dL_isAnnulled_70 (by decide) ?_
            refine lv_goto (tgt := 75) hx hb dL_isAnnulled_71 (by decide) ?_
            refine g_naddn (a := cn) (b := 1) hx hb dL_isAnnulled_75 ?_
            refine lv_istore_n (lv' := [(3, .int (nI (cn + 1))), (0, .ref oa), (1, .ref nb), (2, .int (nI d)), (4, .int (nI k))]) hx hb dL_isAnnulled_76 rfl hl (by decide) rfl (fun ls hl => ?_)
            refine lv_iinc (v := nI (k + 1)) (lv' := [(4, .int (nI (k + 1))), (3, .int (nI (cn + 1))), (0, .ref oa), (1, .ref nb), (2, .int (nI d))]) hx hb dL_isAnnulled_77 hl (k := 4) rfl (g_inc _) (by decide) rfl (fun ls hl => ?_)
            refine lv_goto (tgt := 46) hx hb dL_isAnnulled_80 (by decide) ?_
            exact ih_loop (cn + 1) (k + 1) H lo ls (by omega) (by omega) (by rw [fCnt_t (P := fun t => upd (μ 17) d 110 t = 119) (n := k) (h8c.trans ((stc_119 hc8).mpr (by assumption))), i2]) hT hS (lv_sub hl [2, 3, 4, 1, 0] rfl)
    exact loop ((K 2 - (0)) + 1) 0 0 H lo ls (by omega) (by omega) rfl hT hS (lv_sub hl [2, 3, 4, 1, 0] rfl)
  · have n2_ : ¬ c9 = 1 := fun z => c1_ (congrArg nI z)
    refine lv_aload_n hx hb dL_isAnnulled_14 rfl (lv_at hl 0 rfl) ?_
    refine lv_iload_n hx hb dL_isAnnulled_15 rfl (lv_at hl 2 rfl) ?_
    refine g_cWi (k2 := 6) (n2 := 1040) (g_runSH (n := 2) (rest := []) hC (w_annul hE (nb := nb) (oa := oa) (n := n) (μ := μ) (K := K) (nI d) (by omega)) Z_annul.1 Z_annul.2.1 Z_annul.2.2.1 k_575 Z_annul.2.2.2 hSI rfl hl.1 dL_isAnnulled_16 ⟨Nat.le_of_ble_eq_true rfl, Nat.le_of_ble_eq_true rfl⟩ ⟨Nat.le_of_ble_eq_true rfl, Nat.le_of_ble_eq_true rfl⟩ rfl (Nat.le_of_ble_eq_true rfl)) hS (fun q h => h.1) rfl rfl (fun r12_ H lo hw13_ hz_ hk_ hS => ?_)
    have hA := hA.kept (hk_ nb hA.lt (fun z => z.2 rfl))
    obtain ⟨er_, hSI⟩ := hw13_.no 1 (ka_2 (isP_nI hd (by omega)) (by rw [show ix (nI d) = d from nI_clamp (by omega)]; show ¬ μ 17 d = 119; rw [h5b]; exact fun z => by have := (stc_119 hc9).mp z; omega))
    have er_ : r12_ = (-900002 : Int32) := er_
    subst er_
    refine lv_ldc (own := "SignatoryLaw") (v := -900002) hx hb hC.2.2.2.2.2.1 (gw hC.1 hC.2.1 k_245 rfl) dL_isAnnulled_19 ?_
    refine lv_icmp_ne (tgt := 28) hx hb dL_isAnnulled_21 (by decide) (fun c14_ => ?_) (fun c14_ => ?_)
    · exact absurd rfl c14_
    · refine lv_iconst (v := 1) hx hb dL_isAnnulled_24 (by decide) ?_
      refine lv_goto (tgt := 29) hx hb dL_isAnnulled_25 (by decide) ?_
      exact g_zretW hC hr rfl dL_isAnnulled_29 hS (Nat.le_of_ble_eq_true rfl) (Nat.le_of_ble_eq_true rfl) ⟨rfl, _, _, _, ⟨hSI.mono (by omega), hA, (hN.mono (by omega) (by omega))⟩, h2, h1⟩
