/-! THE LAW'S LOOP, ITS END -/
set_option maxHeartbeats 4000000 in
set_option maxRecDepth 100000 in
theorem q_loop {p_ : Program} {l : Launch} {e_ : Env} {s : State} {m : MethodId} {args : Array Value} {below : List Frame} {meth : Method} {c : Code} {Q : State → Prop} {E : gV} (hE : gOK l E) {b L : Nat} {xs : Nat → Int32} (hX : va_X b L xs E.2.1 E.2.1.heap) (hbl : b < E.2.1.heap.size) (hL : L < 2 ^ 31) {nb oa : Nat} (hnb : E.2.1.heap.size ≤ nb) (hC : gC l E p_ s m meth c RL cL_law 8) (fin : ∀ (H1 : Heap) (lo1 : List Loc) (ls1 : Array Slot) (cells slots : Nat), cells ≤ 500000 → slots ≤ 7000000 → NJ E nb oa 400 400 1 H1 → va_S (gA0 E) E.2.1.heap H1 lo1 → lv_has ls1 8 [(0, .ref b), (1, .ref nb), (2, .ref oa)] → W p_ l e_ room_1 s m args below meth c H1 lo1 (cells) (slots) Q (F0 m 237 ls1 [])) :
    ∀ (d k D n cells slots : Nat) (H : Heap) (lo : List Loc) (ls : Array Slot), k + d = 34 → D + 9 * d ≤ 400 → n + d ≤ 400 → cells + 240 * d ≤ 500000 → slots + 5000 * d ≤ 7000000 → NJ E nb oa D n 1 H → va_S (gA0 E) E.2.1.heap H lo → lv_has ls 8 [(0, .ref b), (1, .ref nb), (2, .ref oa), (3, .int (nI k))] → W p_ l e_ room_1 s m args below meth c H lo (cells) (slots) Q (F0 m 28 ls []) := by
  have hx := hC.2.2.1
  have hb := hC.2.2.2.1
  intro d
  induction d with
  | zero =>
    intro k D n cells slots H lo ls hk hD hn hc1 hc2 hJ hS hl
    refine lv_iload_n hx hb dL_law_28 rfl (lv_at hl 3 rfl) ?_
    refine lv_bipush (v := 34) hx hb dL_law_29 (by decide) ?_
    refine lv_icmp_ge (tgt := 237) hx hb dL_law_31 (by decide) (fun cg => ?_) (fun cg => ?_)
    · exact fin H lo ls cells slots (by omega) (by omega) (hJ.to (by omega) (by omega) (by omega) (by omega)) hS (lv_sub hl [0, 1, 2] rfl)
    · exact absurd (nI_le (show 34 ≤ k by omega) (by omega)) cg
  | succ d ih =>
    intro k D n cells slots H lo ls hk hD hn hc1 hc2 hJ hS hl
    refine lv_iload_n hx hb dL_law_28 rfl (lv_at hl 3 rfl) ?_
    refine lv_bipush (v := 34) hx hb dL_law_29 (by decide) ?_
    refine lv_icmp_ge (tgt := 237) hx hb dL_law_31 (by decide) (fun cg => ?_) (fun cg => ?_)
    · exact absurd (le_nI (n := 34) (i := k) (by omega) (by omega) cg) (by omega)
    · refine q_step hE hX hbl hL hnb hC (k := k) (n := n) (D := D) (by omega) (by omega) (by omega) (by omega) (by omega) hJ hS hl (fun H lo ls hJ hS hl => ?_)
      obtain ⟨f, μ, K, ⟨hSI, hA, hN⟩, h2, h1⟩ := hJ
      have hb2 := hN.b2
      have hn3 : n + 1 < 500 := by omega
      refine q_told hE hX hbl hL hnb hC hN hn3 (C := cells + 232) (S := slots + 4296) (by omega) (by omega) (fun H lo ls hT hS hl => ?_) (K 2) 0 _ _ H lo ls (by omega) (by omega) (by omega) ⟨hSI, hA⟩ hS hl
      have hSI := hT.1
      have hA := hT.2
      refine lv_iload hx hb dL_law_216 (lv_at hl 0 rfl) ?_
      refine lv_if_eq (tgt := 229) hx hb dL_law_218 (by decide) (fun c1_ => ?_) (fun c1_ => ?_)
      · exact absurd c1_ (by decide)
      · refine lv_aload_n hx hb dL_law_221 rfl (lv_at hl 3 rfl) ?_
        refine lv_aload_n hx hb dL_law_222 rfl (lv_at hl 2 rfl) ?_
        refine g_cWi (k2 := (cells + 232) + 1) (n2 := (slots + 4296) + 6) (g_runS (rest := []) hC (c_L_areFigures hE hN hnb hn3) Y_L_areFigures k_936 S_L_areFigures ⟨hSI, hA⟩ rfl hl.1 dL_law_223 ⟨Nat.le_of_ble_eq_true rfl, Nat.le_of_ble_eq_true rfl⟩ ⟨by show (cells + 232) + 0 + 1 ≤ 600074; omega, by show (slots + 4296) + 0 + 6 ≤ 7301550; omega⟩ rfl (Nat.le_of_ble_eq_true rfl)) hS (fun _ h => h) (by show (cells + 232) + 0 + 1 = (cells + 232) + 1; omega) (by show (slots + 4296) + 0 + 6 = (slots + 4296) + 6; omega) (fun r2_ H lo h3_ hz_ hk_ hS => ?_)
        obtain ⟨rfl, hT⟩ := h3_
        refine lv_if_ne (tgt := 231) hx hb dL_law_226 (by decide) (fun c4_ => ?_) (fun c4_ => ?_)
        · refine lv_iinc (v := nI (k + 1)) (lv' := [(3, .int (nI (k + 1))), (6, .int 1), (0, .ref b), (1, .ref nb), (2, .ref oa)]) hx hb dL_law_231 hl (k := 4) rfl (g_inc _) (by decide) rfl (fun ls hl => ?_)
          refine lv_goto (tgt := 28) hx hb dL_law_234 (by decide) ?_
          exact W.widen (by omega) (by omega) (ih (k + 1) (D + 9) (n + 1) (cells + 240) (slots + 5000) H lo ls (by omega) (by omega) (by omega) (by omega) (by omega) ⟨f, μ, K, ⟨hT.1, hT.2, hN⟩, h2, h1⟩ hS (lv_sub hl [2, 3, 4, 0] rfl))
        · exact absurd c4_ (by decide)
set_option maxHeartbeats 4000000 in
set_option maxRecDepth 100000 in
theorem q_tail {p_ : Program} {l : Launch} {e_ : Env} {s : State} {m : MethodId} {args : Array Value} {below : List Frame} {meth : Method} {c : Code} {Q : State → Prop} {E : gV} (hE : gOK l E) {b L : Nat} {xs : Nat → Int32} (hX : va_X b L xs E.2.1 E.2.1.heap) (hbl : b < E.2.1.heap.size) (hL : L < 2 ^ 31) {nb oa : Nat} (hnb : E.2.1.heap.size ≤ nb) (hC : gC l E p_ s m meth c RL cL_law 8) {cells slots : Nat} {H : Heap} {lo : List Loc} {ls : Array Slot} (hc1 : cells + 200 ≤ 600074) (hc2 : slots + 20000 ≤ 7301550) (hJ : NJ E nb oa 400 400 1 H) (hS : va_S (gA0 E) E.2.1.heap H lo) (hl : lv_has ls 8 [(0, .ref b), (1, .ref nb), (2, .ref oa)])
    (kk : ∀ (H1 : Heap) (lo1 : List Loc) (ls1 : Array Slot), va_S (gA0 E) E.2.1.heap H1 lo1 → ls1.size = 8 → W p_ l e_ room_1 s m args below meth c H1 lo1 (cells + 200) (slots + 20000) Q (F0 m 483 ls1 [.int 1])) : W p_ l e_ room_1 s m args below meth c H lo (cells) (slots) Q (F0 m 237 ls []) := by
  have hx := hC.2.2.1
  have hb := hC.2.2.2.1
  obtain ⟨f, μ, K, ⟨hSI, hA, hN⟩, h2, h1⟩ := hJ
  obtain ⟨n, hn_⟩ : ∃ n : Nat, n = 400 := ⟨_, rfl⟩
  rw [← hn_] at hSI
  have hb0 := hN.b0
  have hb1 := hN.b1
  have hb2 := hN.b2
  refine lv_aload_n hx hb dL_law_237 rfl (lv_at hl 2 rfl) ?_
  refine lv_iconst (v := (-1)) hx hb dL_law_238 (by decide) ?_
  refine lv_bipush (v := 9) hx hb dL_law_239 (by decide) ?_
  refine lv_iconst (v := 0) hx hb dL_law_241 (by decide) ?_
  refine lv_iconst (v := 0) hx hb dL_law_242 (by decide) ?_
  refine g_cWi (k2 := cells + 8) (n2 := slots + 1060) (g_runSH (n := 5) (rest := []) hC (w_sign hE (nb := nb) (oa := oa) (n := n) (μ := μ) (K := K) (-1) 9 0 0) Z_sign.1 Z_sign.2.1 Z_sign.2.2.1 k_270 Z_sign.2.2.2 hSI rfl hl.1 dL_law_243 ⟨Nat.le_of_ble_eq_true rfl, Nat.le_of_ble_eq_true rfl⟩ ⟨by show cells + 0 + 8 ≤ 600074; omega, by show slots + 0 + 1060 ≤ 7301550; omega⟩ rfl (Nat.le_of_ble_eq_true rfl)) hS (fun q h => h.1) (by show cells + 0 + 8 = cells + 8; omega) (by show slots + 0 + 1060 = slots + 1060; omega) (fun r1_ H lo hw2_ hz_ hk_ hS => ?_)
  have hA := hA.kept (hk_ nb hA.lt (fun z => z.2 rfl))
  obtain ⟨er_, hSI⟩ := hw2_.no 0 (kz_1 not_isPm)
  have er_ : r1_ = (-900001 : Int32) := er_
  subst er_
  refine lv_ldc (own := "SignatoryLaw") (v := -900001) hx hb hC.2.2.2.2.2.1 (gw hC.1 hC.2.1 k_244 rfl) dL_law_246 ?_
  refine lv_icmp_ne (tgt := 394) hx hb dL_law_248 (by decide) (fun c3_ => ?_) (fun c3_ => ?_)
  · exact absurd rfl c3_
  · refine lv_aload_n hx hb dL_law_251 rfl (lv_at hl 2 rfl) ?_
    refine lv_iconst (v := 0) hx hb dL_law_252 (by decide) ?_
    refine lv_iconst (v := 4) hx hb dL_law_253 (by decide) ?_
    refine lv_iconst (v := 1) hx hb dL_law_254 (by decide) ?_
    refine lv_iconst (v := 0) hx hb dL_law_255 (by decide) ?_
    refine g_cWi (k2 := cells + 16) (n2 := slots + 2120) (g_runSH (n := 5) (rest := []) hC (w_sign hE (nb := nb) (oa := oa) (n := n) (μ := μ) (K := K) 0 4 1 0) Z_sign.1 Z_sign.2.1 Z_sign.2.2.1 k_270 Z_sign.2.2.2 hSI rfl hl.1 dL_law_256 ⟨Nat.le_of_ble_eq_true rfl, Nat.le_of_ble_eq_true rfl⟩ ⟨by show cells + 8 + 8 ≤ 600074; omega, by show slots + 1060 + 1060 ≤ 7301550; omega⟩ rfl (Nat.le_of_ble_eq_true rfl)) hS (fun q h => h.1) (by show cells + 8 + 8 = cells + 16; omega) (by show slots + 1060 + 1060 = slots + 2120; omega) (fun r4_ H lo hw5_ hz_ hk_ hS => ?_)
    have hA := hA.kept (hk_ nb hA.lt (fun z => z.2 rfl))
    obtain ⟨er_, hSI⟩ := hw5_.no 1 (kz_2 (isP_nI (j := 0) (by omega) (by omega)) (by decide))
    have er_ : r4_ = (-900002 : Int32) := er_
    subst er_
    refine lv_ldc (own := "SignatoryLaw") (v := -900002) hx hb hC.2.2.2.2.2.1 (gw hC.1 hC.2.1 k_245 rfl) dL_law_259 ?_
    refine lv_icmp_ne (tgt := 394) hx hb dL_law_261 (by decide) (fun c6_ => ?_) (fun c6_ => ?_)
    · exact absurd rfl c6_
    · refine lv_aload_n hx hb dL_law_264 rfl (lv_at hl 2 rfl) ?_
      refine lv_iconst (v := 0) hx hb dL_law_265 (by decide) ?_
      refine lv_iconst (v := 0) hx hb dL_law_266 (by decide) ?_
      refine lv_sipush (v := 10000) hx hb dL_law_267 (by decide) ?_
      refine lv_iconst (v := 0) hx hb dL_law_270 (by decide) ?_
      refine g_cWi (k2 := cells + 24) (n2 := slots + 3180) (g_runSH (n := 5) (rest := []) hC (w_sign hE (nb := nb) (oa := oa) (n := n) (μ := μ) (K := K) 0 0 10000 0) Z_sign.1 Z_sign.2.1 Z_sign.2.2.1 k_270 Z_sign.2.2.2 hSI rfl hl.1 dL_law_271 ⟨Nat.le_of_ble_eq_true rfl, Nat.le_of_ble_eq_true rfl⟩ ⟨by show cells + 16 + 8 ≤ 600074; omega, by show slots + 2120 + 1060 ≤ 7301550; omega⟩ rfl (Nat.le_of_ble_eq_true rfl)) hS (fun q h => h.1) (by show cells + 16 + 8 = cells + 24; omega) (by show slots + 2120 + 1060 = slots + 3180; omega) (fun r7_ H lo hw8_ hz_ hk_ hS => ?_)
      have hA := hA.kept (hk_ nb hA.lt (fun z => z.2 rfl))
      obtain ⟨er_, hSI⟩ := hw8_.no 1 (kz_2 (isP_nI (j := 0) (by omega) (by omega)) (by decide))
      have er_ : r7_ = (-900002 : Int32) := er_
      subst er_
      refine lv_ldc (own := "SignatoryLaw") (v := -900002) hx hb hC.2.2.2.2.2.1 (gw hC.1 hC.2.1 k_245 rfl) dL_law_274 ?_
      refine lv_icmp_ne (tgt := 394) hx hb dL_law_276 (by decide) (fun c9_ => ?_) (fun c9_ => ?_)
      · exact absurd rfl c9_
      · refine lv_aload_n hx hb dL_law_279 rfl (lv_at hl 2 rfl) ?_
        refine lv_iconst (v := 0) hx hb dL_law_280 (by decide) ?_
        refine lv_iconst (v := 0) hx hb dL_law_281 (by decide) ?_
        refine lv_iconst (v := 1) hx hb dL_law_282 (by decide) ?_
        refine lv_bipush (v := 10) hx hb dL_law_283 (by decide) ?_
        refine g_cWi (k2 := cells + 32) (n2 := slots + 4240) (g_runSH (n := 5) (rest := []) hC (w_sign hE (nb := nb) (oa := oa) (n := n) (μ := μ) (K := K) 0 0 1 10) Z_sign.1 Z_sign.2.1 Z_sign.2.2.1 k_270 Z_sign.2.2.2 hSI rfl hl.1 dL_law_285 ⟨Nat.le_of_ble_eq_true rfl, Nat.le_of_ble_eq_true rfl⟩ ⟨by show cells + 24 + 8 ≤ 600074; omega, by show slots + 3180 + 1060 ≤ 7301550; omega⟩ rfl (Nat.le_of_ble_eq_true rfl)) hS (fun q h => h.1) (by show cells + 24 + 8 = cells + 32; omega) (by show slots + 3180 + 1060 = slots + 4240; omega) (fun r10_ H lo hw11_ hz_ hk_ hS => ?_)
        have hA := hA.kept (hk_ nb hA.lt (fun z => z.2 rfl))
        obtain ⟨er_, hSI⟩ := hw11_.no 1 (kz_2 (isP_nI (j := 0) (by omega) (by omega)) (by decide))
        have er_ : r10_ = (-900002 : Int32) := er_
        subst er_
        refine lv_ldc (own := "SignatoryLaw") (v := -900002) hx hb hC.2.2.2.2.2.1 (gw hC.1 hC.2.1 k_245 rfl) dL_law_288 ?_
        refine lv_icmp_ne (tgt := 394) hx hb dL_law_290 (by decide) (fun c12_ => ?_) (fun c12_ => ?_)
        · exact absurd rfl c12_
        · refine lv_aload_n hx hb dL_law_293 rfl (lv_at hl 2 rfl) ?_
          refine lv_iconst (v := 0) hx hb dL_law_294 (by decide) ?_
          refine lv_aload_n hx hb dL_law_295 rfl (lv_at hl 1 rfl) ?_
          refine lv_iconst (v := 0) hx hb dL_law_296 (by decide) ?_
          refine g_iald (n := 450) (f := f) (j := 0) hC hA (by omega) (by decide) dL_law_297 ?_
          rw [show f (0) = nI (K 0) from hN.k0]
          refine lv_iconst (v := 0) hx hb dL_law_298 (by decide) ?_
          refine lv_iconst (v := 1) hx hb dL_law_299 (by decide) ?_
          refine lv_iconst (v := 0) hx hb dL_law_300 (by decide) ?_
          refine g_cWi (k2 := cells + 40) (n2 := slots + 5300) (g_runSH (n := 6) (rest := []) hC (w_signTogether hE (nb := nb) (oa := oa) (n := n) (μ := μ) (K := K) 0 (nI (K 0)) 0 1 0) Z_signTogether.1 Z_signTogether.2.1 Z_signTogether.2.2.1 k_526 Z_signTogether.2.2.2 hSI rfl hl.1 dL_law_301 ⟨Nat.le_of_ble_eq_true rfl, Nat.le_of_ble_eq_true rfl⟩ ⟨by show cells + 32 + 8 ≤ 600074; omega, by show slots + 4240 + 1060 ≤ 7301550; omega⟩ rfl (Nat.le_of_ble_eq_true rfl)) hS (fun q h => h.1) (by show cells + 32 + 8 = cells + 40; omega) (by show slots + 4240 + 1060 = slots + 5300; omega) (fun r13_ H lo hw14_ hz_ hk_ hS => ?_)
          have hA := hA.kept (hk_ nb hA.lt (fun z => z.2 rfl))
          obtain ⟨er_, hSI⟩ := hw14_.no 0 (kt_1 (Or.inr not_isP))
          have er_ : r13_ = (-900001 : Int32) := er_
          subst er_
          refine lv_ldc (own := "SignatoryLaw") (v := -900001) hx hb hC.2.2.2.2.2.1 (gw hC.1 hC.2.1 k_244 rfl) dL_law_304 ?_
          refine lv_icmp_ne (tgt := 394) hx hb dL_law_306 (by decide) (fun c15_ => ?_) (fun c15_ => ?_)
          · exact absurd rfl c15_
          · refine lv_aload_n hx hb dL_law_309 rfl (lv_at hl 2 rfl) ?_
            refine lv_iconst (v := 0) hx hb dL_law_310 (by decide) ?_
            refine lv_iconst (v := 0) hx hb dL_law_311 (by decide) ?_
            refine lv_iconst (v := 0) hx hb dL_law_312 (by decide) ?_
            refine lv_iconst (v := 0) hx hb dL_law_313 (by decide) ?_
            refine lv_iconst (v := 0) hx hb dL_law_314 (by decide) ?_
            refine g_cWi (k2 := cells + 48) (n2 := slots + 6360) (g_runSH (n := 6) (rest := []) hC (w_signTogether hE (nb := nb) (oa := oa) (n := n) (μ := μ) (K := K) 0 0 0 0 0) Z_signTogether.1 Z_signTogether.2.1 Z_signTogether.2.2.1 k_526 Z_signTogether.2.2.2 hSI rfl hl.1 dL_law_315 ⟨Nat.le_of_ble_eq_true rfl, Nat.le_of_ble_eq_true rfl⟩ ⟨by show cells + 40 + 8 ≤ 600074; omega, by show slots + 5300 + 1060 ≤ 7301550; omega⟩ rfl (Nat.le_of_ble_eq_true rfl)) hS (fun q h => h.1) (by show cells + 40 + 8 = cells + 48; omega) (by show slots + 5300 + 1060 = slots + 6360; omega) (fun r16_ H lo hw17_ hz_ hk_ hS => ?_)
            have hA := hA.kept (hk_ nb hA.lt (fun z => z.2 rfl))
            obtain ⟨er_, hSI⟩ := hw17_.no 1 (kt_2 (isP_nI (j := 0) (by omega) (by omega)) (isP_nI (j := 0) (by omega) (by omega)) (by decide))
            have er_ : r16_ = (-900002 : Int32) := er_
            subst er_
            refine lv_ldc (own := "SignatoryLaw") (v := -900002) hx hb hC.2.2.2.2.2.1 (gw hC.1 hC.2.1 k_245 rfl) dL_law_318 ?_
            refine lv_icmp_ne (tgt := 394) hx hb dL_law_320 (by decide) (fun c18_ => ?_) (fun c18_ => ?_)
            · exact absurd rfl c18_
            · refine lv_aload_n hx hb dL_law_323 rfl (lv_at hl 2 rfl) ?_
              refine lv_aload_n hx hb dL_law_324 rfl (lv_at hl 1 rfl) ?_
              refine lv_iconst (v := 2) hx hb dL_law_325 (by decide) ?_
              refine g_iald (n := 450) (f := f) (j := 2) hC hA (by omega) (by decide) dL_law_326 ?_
              rw [show f (2) = nI (K 2) from hN.k2]
              refine lv_iconst (v := 0) hx hb dL_law_327 (by decide) ?_
              refine g_cWi (k2 := cells + 52) (n2 := slots + 6390) (g_runSH (n := 3) (rest := []) hC (w_ratify hE (nb := nb) (oa := oa) (n := n) (μ := μ) (K := K) (nI (K 2)) 0) Z_ratify.1 Z_ratify.2.1 Z_ratify.2.2.1 k_554 Z_ratify.2.2.2 hSI rfl hl.1 dL_law_328 ⟨Nat.le_of_ble_eq_true rfl, Nat.le_of_ble_eq_true rfl⟩ ⟨by show cells + 48 + 4 ≤ 600074; omega, by show slots + 6360 + 30 ≤ 7301550; omega⟩ rfl (Nat.le_of_ble_eq_true rfl)) hS (fun q h => h.1) (by show cells + 48 + 4 = cells + 52; omega) (by show slots + 6360 + 30 = slots + 6390; omega) (fun r19_ H lo hw20_ hz_ hk_ hS => ?_)
              have hA := hA.kept (hk_ nb hA.lt (fun z => z.2 rfl))
              obtain ⟨er_, hSI⟩ := hw20_.no 0 (kr_1 (Or.inl not_isP))
              have er_ : r19_ = (-900001 : Int32) := er_
              subst er_
              refine lv_ldc (own := "SignatoryLaw") (v := -900001) hx hb hC.2.2.2.2.2.1 (gw hC.1 hC.2.1 k_244 rfl) dL_law_331 ?_
              refine lv_icmp_ne (tgt := 394) hx hb dL_law_333 (by decide) (fun c21_ => ?_) (fun c21_ => ?_)
              · exact absurd rfl c21_
              · refine lv_aload_n hx hb dL_law_336 rfl (lv_at hl 2 rfl) ?_
                refine lv_iconst (v := (-1)) hx hb dL_law_337 (by decide) ?_
                refine g_cWi (k2 := cells + 58) (n2 := slots + 7430) (g_runSH (n := 2) (rest := []) hC (w_annul hE (nb := nb) (oa := oa) (n := n) (μ := μ) (K := K) (-1) (by omega)) Z_annul.1 Z_annul.2.1 Z_annul.2.2.1 k_575 Z_annul.2.2.2 hSI rfl hl.1 dL_law_338 ⟨Nat.le_of_ble_eq_true rfl, Nat.le_of_ble_eq_true rfl⟩ ⟨by show cells + 52 + 6 ≤ 600074; omega, by show slots + 6390 + 1040 ≤ 7301550; omega⟩ rfl (Nat.le_of_ble_eq_true rfl)) hS (fun q h => h.1) (by show cells + 52 + 6 = cells + 58; omega) (by show slots + 6390 + 1040 = slots + 7430; omega) (fun r22_ H lo hw23_ hz_ hk_ hS => ?_)
                have hA := hA.kept (hk_ nb hA.lt (fun z => z.2 rfl))
                obtain ⟨er_, hSI⟩ := hw23_.no 0 (ka_1 not_isPm)
                have er_ : r22_ = (-900001 : Int32) := er_
                subst er_
                refine lv_ldc (own := "SignatoryLaw") (v := -900001) hx hb hC.2.2.2.2.2.1 (gw hC.1 hC.2.1 k_244 rfl) dL_law_341 ?_
                refine lv_icmp_ne (tgt := 394) hx hb dL_law_343 (by decide) (fun c24_ => ?_) (fun c24_ => ?_)
                · exact absurd rfl c24_
                · refine lv_aload_n hx hb dL_law_346 rfl (lv_at hl 2 rfl) ?_
                  refine lv_aload_n hx hb dL_law_347 rfl (lv_at hl 1 rfl) ?_
                  refine lv_iconst (v := 2) hx hb dL_law_348 (by decide) ?_
                  refine g_iald (n := 450) (f := f) (j := 2) hC hA (by omega) (by decide) dL_law_349 ?_
                  rw [show f (2) = nI (K 2) from hN.k2]
                  refine g_cWi (k2 := cells + 59) (n2 := slots + 7436) (g_runSH (n := 2) (rest := []) hC (w_status hE (nb := nb) (oa := oa) (n := n) (μ := μ) (K := K) (nI (K 2))) Z_status.1 Z_status.2.1 Z_status.2.2.1 k_586 Z_status.2.2.2 hSI rfl hl.1 dL_law_350 ⟨Nat.le_of_ble_eq_true rfl, Nat.le_of_ble_eq_true rfl⟩ ⟨by show cells + 58 + 1 ≤ 600074; omega, by show slots + 7430 + 6 ≤ 7301550; omega⟩ rfl (Nat.le_of_ble_eq_true rfl)) hS (fun q h => h.1) (by show cells + 58 + 1 = cells + 59; omega) (by show slots + 7430 + 6 = slots + 7436; omega) (fun r25_ H lo hw26_ hz_ hk_ hS => ?_)
                  have hA := hA.kept (hk_ nb hA.lt (fun z => z.2 rfl))
                  obtain ⟨er_, hSI⟩ := hw26_.no 0 (kp_1 not_isP)
                  have er_ : r25_ = (-900001 : Int32) := er_
                  subst er_
                  refine lv_ldc (own := "SignatoryLaw") (v := -900001) hx hb hC.2.2.2.2.2.1 (gw hC.1 hC.2.1 k_244 rfl) dL_law_353 ?_
                  refine lv_icmp_ne (tgt := 394) hx hb dL_law_355 (by decide) (fun c27_ => ?_) (fun c27_ => ?_)
                  · exact absurd rfl c27_
                  · refine lv_aload_n hx hb dL_law_358 rfl (lv_at hl 2 rfl) ?_
                    refine lv_iconst (v := (-1)) hx hb dL_law_359 (by decide) ?_
                    refine g_cWi (k2 := cells + 60) (n2 := slots + 7442) (g_runSH (n := 2) (rest := []) hC (w_sum hE (nb := nb) (oa := oa) (n := n) (μ := μ) (K := K) (-1)) Z_sum.1 Z_sum.2.1 Z_sum.2.2.1 k_593 Z_sum.2.2.2 hSI rfl hl.1 dL_law_360 ⟨Nat.le_of_ble_eq_true rfl, Nat.le_of_ble_eq_true rfl⟩ ⟨by show cells + 59 + 1 ≤ 600074; omega, by show slots + 7436 + 6 ≤ 7301550; omega⟩ rfl (Nat.le_of_ble_eq_true rfl)) hS (fun q h => h.1) (by show cells + 59 + 1 = cells + 60; omega) (by show slots + 7436 + 6 = slots + 7442; omega) (fun r28_ H lo hw29_ hz_ hk_ hS => ?_)
                    have hA := hA.kept (hk_ nb hA.lt (fun z => z.2 rfl))
                    obtain ⟨er_, hSI⟩ := hw29_.no 0 (kp_1 not_isPm)
                    have er_ : r28_ = (-900001 : Int32) := er_
                    subst er_
                    refine lv_ldc (own := "SignatoryLaw") (v := -900001) hx hb hC.2.2.2.2.2.1 (gw hC.1 hC.2.1 k_244 rfl) dL_law_363 ?_
                    refine lv_icmp_ne (tgt := 394) hx hb dL_law_365 (by decide) (fun c30_ => ?_) (fun c30_ => ?_)
                    · exact absurd rfl c30_
                    · refine lv_aload_n hx hb dL_law_368 rfl (lv_at hl 2 rfl) ?_
                      refine lv_aload_n hx hb dL_law_369 rfl (lv_at hl 1 rfl) ?_
                      refine lv_iconst (v := 2) hx hb dL_law_370 (by decide) ?_
                      refine g_iald (n := 450) (f := f) (j := 2) hC hA (by omega) (by decide) dL_law_371 ?_
                      rw [show f (2) = nI (K 2) from hN.k2]
                      refine g_cWi (k2 := cells + 62) (n2 := slots + 7454) (g_runSH (n := 2) (rest := []) hC (w_lack hE (nb := nb) (oa := oa) (n := n) (μ := μ) (K := K) (nI (K 2))) Z_lack.1 Z_lack.2.1 Z_lack.2.2.1 k_600 Z_lack.2.2.2 hSI rfl hl.1 dL_law_372 ⟨Nat.le_of_ble_eq_true rfl, Nat.le_of_ble_eq_true rfl⟩ ⟨by show cells + 60 + 2 ≤ 600074; omega, by show slots + 7442 + 12 ≤ 7301550; omega⟩ rfl (Nat.le_of_ble_eq_true rfl)) hS (fun q h => h.1) (by show cells + 60 + 2 = cells + 62; omega) (by show slots + 7442 + 12 = slots + 7454; omega) (fun r31_ H lo hw32_ hz_ hk_ hS => ?_)
                      have hA := hA.kept (hk_ nb hA.lt (fun z => z.2 rfl))
                      obtain ⟨er_, hSI⟩ := hw32_.no 0 (kk_1 not_isP)
                      have er_ : r31_ = (-900001 : Int32) := er_
                      subst er_
                      refine lv_ldc (own := "SignatoryLaw") (v := -900001) hx hb hC.2.2.2.2.2.1 (gw hC.1 hC.2.1 k_244 rfl) dL_law_375 ?_
                      refine lv_icmp_ne (tgt := 394) hx hb dL_law_377 (by decide) (fun c33_ => ?_) (fun c33_ => ?_)
                      · exact absurd rfl c33_
                      · refine lv_aload_n hx hb dL_law_380 rfl (lv_at hl 2 rfl) ?_
                        refine lv_iconst (v := (-1)) hx hb dL_law_381 (by decide) ?_
                        refine g_cWi (k2 := cells + 63) (n2 := slots + 7460) (g_runSH (n := 2) (rest := []) hC (w_stands hE (nb := nb) (oa := oa) (n := n) (μ := μ) (K := K) (-1)) Z_stands.1 Z_stands.2.1 Z_stands.2.2.1 k_643 Z_stands.2.2.2 hSI rfl hl.1 dL_law_382 ⟨Nat.le_of_ble_eq_true rfl, Nat.le_of_ble_eq_true rfl⟩ ⟨by show cells + 62 + 1 ≤ 600074; omega, by show slots + 7454 + 6 ≤ 7301550; omega⟩ rfl (Nat.le_of_ble_eq_true rfl)) hS (fun q h => h.1) (by show cells + 62 + 1 = cells + 63; omega) (by show slots + 7454 + 6 = slots + 7460; omega) (fun r34_ H lo hw35_ hz_ hk_ hS => ?_)
                        have hA := hA.kept (hk_ nb hA.lt (fun z => z.2 rfl))
                        obtain ⟨er_, hSI⟩ := hw35_.no 0 (kp_1 not_isPm)
                        have er_ : r34_ = (-900001 : Int32) := er_
                        subst er_
                        refine lv_ldc (own := "SignatoryLaw") (v := -900001) hx hb hC.2.2.2.2.2.1 (gw hC.1 hC.2.1 k_244 rfl) dL_law_385 ?_
                        refine lv_icmp_ne (tgt := 394) hx hb dL_law_387 (by decide) (fun c36_ => ?_) (fun c36_ => ?_)
                        · exact absurd rfl c36_
                        · refine lv_iconst (v := 1) hx hb dL_law_390 (by decide) ?_
                          refine lv_goto (tgt := 395) hx hb dL_law_391 (by decide) ?_
                          refine lv_istore_n (lv' := [(3, .int 1), (0, .ref b), (1, .ref nb), (2, .ref oa)]) hx hb dL_law_395 rfl hl (by decide) rfl (fun ls hl => ?_)
                          refine lv_iload_n hx hb dL_law_396 rfl (lv_at hl 0 rfl) ?_
                          refine lv_if_eq (tgt := 482) hx hb dL_law_397 (by decide) (fun c37_ => ?_) (fun c37_ => ?_)
                          · exact absurd c37_ (by decide)
                          · refine lv_aload_n hx hb dL_law_400 rfl (lv_at hl 3 rfl) ?_
                            refine lv_iconst (v := 0) hx hb dL_law_401 (by decide) ?_
                            refine g_cWi (k2 := cells + 67) (n2 := slots + 8490) (g_runSH (n := 2) (rest := []) hC (w_setWindow hE (nb := nb) (oa := oa) (n := n) (μ := μ) (K := K) 0 (by omega)) Z_setWindow.1 Z_setWindow.2.1 Z_setWindow.2.2.1 k_624 Z_setWindow.2.2.2 hSI rfl hl.1 dL_law_402 ⟨Nat.le_of_ble_eq_true rfl, Nat.le_of_ble_eq_true rfl⟩ ⟨by show cells + 63 + 4 ≤ 600074; omega, by show slots + 7460 + 1030 ≤ 7301550; omega⟩ rfl (Nat.le_of_ble_eq_true rfl)) hS (fun q h => h.1) (by show cells + 63 + 4 = cells + 67; omega) (by show slots + 7460 + 1030 = slots + 8490; omega) (fun r38_ H lo hw39_ hz_ hk_ hS => ?_)
                            have hA := hA.kept (hk_ nb hA.lt (fun z => z.2 rfl))
                            obtain ⟨er_, hSI⟩ := hw39_.no 0 (kw_1 (by decide))
                            have er_ : r38_ = (-900001 : Int32) := er_
                            subst er_
                            refine lv_ldc (own := "SignatoryLaw") (v := -900001) hx hb hC.2.2.2.2.2.1 (gw hC.1 hC.2.1 k_244 rfl) dL_law_405 ?_
                            refine lv_icmp_ne (tgt := 482) hx hb dL_law_407 (by decide) (fun c40_ => ?_) (fun c40_ => ?_)
                            · exact absurd rfl c40_
                            · refine lv_aload_n hx hb dL_law_410 rfl (lv_at hl 3 rfl) ?_
                              refine lv_bipush (v := 100) hx hb dL_law_411 (by decide) ?_
                              refine g_cWi (k2 := cells + 71) (n2 := slots + 9520) (g_runSH (n := 2) (rest := []) hC (w_setWindow hE (nb := nb) (oa := oa) (n := n) (μ := μ) (K := K) 100 (by omega)) Z_setWindow.1 Z_setWindow.2.1 Z_setWindow.2.2.1 k_624 Z_setWindow.2.2.2 hSI rfl hl.1 dL_law_413 ⟨Nat.le_of_ble_eq_true rfl, Nat.le_of_ble_eq_true rfl⟩ ⟨by show cells + 67 + 4 ≤ 600074; omega, by show slots + 8490 + 1030 ≤ 7301550; omega⟩ rfl (Nat.le_of_ble_eq_true rfl)) hS (fun q h => h.1) (by show cells + 67 + 4 = cells + 71; omega) (by show slots + 8490 + 1030 = slots + 9520; omega) (fun r41_ H lo hw42_ hz_ hk_ hS => ?_)
                              have hA := hA.kept (hk_ nb hA.lt (fun z => z.2 rfl))
                              obtain ⟨er_, hSI⟩ := hw42_.no 0 (kw_1 (by decide))
                              have er_ : r41_ = (-900001 : Int32) := er_
                              subst er_
                              refine lv_ldc (own := "SignatoryLaw") (v := -900001) hx hb hC.2.2.2.2.2.1 (gw hC.1 hC.2.1 k_244 rfl) dL_law_416 ?_
                              refine lv_icmp_ne (tgt := 482) hx hb dL_law_418 (by decide) (fun c43_ => ?_) (fun c43_ => ?_)
                              · exact absurd rfl c43_
                              · refine lv_aload_n hx hb dL_law_421 rfl (lv_at hl 3 rfl) ?_
                                refine lv_iconst (v := 0) hx hb dL_law_422 (by decide) ?_
                                refine g_cWi (k2 := cells + 73) (n2 := slots + 9532) (g_runSH (n := 2) (rest := []) hC (w_pass hE (nb := nb) (oa := oa) (n := n) (μ := μ) (K := K) 0) Z_pass.1 Z_pass.2.1 Z_pass.2.2.1 k_635 Z_pass.2.2.2 hSI rfl hl.1 dL_law_423 ⟨Nat.le_of_ble_eq_true rfl, Nat.le_of_ble_eq_true rfl⟩ ⟨by show cells + 71 + 2 ≤ 600074; omega, by show slots + 9520 + 12 ≤ 7301550; omega⟩ rfl (Nat.le_of_ble_eq_true rfl)) hS (fun q h => h.1) (by show cells + 71 + 2 = cells + 73; omega) (by show slots + 9520 + 12 = slots + 9532; omega) (fun r44_ H lo hw45_ hz_ hk_ hS => ?_)
                                have hA := hA.kept (hk_ nb hA.lt (fun z => z.2 rfl))
                                obtain ⟨er_, hSI⟩ := hw45_.no 0 (kps_1 (by decide))
                                have er_ : r44_ = (-900001 : Int32) := er_
                                subst er_
                                refine lv_ldc (own := "SignatoryLaw") (v := -900001) hx hb hC.2.2.2.2.2.1 (gw hC.1 hC.2.1 k_244 rfl) dL_law_426 ?_
                                refine lv_icmp_ne (tgt := 482) hx hb dL_law_428 (by decide) (fun c46_ => ?_) (fun c46_ => ?_)
                                · exact absurd rfl c46_
                                · refine lv_aload_n hx hb dL_law_431 rfl (lv_at hl 3 rfl) ?_
                                  refine lv_bipush (v := 100) hx hb dL_law_432 (by decide) ?_
                                  refine g_cWi (k2 := cells + 75) (n2 := slots + 9544) (g_runSH (n := 2) (rest := []) hC (w_pass hE (nb := nb) (oa := oa) (n := n) (μ := μ) (K := K) 100) Z_pass.1 Z_pass.2.1 Z_pass.2.2.1 k_635 Z_pass.2.2.2 hSI rfl hl.1 dL_law_434 ⟨Nat.le_of_ble_eq_true rfl, Nat.le_of_ble_eq_true rfl⟩ ⟨by show cells + 73 + 2 ≤ 600074; omega, by show slots + 9532 + 12 ≤ 7301550; omega⟩ rfl (Nat.le_of_ble_eq_true rfl)) hS (fun q h => h.1) (by show cells + 73 + 2 = cells + 75; omega) (by show slots + 9532 + 12 = slots + 9544; omega) (fun r47_ H lo hw48_ hz_ hk_ hS => ?_)
                                  have hA := hA.kept (hk_ nb hA.lt (fun z => z.2 rfl))
                                  obtain ⟨er_, hSI⟩ := hw48_.no 0 (kps_1 (by decide))
                                  have er_ : r47_ = (-900001 : Int32) := er_
                                  subst er_
                                  refine lv_ldc (own := "SignatoryLaw") (v := -900001) hx hb hC.2.2.2.2.2.1 (gw hC.1 hC.2.1 k_244 rfl) dL_law_437 ?_
                                  refine lv_icmp_ne (tgt := 482) hx hb dL_law_439 (by decide) (fun c49_ => ?_) (fun c49_ => ?_)
                                  · exact absurd rfl c49_
                                  · refine lv_aload_n hx hb dL_law_442 rfl (lv_at hl 3 rfl) ?_
                                    refine lv_aload_n hx hb dL_law_443 rfl (lv_at hl 2 rfl) ?_
                                    refine lv_iconst (v := 0) hx hb dL_law_444 (by decide) ?_
                                    refine g_iald (n := 450) (f := f) (j := 0) hC hA (by omega) (by decide) dL_law_445 ?_
                                    rw [show f (0) = nI (K 0) from hN.k0]
                                    refine lv_iconst (v := (-1)) hx hb dL_law_446 (by decide) ?_
                                    refine g_cWi (k2 := cells + 79) (n2 := slots + 10574) (g_runSH (n := 3) (rest := []) hC (w_leave hE (nb := nb) (oa := oa) (n := n) (μ := μ) (K := K) (nI (K 0)) (-1) (by omega)) Z_leave.1 Z_leave.2.1 Z_leave.2.2.1 k_27 Z_leave.2.2.2 hSI rfl hl.1 dL_law_447 ⟨Nat.le_of_ble_eq_true rfl, Nat.le_of_ble_eq_true rfl⟩ ⟨by show cells + 75 + 4 ≤ 600074; omega, by show slots + 9544 + 1030 ≤ 7301550; omega⟩ rfl (Nat.le_of_ble_eq_true rfl)) hS (fun q h => h.1) (by show cells + 75 + 4 = cells + 79; omega) (by show slots + 9544 + 1030 = slots + 10574; omega) (fun r50_ H lo hw51_ hz_ hk_ hS => ?_)
                                    have hA := hA.kept (hk_ nb hA.lt (fun z => z.2 rfl))
                                    obtain ⟨er_, hSI⟩ := hw51_.no 0 (kle_1 (Or.inl not_isP))
                                    have er_ : r50_ = (-900001 : Int32) := er_
                                    subst er_
                                    refine lv_ldc (own := "SignatoryLaw") (v := -900001) hx hb hC.2.2.2.2.2.1 (gw hC.1 hC.2.1 k_244 rfl) dL_law_450 ?_
                                    refine lv_icmp_ne (tgt := 482) hx hb dL_law_452 (by decide) (fun c52_ => ?_) (fun c52_ => ?_)
                                    · exact absurd rfl c52_
                                    · refine lv_aload_n hx hb dL_law_455 rfl (lv_at hl 3 rfl) ?_
                                      refine lv_iconst (v := 0) hx hb dL_law_456 (by decide) ?_
                                      refine lv_aload_n hx hb dL_law_457 rfl (lv_at hl 2 rfl) ?_
                                      refine lv_iconst (v := 0) hx hb dL_law_458 (by decide) ?_
                                      refine g_iald (n := 450) (f := f) (j := 0) hC hA (by omega) (by decide) dL_law_459 ?_
                                      rw [show f (0) = nI (K 0) from hN.k0]
                                      refine g_cWi (k2 := cells + 83) (n2 := slots + 11604) (g_runSH (n := 3) (rest := []) hC (w_leave hE (nb := nb) (oa := oa) (n := n) (μ := μ) (K := K) 0 (nI (K 0)) (by omega)) Z_leave.1 Z_leave.2.1 Z_leave.2.2.1 k_27 Z_leave.2.2.2 hSI rfl hl.1 dL_law_460 ⟨Nat.le_of_ble_eq_true rfl, Nat.le_of_ble_eq_true rfl⟩ ⟨by show cells + 79 + 4 ≤ 600074; omega, by show slots + 10574 + 1030 ≤ 7301550; omega⟩ rfl (Nat.le_of_ble_eq_true rfl)) hS (fun q h => h.1) (by show cells + 79 + 4 = cells + 83; omega) (by show slots + 10574 + 1030 = slots + 11604; omega) (fun r53_ H lo hw54_ hz_ hk_ hS => ?_)
                                      have hA := hA.kept (hk_ nb hA.lt (fun z => z.2 rfl))
                                      obtain ⟨er_, hSI⟩ := hw54_.no 0 (kle_1 (Or.inr ⟨fun z => absurd (z ▸ nI_pos (by omega) : ¬ (-1 : Int32) < 0) (fun y => y (by decide)), not_isP⟩))
                                      have er_ : r53_ = (-900001 : Int32) := er_
                                      subst er_
                                      refine lv_ldc (own := "SignatoryLaw") (v := -900001) hx hb hC.2.2.2.2.2.1 (gw hC.1 hC.2.1 k_244 rfl) dL_law_463 ?_
                                      refine lv_icmp_ne (tgt := 482) hx hb dL_law_465 (by decide) (fun c55_ => ?_) (fun c55_ => ?_)
                                      · exact absurd rfl c55_
                                      · refine lv_aload_n hx hb dL_law_468 rfl (lv_at hl 3 rfl) ?_
                                        refine lv_iconst (v := (-1)) hx hb dL_law_469 (by decide) ?_
                                        refine g_cWi (k2 := cells + 87) (n2 := slots + 12634) (g_runSH (n := 2) (rest := []) hC (w_comeBack hE (nb := nb) (oa := oa) (n := n) (μ := μ) (K := K) (-1) (by omega)) Z_comeBack.1 Z_comeBack.2.1 Z_comeBack.2.2.1 k_246 Z_comeBack.2.2.2 hSI rfl hl.1 dL_law_470 ⟨Nat.le_of_ble_eq_true rfl, Nat.le_of_ble_eq_true rfl⟩ ⟨by show cells + 83 + 4 ≤ 600074; omega, by show slots + 11604 + 1030 ≤ 7301550; omega⟩ rfl (Nat.le_of_ble_eq_true rfl)) hS (fun q h => h.1) (by show cells + 83 + 4 = cells + 87; omega) (by show slots + 11604 + 1030 = slots + 12634; omega) (fun r56_ H lo hw57_ hz_ hk_ hS => ?_)
                                        have hA := hA.kept (hk_ nb hA.lt (fun z => z.2 rfl))
                                        obtain ⟨er_, hSI⟩ := hw57_.no 0 (kb_1 not_isPm)
                                        have er_ : r56_ = (-900001 : Int32) := er_
                                        subst er_
                                        refine lv_ldc (own := "SignatoryLaw") (v := -900001) hx hb hC.2.2.2.2.2.1 (gw hC.1 hC.2.1 k_244 rfl) dL_law_473 ?_
                                        refine lv_icmp_ne (tgt := 482) hx hb dL_law_475 (by decide) (fun c58_ => ?_) (fun c58_ => ?_)
                                        · exact absurd rfl c58_
                                        · refine lv_iconst (v := 1) hx hb dL_law_478 (by decide) ?_
                                          refine lv_goto (tgt := 483) hx hb dL_law_479 (by decide) ?_
                                          exact W.widen (by omega) (by omega) (kk H lo ls hS hl.1)
