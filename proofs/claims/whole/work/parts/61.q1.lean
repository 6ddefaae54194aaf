set_option maxHeartbeats 4000000 in
set_option maxRecDepth 100000 in
theorem q_addPerson {p_ : Program} {l : Launch} {e_ : Env} {s : State} {m : MethodId} {args : Array Value} {below : List Frame} {meth : Method} {c : Code} {Q : State → Prop} {E : gV} (hE : gOK l E) {β : Nat → Nat} {a0 o1 o2 b L : Nat} {xs : Nat → Int32} (hst : lS E β o1 o2) (hL : L ≤ 3584) (hX : va_X b L xs s E.2.1.heap) (hbl : b < E.2.1.heap.size) (hC : gC l E p_ s m meth c RL cL_law 8) {n cells slots : Nat} {H : Heap} {lo : List Loc} {ls : Array Slot} (hn : n < 512) (hi : 7 * n + 7 ≤ L) (hc1 : cells + 16 ≤ 601024) (hc2 : slots + 3000 ≤ 7293034) (hI : LI E β a0 o1 o2 n H) (hS : va_S (gA0 E) E.2.1.heap H lo) (hl : lv_has ls 8 [(5, .int (nI (7 * n))), (0, .ref b), (1, .ref a0), (2, .ref (β 19)), (3, .ref o1), (4, .ref o2)])
    (kk : ∀ (H1 : Heap) (lo1 : List Loc) (ls1 : Array Slot), LI E β a0 o1 o2 (n + 1) H1 → va_S (gA0 E) E.2.1.heap H1 lo1 → lv_has ls1 8 [(5, .int (nI (7 * n))), (0, .ref b), (1, .ref a0), (2, .ref (β 19)), (3, .ref o1), (4, .ref o2)] → W p_ l e_ room_1 s m args below meth c H1 lo1 (cells + 16) (slots + 3000) Q (F0 m 2472 ls1 [])) : W p_ l e_ room_1 s m args below meth c H lo cells slots Q (F0 m 200 ls []) := by
  have hx := hC.2.2.1
  have hb := hC.2.2.2.1
  obtain ⟨α, ξ, M, N, μ, K, dp, th, f1, f2, hRB, rfl, hR, h1, h2, hK, hN2⟩ := hI
  refine lv_aload_n hx hb dL_law_200 rfl (lv_at hl 2 rfl) ?_
  refine lv_aload_n hx hb dL_law_201 rfl (lv_at hl 4 rfl) ?_
  refine g_cWi (k2 := cells + 1) (n2 := slots + 6) (g_runSH (n := 2) (rest := []) hC (w_addPerson hE (α := α) (ξ := ξ) (M := M) (N := N) (B := lB β o1 o2)  (o := o1) (f0 := f1) (Or.inr (Or.inl rfl)) hst.2.2.1) k_0 k_158 (by decide +kernel) k_156 k_157 ⟨hRB, h1⟩ rfl hl.1 dL_law_202 ⟨Nat.le_of_ble_eq_true rfl, Nat.le_of_ble_eq_true rfl⟩ ⟨by show cells + 0 + 1 ≤ 601024; omega, by show slots + 0 + 6 ≤ 7293034; omega⟩ rfl (Nat.le_of_ble_eq_true rfl)) hS (fun q h => h.elim (fun h => h.1) (fun h => by rw [h]; exact hst.2.2.1)) (by show cells + 0 + 1 = cells + 1; omega) (by show slots + 0 + 6 = slots + 6; omega) (fun r1_ H lo h hz_ hk_ hS => ?_)
  obtain ⟨hr1, α1, M1, g1, hRB1, hm1, ha1, h1n, hv1⟩ := h
  obtain ⟨hR, h2⟩ := hst.x hR h2 hk_
  have h1 := h1n
  obtain ⟨kc, hkc⟩ : ∃ kc, kc = kAdd (K 0) := ⟨_, rfl⟩
  have hkx := (lk_addPerson hK ).1
  rw [← hkc] at hkx
  rw [hkx] at hr1 hv1 hRB1 hm1
  subst hr1
  have hk5 : kc ≤ 4 := by rw [hkc]; unfold kAdd; exact (cif_le (by decide) (by decide))
  refine lv_istore (lv' := [(6, .int (nI kc)), (5, .int (nI (7 * n))), (0, .ref b), (1, .ref (α 3 0)), (2, .ref (β 19)), (3, .ref o1), (4, .ref o2)]) hx hb dL_law_205 hl (by decide) rfl (fun ls hl => ?_)
  refine lv_aload_n hx hb dL_law_207 rfl (lv_at hl 4 rfl) ?_
  refine g_cWi (k2 := cells + 1) (n2 := slots + 6) (g_runV (rest := []) hC (c_X5_addPerson hE (β := β) (μ := μ) (K := K) (dp := dp) (th := th) hK.mi ) Y_X5_addPerson k_1080 I_X5_addPerson V_X5_addPerson hR.obj rfl hR rfl hl.1 dL_law_208 ⟨Nat.le_of_ble_eq_true rfl, Nat.le_of_ble_eq_true rfl⟩ ⟨by show cells + 1 + 0 ≤ 601024; omega, by show slots + 6 + 0 ≤ 7293034; omega⟩ rfl (Nat.le_of_ble_eq_true rfl)) hS (fun q ⟨k, hk, e⟩ => by rw [e]; exact (hst.2.1 k hk).2.2) (by show cells + 1 + 0 = cells + 1; omega) (by show slots + 6 + 0 = slots + 6; omega) (fun r2_ H lo h hz_ hk_ hS => ?_)
  obtain ⟨dp1, hR, hv2⟩ := h
  rw [← hkc] at hR hv2
  obtain ⟨hRB1, h1, h2⟩ := hst.m hRB1 h1 h2 hz_ hk_
  refine lv_istore (lv' := [(7, .int r2_), (6, .int (nI kc)), (5, .int (nI (7 * n))), (0, .ref b), (1, .ref (α 3 0)), (2, .ref (β 19)), (3, .ref o1), (4, .ref o2)]) hx hb dL_law_211 hl (by decide) rfl (fun ls hl => ?_)
  refine lv_aload_n hx hb dL_law_213 rfl (lv_at hl 5 rfl) ?_
  refine g_cRi (k2 := cells + 1) (n2 := slots + 6) (g_runV (rest := []) hC (c_X5_thrown hE (β := β) (dp := dp1) (th := nI kc)) Y_X5_thrown k_1076 I_X5_thrown V_X5_thrown hR.obj rfl hR rfl hl.1 dL_law_214 ⟨Nat.le_of_ble_eq_true rfl, Nat.le_of_ble_eq_true rfl⟩ ⟨by show cells + 1 + 0 ≤ 601024; omega, by show slots + 6 + 0 ≤ 7293034; omega⟩ rfl (Nat.le_of_ble_eq_true rfl)) (by show cells + 1 + 0 = cells + 1; omega) (by show slots + 6 + 0 = slots + 6; omega) g_no (fun r3_ h => ?_)
  obtain rfl := h
  refine lv_iload hx hb dL_law_217 (lv_at hl 1 rfl) ?_
  refine lv_icmp_eq (tgt := 224) hx hb dL_law_219 (by decide) (fun c1_ => ?_) (fun c1_ => ?_)
  · refine lv_iload hx hb dL_law_224 (lv_at hl 1 rfl) ?_
    refine lv_if_ne (tgt := 241) hx hb dL_law_226 (by decide) (fun c2_ => ?_) (fun c2_ => ?_)
    · have q3_ : ¬ kc = 0 := fun z => c2_ (congrArg nI z)
      refine lv_goto (tgt := 2472) hx hb dL_law_241 (by decide) ?_
      exact W.widen (k := cells + 16) (n := slots + 3000) (by omega) (by omega) (kk H lo ls (LI.fin (M := M) hRB1 ha1 hm1 hR h1 h2 hK (fun hc => ((lk_addPerson hK ).2 (hkc.symm.trans hc)).2) (by omega) (by first | (show N 2 + 1 ≤ n + 1; omega) | (show N 2 ≤ n + 1; omega))) hS (lv_sub hl [2, 3, 4, 5, 6, 7] rfl))
    · have q3_ : kc = 0 := (nI_eq (by omega) (by omega)).mp c2_
      have hq0 : kc = 0 := (nI_eq (by omega) (by omega)).mp c2_
      refine lv_aload_n hx hb dL_law_229 rfl (lv_at hl 6 rfl) ?_
      refine lv_iconst (v := 0) hx hb dL_law_230 (by decide) ?_
      obtain ⟨rx, hvx, hg1⟩ := hv1 hq0
      have hvb := hv2 hq0
      have hEq : g1 0 = (r2_).toInt64 := by rw [hg1, hvx, hvb, ((lk_addPerson hK ).2 (hkc.symm.trans hq0)).1]
      refine g_lald (n := 1) (j := 0) hC h1 (by decide) (by decide) dL_law_231 ?_
      refine lv_iload hx hb dL_law_232 (lv_at hl 0 rfl) ?_
      refine lv_i2l (v := (r2_).toInt64) hx hb dL_law_234 rfl ?_
      refine g_lcmp hx hb hEq dL_law_235 ?_
      refine lv_if_eq (tgt := 241) hx hb dL_law_236 (by decide) (fun c4_ => ?_) (fun c4_ => ?_)
      · refine lv_goto (tgt := 2472) hx hb dL_law_241 (by decide) ?_
        exact W.widen (k := cells + 16) (n := slots + 3000) (by omega) (by omega) (kk H lo ls (LI.fin (M := M) hRB1 ha1 hm1 hR h1 h2 hK (fun hc => ((lk_addPerson hK ).2 (hkc.symm.trans hc)).2) (by omega) (by first | (show N 2 + 1 ≤ n + 1; omega) | (show N 2 ≤ n + 1; omega))) hS (lv_sub hl [2, 3, 4, 5, 6, 7] rfl))
      · exact absurd (by decide) c4_
  · exact absurd rfl c1_
set_option maxHeartbeats 4000000 in
set_option maxRecDepth 100000 in
theorem q_leave {p_ : Program} {l : Launch} {e_ : Env} {s : State} {m : MethodId} {args : Array Value} {below : List Frame} {meth : Method} {c : Code} {Q : State → Prop} {E : gV} (hE : gOK l E) {β : Nat → Nat} {a0 o1 o2 b L : Nat} {xs : Nat → Int32} (hst : lS E β o1 o2) (hL : L ≤ 3584) (hX : va_X b L xs s E.2.1.heap) (hbl : b < E.2.1.heap.size) (hC : gC l E p_ s m meth c RL cL_law 8) {n cells slots : Nat} {H : Heap} {lo : List Loc} {ls : Array Slot} (hn : n < 512) (hi : 7 * n + 7 ≤ L) (hc1 : cells + 16 ≤ 601024) (hc2 : slots + 3000 ≤ 7293034) (hI : LI E β a0 o1 o2 n H) (hS : va_S (gA0 E) E.2.1.heap H lo) (hl : lv_has ls 8 [(5, .int (nI (7 * n))), (0, .ref b), (1, .ref a0), (2, .ref (β 19)), (3, .ref o1), (4, .ref o2)])
    (kk : ∀ (H1 : Heap) (lo1 : List Loc) (ls1 : Array Slot), LI E β a0 o1 o2 (n + 1) H1 → va_S (gA0 E) E.2.1.heap H1 lo1 → lv_has ls1 8 [(5, .int (nI (7 * n))), (0, .ref b), (1, .ref a0), (2, .ref (β 19)), (3, .ref o1), (4, .ref o2)] → W p_ l e_ room_1 s m args below meth c H1 lo1 (cells + 16) (slots + 3000) Q (F0 m 2472 ls1 [])) : W p_ l e_ room_1 s m args below meth c H lo cells slots Q (F0 m 244 ls []) := by
  have hx := hC.2.2.1
  have hb := hC.2.2.2.1
  obtain ⟨α, ξ, M, N, μ, K, dp, th, f1, f2, hRB, rfl, hR, h1, h2, hK, hN2⟩ := hI
  refine lv_aload_n hx hb dL_law_244 rfl (lv_at hl 2 rfl) ?_
  refine lv_aload_n hx hb dL_law_245 rfl (lv_at hl 1 rfl) ?_
  refine lv_iload hx hb dL_law_246 (lv_at hl 0 rfl) ?_
  refine lv_iconst (v := 1) hx hb dL_law_248 (by decide) ?_
  refine g_iadd1 hx hb dL_law_249 ?_
  refine g_sld (q := ((7 * n) + 1)) hC hX hbl hS (by omega) (by omega) dL_law_250 ?_
  refine lv_aload_n hx hb dL_law_251 rfl (lv_at hl 1 rfl) ?_
  refine lv_iload hx hb dL_law_252 (lv_at hl 0 rfl) ?_
  refine lv_iconst (v := 2) hx hb dL_law_254 (by decide) ?_
  refine g_iaddk 2 hx hb dL_law_255 ?_
  refine g_sld (q := ((7 * n) + 2)) hC hX hbl hS (by omega) (by omega) dL_law_256 ?_
  refine lv_aload_n hx hb dL_law_257 rfl (lv_at hl 4 rfl) ?_
  refine g_cWi (k2 := cells + 4) (n2 := slots + 1030) (g_runSH (n := 4) (rest := []) hC (w_leave hE (α := α) (ξ := ξ) (M := M) (N := N) (B := lB β o1 o2) (xs ((7 * n) + 1)) (xs ((7 * n) + 2)) (by omega) (o := o1) (f0 := f1) (Or.inr (Or.inl rfl)) hst.2.2.1) k_0 k_236 (by decide +kernel) k_234 k_235 ⟨hRB, h1⟩ rfl hl.1 dL_law_258 ⟨Nat.le_of_ble_eq_true rfl, Nat.le_of_ble_eq_true rfl⟩ ⟨by show cells + 0 + 4 ≤ 601024; omega, by show slots + 0 + 1030 ≤ 7293034; omega⟩ rfl (Nat.le_of_ble_eq_true rfl)) hS (fun q h => h.elim (fun h => h.1) (fun h => by rw [h]; exact hst.2.2.1)) (by show cells + 0 + 4 = cells + 4; omega) (by show slots + 0 + 1030 = slots + 1030; omega) (fun r1_ H lo h hz_ hk_ hS => ?_)
  obtain ⟨hr1, α1, M1, g1, hRB1, hm1, ha1, h1n, hv1⟩ := h
  obtain ⟨hR, h2⟩ := hst.x hR h2 hk_
  have h1 := h1n
  obtain ⟨kc, hkc⟩ : ∃ kc, kc = kLeave (K 0) (xs ((7 * n) + 1)) (xs ((7 * n) + 2)) := ⟨_, rfl⟩
  have hkx := (lk_leave hK (xs ((7 * n) + 1)) (xs ((7 * n) + 2))).1
  rw [← hkc] at hkx
  rw [hkx] at hr1 hv1 hRB1 hm1
  subst hr1
  have hk5 : kc ≤ 4 := by rw [hkc]; unfold kLeave; exact (cif_le (by decide) (cif_le (by decide) (by decide)))
  refine lv_istore (lv' := [(6, .int (nI kc)), (5, .int (nI (7 * n))), (0, .ref b), (1, .ref (α 3 0)), (2, .ref (β 19)), (3, .ref o1), (4, .ref o2)]) hx hb dL_law_261 hl (by decide) rfl (fun ls hl => ?_)
  refine lv_aload_n hx hb dL_law_263 rfl (lv_at hl 4 rfl) ?_
  refine lv_aload_n hx hb dL_law_264 rfl (lv_at hl 2 rfl) ?_
  refine lv_iload hx hb dL_law_265 (lv_at hl 1 rfl) ?_
  refine lv_iconst (v := 1) hx hb dL_law_267 (by decide) ?_
  refine g_iadd1 hx hb dL_law_268 ?_
  refine g_sld (q := ((7 * n) + 1)) hC hX hbl hS (by omega) (by omega) dL_law_269 ?_
  refine lv_aload_n hx hb dL_law_270 rfl (lv_at hl 2 rfl) ?_
  refine lv_iload hx hb dL_law_271 (lv_at hl 1 rfl) ?_
  refine lv_iconst (v := 2) hx hb dL_law_273 (by decide) ?_
  refine g_iaddk 2 hx hb dL_law_274 ?_
  refine g_sld (q := ((7 * n) + 2)) hC hX hbl hS (by omega) (by omega) dL_law_275 ?_
  refine g_cWi (k2 := cells + 4) (n2 := slots + 1030) (g_runV (rest := []) hC (c_X5_leave hE (β := β) (μ := μ) (K := K) (dp := dp) (th := th) hK.mi (xs ((7 * n) + 1)) (xs ((7 * n) + 2))) Y_X5_leave k_1088 I_X5_leave V_X5_leave hR.obj rfl hR rfl hl.1 dL_law_276 ⟨Nat.le_of_ble_eq_true rfl, Nat.le_of_ble_eq_true rfl⟩ ⟨by show cells + 4 + 0 ≤ 601024; omega, by show slots + 1030 + 0 ≤ 7293034; omega⟩ rfl (Nat.le_of_ble_eq_true rfl)) hS (fun q ⟨k, hk, e⟩ => by rw [e]; exact (hst.2.1 k hk).2.2) (by show cells + 4 + 0 = cells + 4; omega) (by show slots + 1030 + 0 = slots + 1030; omega) (fun r2_ H lo h hz_ hk_ hS => ?_)
  obtain ⟨dp1, hR, hv2⟩ := h
  rw [← hkc] at hR hv2
  obtain ⟨hRB1, h1, h2⟩ := hst.m hRB1 h1 h2 hz_ hk_
  refine lv_istore (lv' := [(7, .int r2_), (6, .int (nI kc)), (5, .int (nI (7 * n))), (0, .ref b), (1, .ref (α 3 0)), (2, .ref (β 19)), (3, .ref o1), (4, .ref o2)]) hx hb dL_law_279 hl (by decide) rfl (fun ls hl => ?_)
  refine lv_aload_n hx hb dL_law_281 rfl (lv_at hl 5 rfl) ?_
  refine g_cRi (k2 := cells + 4) (n2 := slots + 1030) (g_runV (rest := []) hC (c_X5_thrown hE (β := β) (dp := dp1) (th := nI kc)) Y_X5_thrown k_1076 I_X5_thrown V_X5_thrown hR.obj rfl hR rfl hl.1 dL_law_282 ⟨Nat.le_of_ble_eq_true rfl, Nat.le_of_ble_eq_true rfl⟩ ⟨by show cells + 4 + 0 ≤ 601024; omega, by show slots + 1030 + 0 ≤ 7293034; omega⟩ rfl (Nat.le_of_ble_eq_true rfl)) (by show cells + 4 + 0 = cells + 4; omega) (by show slots + 1030 + 0 = slots + 1030; omega) g_no (fun r3_ h => ?_)
  obtain rfl := h
  refine lv_iload hx hb dL_law_285 (lv_at hl 1 rfl) ?_
  refine lv_icmp_eq (tgt := 292) hx hb dL_law_287 (by decide) (fun c1_ => ?_) (fun c1_ => ?_)
  · refine lv_iload hx hb dL_law_292 (lv_at hl 1 rfl) ?_
    refine lv_if_ne (tgt := 309) hx hb dL_law_294 (by decide) (fun c2_ => ?_) (fun c2_ => ?_)
    · have q3_ : ¬ kc = 0 := fun z => c2_ (congrArg nI z)
      refine lv_goto (tgt := 2472) hx hb dL_law_309 (by decide) ?_
      exact W.widen (k := cells + 16) (n := slots + 3000) (by omega) (by omega) (kk H lo ls (LI.fin (M := M) hRB1 ha1 hm1 hR h1 h2 hK (fun hc => ((lk_leave hK (xs ((7 * n) + 1)) (xs ((7 * n) + 2))).2 (hkc.symm.trans hc)).2) (by omega) (by first | (show N 2 + 1 ≤ n + 1; omega) | (show N 2 ≤ n + 1; omega))) hS (lv_sub hl [2, 3, 4, 5, 6, 7] rfl))
    · have q3_ : kc = 0 := (nI_eq (by omega) (by omega)).mp c2_
      have hq0 : kc = 0 := (nI_eq (by omega) (by omega)).mp c2_
      refine lv_aload_n hx hb dL_law_297 rfl (lv_at hl 6 rfl) ?_
      refine lv_iconst (v := 0) hx hb dL_law_298 (by decide) ?_
      obtain ⟨rx, hvx, hg1⟩ := hv1 hq0
      have hvb := hv2 hq0
      have hEq : g1 0 = (r2_).toInt64 := by rw [hg1, hvx, hvb, ((lk_leave hK (xs ((7 * n) + 1)) (xs ((7 * n) + 2))).2 (hkc.symm.trans hq0)).1]
      refine g_lald (n := 1) (j := 0) hC h1 (by decide) (by decide) dL_law_299 ?_
      refine lv_iload hx hb dL_law_300 (lv_at hl 0 rfl) ?_
      refine lv_i2l (v := (r2_).toInt64) hx hb dL_law_302 rfl ?_
      refine g_lcmp hx hb hEq dL_law_303 ?_
      refine lv_if_eq (tgt := 309) hx hb dL_law_304 (by decide) (fun c4_ => ?_) (fun c4_ => ?_)
      · refine lv_goto (tgt := 2472) hx hb dL_law_309 (by decide) ?_
        exact W.widen (k := cells + 16) (n := slots + 3000) (by omega) (by omega) (kk H lo ls (LI.fin (M := M) hRB1 ha1 hm1 hR h1 h2 hK (fun hc => ((lk_leave hK (xs ((7 * n) + 1)) (xs ((7 * n) + 2))).2 (hkc.symm.trans hc)).2) (by omega) (by first | (show N 2 + 1 ≤ n + 1; omega) | (show N 2 ≤ n + 1; omega))) hS (lv_sub hl [2, 3, 4, 5, 6, 7] rfl))
      · exact absurd (by decide) c4_
  · exact absurd rfl c1_
set_option maxHeartbeats 4000000 in
set_option maxRecDepth 100000 in
theorem q_comeBack {p_ : Program} {l : Launch} {e_ : Env} {s : State} {m : MethodId} {args : Array Value} {below : List Frame} {meth : Method} {c : Code} {Q : State → Prop} {E : gV} (hE : gOK l E) {β : Nat → Nat} {a0 o1 o2 b L : Nat} {xs : Nat → Int32} (hst : lS E β o1 o2) (hL : L ≤ 3584) (hX : va_X b L xs s E.2.1.heap) (hbl : b < E.2.1.heap.size) (hC : gC l E p_ s m meth c RL cL_law 8) {n cells slots : Nat} {H : Heap} {lo : List Loc} {ls : Array Slot} (hn : n < 512) (hi : 7 * n + 7 ≤ L) (hc1 : cells + 16 ≤ 601024) (hc2 : slots + 3000 ≤ 7293034) (hI : LI E β a0 o1 o2 n H) (hS : va_S (gA0 E) E.2.1.heap H lo) (hl : lv_has ls 8 [(5, .int (nI (7 * n))), (0, .ref b), (1, .ref a0), (2, .ref (β 19)), (3, .ref o1), (4, .ref o2)])
    (kk : ∀ (H1 : Heap) (lo1 : List Loc) (ls1 : Array Slot), LI E β a0 o1 o2 (n + 1) H1 → va_S (gA0 E) E.2.1.heap H1 lo1 → lv_has ls1 8 [(5, .int (nI (7 * n))), (0, .ref b), (1, .ref a0), (2, .ref (β 19)), (3, .ref o1), (4, .ref o2)] → W p_ l e_ room_1 s m args below meth c H1 lo1 (cells + 16) (slots + 3000) Q (F0 m 2472 ls1 [])) : W p_ l e_ room_1 s m args below meth c H lo cells slots Q (F0 m 312 ls []) := by
  have hx := hC.2.2.1
  have hb := hC.2.2.2.1
  obtain ⟨α, ξ, M, N, μ, K, dp, th, f1, f2, hRB, rfl, hR, h1, h2, hK, hN2⟩ := hI
  refine lv_aload_n hx hb dL_law_312 rfl (lv_at hl 2 rfl) ?_
  refine lv_aload_n hx hb dL_law_313 rfl (lv_at hl 1 rfl) ?_
  refine lv_iload hx hb dL_law_314 (lv_at hl 0 rfl) ?_
  refine lv_iconst (v := 1) hx hb dL_law_316 (by decide) ?_
  refine g_iadd1 hx hb dL_law_317 ?_
  refine g_sld (q := ((7 * n) + 1)) hC hX hbl hS (by omega) (by omega) dL_law_318 ?_
  refine lv_aload_n hx hb dL_law_319 rfl (lv_at hl 4 rfl) ?_
  refine g_cWi (k2 := cells + 4) (n2 := slots + 1030) (g_runSH (n := 3) (rest := []) hC (w_comeBack hE (α := α) (ξ := ξ) (M := M) (N := N) (B := lB β o1 o2) (xs ((7 * n) + 1)) (by omega) (o := o1) (f0 := f1) (Or.inr (Or.inl rfl)) hst.2.2.1) k_0 k_384 (by decide +kernel) k_382 k_383 ⟨hRB, h1⟩ rfl hl.1 dL_law_320 ⟨Nat.le_of_ble_eq_true rfl, Nat.le_of_ble_eq_true rfl⟩ ⟨by show cells + 0 + 4 ≤ 601024; omega, by show slots + 0 + 1030 ≤ 7293034; omega⟩ rfl (Nat.le_of_ble_eq_true rfl)) hS (fun q h => h.elim (fun h => h.1) (fun h => by rw [h]; exact hst.2.2.1)) (by show cells + 0 + 4 = cells + 4; omega) (by show slots + 0 + 1030 = slots + 1030; omega) (fun r1_ H lo h hz_ hk_ hS => ?_)
  obtain ⟨hr1, α1, M1, g1, hRB1, hm1, ha1, h1n, hv1⟩ := h
  obtain ⟨hR, h2⟩ := hst.x hR h2 hk_
  have h1 := h1n
  obtain ⟨kc, hkc⟩ : ∃ kc, kc = kBack (μ 0 (ix (xs ((7 * n) + 1))) = 0) (K 0) (xs ((7 * n) + 1)) := ⟨_, rfl⟩
  have hkx := (lk_comeBack hK (xs ((7 * n) + 1))).1
  rw [← hkc] at hkx
  rw [hkx] at hr1 hv1 hRB1 hm1
  subst hr1
  have hk5 : kc ≤ 4 := by rw [hkc]; unfold kBack; exact (cif_le (by decide) (cif_le (by decide) (by decide)))
  refine lv_istore (lv' := [(6, .int (nI kc)), (5, .int (nI (7 * n))), (0, .ref b), (1, .ref (α 3 0)), (2, .ref (β 19)), (3, .ref o1), (4, .ref o2)]) hx hb dL_law_323 hl (by decide) rfl (fun ls hl => ?_)
  refine lv_aload_n hx hb dL_law_325 rfl (lv_at hl 4 rfl) ?_
  refine lv_aload_n hx hb dL_law_326 rfl (lv_at hl 2 rfl) ?_
  refine lv_iload hx hb dL_law_327 (lv_at hl 1 rfl) ?_
  refine lv_iconst (v := 1) hx hb dL_law_329 (by decide) ?_
  refine g_iadd1 hx hb dL_law_330 ?_
  refine g_sld (q := ((7 * n) + 1)) hC hX hbl hS (by omega) (by omega) dL_law_331 ?_
  refine g_cWi (k2 := cells + 4) (n2 := slots + 1030) (g_runV (rest := []) hC (c_X5_comeBack hE (β := β) (μ := μ) (K := K) (dp := dp) (th := th) hK.mi (xs ((7 * n) + 1))) Y_X5_comeBack k_1099 I_X5_comeBack V_X5_comeBack hR.obj rfl hR rfl hl.1 dL_law_332 ⟨Nat.le_of_ble_eq_true rfl, Nat.le_of_ble_eq_true rfl⟩ ⟨by show cells + 4 + 0 ≤ 601024; omega, by show slots + 1030 + 0 ≤ 7293034; omega⟩ rfl (Nat.le_of_ble_eq_true rfl)) hS (fun q ⟨k, hk, e⟩ => by rw [e]; exact (hst.2.1 k hk).2.2) (by show cells + 4 + 0 = cells + 4; omega) (by show slots + 1030 + 0 = slots + 1030; omega) (fun r2_ H lo h hz_ hk_ hS => ?_)
  obtain ⟨dp1, hR, hv2⟩ := h
  rw [← hkc] at hR hv2
  obtain ⟨hRB1, h1, h2⟩ := hst.m hRB1 h1 h2 hz_ hk_
  refine lv_istore (lv' := [(7, .int r2_), (6, .int (nI kc)), (5, .int (nI (7 * n))), (0, .ref b), (1, .ref (α 3 0)), (2, .ref (β 19)), (3, .ref o1), (4, .ref o2)]) hx hb dL_law_335 hl (by decide) rfl (fun ls hl => ?_)
  refine lv_aload_n hx hb dL_law_337 rfl (lv_at hl 5 rfl) ?_
  refine g_cRi (k2 := cells + 4) (n2 := slots + 1030) (g_runV (rest := []) hC (c_X5_thrown hE (β := β) (dp := dp1) (th := nI kc)) Y_X5_thrown k_1076 I_X5_thrown V_X5_thrown hR.obj rfl hR rfl hl.1 dL_law_338 ⟨Nat.le_of_ble_eq_true rfl, Nat.le_of_ble_eq_true rfl⟩ ⟨by show cells + 4 + 0 ≤ 601024; omega, by show slots + 1030 + 0 ≤ 7293034; omega⟩ rfl (Nat.le_of_ble_eq_true rfl)) (by show cells + 4 + 0 = cells + 4; omega) (by show slots + 1030 + 0 = slots + 1030; omega) g_no (fun r3_ h => ?_)
  obtain rfl := h
  refine lv_iload hx hb dL_law_341 (lv_at hl 1 rfl) ?_
  refine lv_icmp_eq (tgt := 348) hx hb dL_law_343 (by decide) (fun c1_ => ?_) (fun c1_ => ?_)
  · refine lv_iload hx hb dL_law_348 (lv_at hl 1 rfl) ?_
    refine lv_if_ne (tgt := 365) hx hb dL_law_350 (by decide) (fun c2_ => ?_) (fun c2_ => ?_)
    · have q3_ : ¬ kc = 0 := fun z => c2_ (congrArg nI z)
      refine lv_goto (tgt := 2472) hx hb dL_law_365 (by decide) ?_
      exact W.widen (k := cells + 16) (n := slots + 3000) (by omega) (by omega) (kk H lo ls (LI.fin (M := M) hRB1 ha1 hm1 hR h1 h2 hK (fun hc => ((lk_comeBack hK (xs ((7 * n) + 1))).2 (hkc.symm.trans hc)).2) (by omega) (by first | (show N 2 + 1 ≤ n + 1; omega) | (show N 2 ≤ n + 1; omega))) hS (lv_sub hl [2, 3, 4, 5, 6, 7] rfl))
    · have q3_ : kc = 0 := (nI_eq (by omega) (by omega)).mp c2_
      have hq0 : kc = 0 := (nI_eq (by omega) (by omega)).mp c2_
      refine lv_aload_n hx hb dL_law_353 rfl (lv_at hl 6 rfl) ?_
      refine lv_iconst (v := 0) hx hb dL_law_354 (by decide) ?_
      obtain ⟨rx, hvx, hg1⟩ := hv1 hq0
      have hvb := hv2 hq0
      have hEq : g1 0 = (r2_).toInt64 := by rw [hg1, hvx, hvb, ((lk_comeBack hK (xs ((7 * n) + 1))).2 (hkc.symm.trans hq0)).1]
      refine g_lald (n := 1) (j := 0) hC h1 (by decide) (by decide) dL_law_355 ?_
      refine lv_iload hx hb dL_law_356 (lv_at hl 0 rfl) ?_
      refine lv_i2l (v := (r2_).toInt64) hx hb dL_law_358 rfl ?_
      refine g_lcmp hx hb hEq dL_law_359 ?_
      refine lv_if_eq (tgt := 365) hx hb dL_law_360 (by decide) (fun c4_ => ?_) (fun c4_ => ?_)
      · refine lv_goto (tgt := 2472) hx hb dL_law_365 (by decide) ?_
        exact W.widen (k := cells + 16) (n := slots + 3000) (by omega) (by omega) (kk H lo ls (LI.fin (M := M) hRB1 ha1 hm1 hR h1 h2 hK (fun hc => ((lk_comeBack hK (xs ((7 * n) + 1))).2 (hkc.symm.trans hc)).2) (by omega) (by first | (show N 2 + 1 ≤ n + 1; omega) | (show N 2 ≤ n + 1; omega))) hS (lv_sub hl [2, 3, 4, 5, 6, 7] rfl))
      · exact absurd (by decide) c4_
  · exact absurd rfl c1_
set_option maxHeartbeats 4000000 in
set_option maxRecDepth 100000 in
theorem q_actsFor {p_ : Program} {l : Launch} {e_ : Env} {s : State} {m : MethodId} {args : Array Value} {below : List Frame} {meth : Method} {c : Code} {Q : State → Prop} {E : gV} (hE : gOK l E) {β : Nat → Nat} {a0 o1 o2 b L : Nat} {xs : Nat → Int32} (hst : lS E β o1 o2) (hL : L ≤ 3584) (hX : va_X b L xs s E.2.1.heap) (hbl : b < E.2.1.heap.size) (hC : gC l E p_ s m meth c RL cL_law 8) {n cells slots : Nat} {H : Heap} {lo : List Loc} {ls : Array Slot} (hn : n < 512) (hi : 7 * n + 7 ≤ L) (hc1 : cells + 16 ≤ 601024) (hc2 : slots + 3000 ≤ 7293034) (hI : LI E β a0 o1 o2 n H) (hS : va_S (gA0 E) E.2.1.heap H lo) (hl : lv_has ls 8 [(5, .int (nI (7 * n))), (0, .ref b), (1, .ref a0), (2, .ref (β 19)), (3, .ref o1), (4, .ref o2)])
    (kk : ∀ (H1 : Heap) (lo1 : List Loc) (ls1 : Array Slot), LI E β a0 o1 o2 (n + 1) H1 → va_S (gA0 E) E.2.1.heap H1 lo1 → lv_has ls1 8 [(5, .int (nI (7 * n))), (0, .ref b), (1, .ref a0), (2, .ref (β 19)), (3, .ref o1), (4, .ref o2)] → W p_ l e_ room_1 s m args below meth c H1 lo1 (cells + 16) (slots + 3000) Q (F0 m 2472 ls1 [])) : W p_ l e_ room_1 s m args below meth c H lo cells slots Q (F0 m 368 ls []) := by
  have hx := hC.2.2.1
  have hb := hC.2.2.2.1
  obtain ⟨α, ξ, M, N, μ, K, dp, th, f1, f2, hRB, rfl, hR, h1, h2, hK, hN2⟩ := hI
  refine lv_aload_n hx hb dL_law_368 rfl (lv_at hl 2 rfl) ?_
  refine lv_aload_n hx hb dL_law_369 rfl (lv_at hl 1 rfl) ?_
  refine lv_iload hx hb dL_law_370 (lv_at hl 0 rfl) ?_
  refine lv_iconst (v := 1) hx hb dL_law_372 (by decide) ?_
  refine g_iadd1 hx hb dL_law_373 ?_
  refine g_sld (q := ((7 * n) + 1)) hC hX hbl hS (by omega) (by omega) dL_law_374 ?_
  refine lv_aload_n hx hb dL_law_375 rfl (lv_at hl 1 rfl) ?_
  refine lv_iload hx hb dL_law_376 (lv_at hl 0 rfl) ?_
  refine lv_iconst (v := 2) hx hb dL_law_378 (by decide) ?_
  refine g_iaddk 2 hx hb dL_law_379 ?_
  refine g_sld (q := ((7 * n) + 2)) hC hX hbl hS (by omega) (by omega) dL_law_380 ?_
  refine lv_aload_n hx hb dL_law_381 rfl (lv_at hl 4 rfl) ?_
  refine g_cWi (k2 := cells + 2) (n2 := slots + 12) (g_runSH (n := 4) (rest := []) hC (w_actsFor hE (α := α) (ξ := ξ) (M := M) (N := N) (B := lB β o1 o2) (xs ((7 * n) + 1)) (xs ((7 * n) + 2)) (o := o1) (f0 := f1) (Or.inr (Or.inl rfl)) hst.2.2.1) k_0 k_392 (by decide +kernel) k_390 k_391 ⟨hRB, h1⟩ rfl hl.1 dL_law_382 ⟨Nat.le_of_ble_eq_true rfl, Nat.le_of_ble_eq_true rfl⟩ ⟨by show cells + 0 + 2 ≤ 601024; omega, by show slots + 0 + 12 ≤ 7293034; omega⟩ rfl (Nat.le_of_ble_eq_true rfl)) hS (fun q h => h.elim (fun h => h.1) (fun h => by rw [h]; exact hst.2.2.1)) (by show cells + 0 + 2 = cells + 2; omega) (by show slots + 0 + 12 = slots + 12; omega) (fun r1_ H lo h hz_ hk_ hS => ?_)
  obtain ⟨hr1, α1, M1, g1, hRB1, hm1, ha1, h1n, hv1⟩ := h
  obtain ⟨hR, h2⟩ := hst.x hR h2 hk_
  have h1 := h1n
  obtain ⟨kc, hkc⟩ : ∃ kc, kc = kActs (K 0) (xs ((7 * n) + 1)) (xs ((7 * n) + 2)) := ⟨_, rfl⟩
  have hkx := (lk_actsFor hK (xs ((7 * n) + 1)) (xs ((7 * n) + 2))).1
  rw [← hkc] at hkx
  rw [hkx] at hr1 hv1 hRB1 hm1
  subst hr1
  have hk5 : kc ≤ 4 := by rw [hkc]; unfold kActs; exact (cif_le (by decide) (by decide))
  refine lv_istore (lv' := [(6, .int (nI kc)), (5, .int (nI (7 * n))), (0, .ref b), (1, .ref (α 3 0)), (2, .ref (β 19)), (3, .ref o1), (4, .ref o2)]) hx hb dL_law_385 hl (by decide) rfl (fun ls hl => ?_)
  refine lv_aload_n hx hb dL_law_387 rfl (lv_at hl 4 rfl) ?_
  refine lv_aload_n hx hb dL_law_388 rfl (lv_at hl 2 rfl) ?_
  refine lv_iload hx hb dL_law_389 (lv_at hl 1 rfl) ?_
  refine lv_iconst (v := 1) hx hb dL_law_391 (by decide) ?_
  refine g_iadd1 hx hb dL_law_392 ?_
  refine g_sld (q := ((7 * n) + 1)) hC hX hbl hS (by omega) (by omega) dL_law_393 ?_
  refine lv_aload_n hx hb dL_law_394 rfl (lv_at hl 2 rfl) ?_
  refine lv_iload hx hb dL_law_395 (lv_at hl 1 rfl) ?_
  refine lv_iconst (v := 2) hx hb dL_law_397 (by decide) ?_
  refine g_iaddk 2 hx hb dL_law_398 ?_
  refine g_sld (q := ((7 * n) + 2)) hC hX hbl hS (by omega) (by omega) dL_law_399 ?_
  refine g_cWi (k2 := cells + 2) (n2 := slots + 12) (g_runV (rest := []) hC (c_X5_actsFor hE (β := β) (μ := μ) (K := K) (dp := dp) (th := th) hK.mi (xs ((7 * n) + 1)) (xs ((7 * n) + 2))) Y_X5_actsFor k_1103 I_X5_actsFor V_X5_actsFor hR.obj rfl hR rfl hl.1 dL_law_400 ⟨Nat.le_of_ble_eq_true rfl, Nat.le_of_ble_eq_true rfl⟩ ⟨by show cells + 2 + 0 ≤ 601024; omega, by show slots + 12 + 0 ≤ 7293034; omega⟩ rfl (Nat.le_of_ble_eq_true rfl)) hS (fun q ⟨k, hk, e⟩ => by rw [e]; exact (hst.2.1 k hk).2.2) (by show cells + 2 + 0 = cells + 2; omega) (by show slots + 12 + 0 = slots + 12; omega) (fun r2_ H lo h hz_ hk_ hS => ?_)
  obtain ⟨dp1, hR, hv2⟩ := h
  rw [← hkc] at hR hv2
  obtain ⟨hRB1, h1, h2⟩ := hst.m hRB1 h1 h2 hz_ hk_
  refine lv_istore (lv' := [(7, .int r2_), (6, .int (nI kc)), (5, .int (nI (7 * n))), (0, .ref b), (1, .ref (α 3 0)), (2, .ref (β 19)), (3, .ref o1), (4, .ref o2)]) hx hb dL_law_403 hl (by decide) rfl (fun ls hl => ?_)
  refine lv_aload_n hx hb dL_law_405 rfl (lv_at hl 5 rfl) ?_
  refine g_cRi (k2 := cells + 2) (n2 := slots + 12) (g_runV (rest := []) hC (c_X5_thrown hE (β := β) (dp := dp1) (th := nI kc)) Y_X5_thrown k_1076 I_X5_thrown V_X5_thrown hR.obj rfl hR rfl hl.1 dL_law_406 ⟨Nat.le_of_ble_eq_true rfl, Nat.le_of_ble_eq_true rfl⟩ ⟨by show cells + 2 + 0 ≤ 601024; omega, by show slots + 12 + 0 ≤ 7293034; omega⟩ rfl (Nat.le_of_ble_eq_true rfl)) (by show cells + 2 + 0 = cells + 2; omega) (by show slots + 12 + 0 = slots + 12; omega) g_no (fun r3_ h => ?_)
  obtain rfl := h
  refine lv_iload hx hb dL_law_409 (lv_at hl 1 rfl) ?_
  refine lv_icmp_eq (tgt := 416) hx hb dL_law_411 (by decide) (fun c1_ => ?_) (fun c1_ => ?_)
  · refine lv_iload hx hb dL_law_416 (lv_at hl 1 rfl) ?_
    refine lv_if_ne (tgt := 440) hx hb dL_law_418 (by decide) (fun c2_ => ?_) (fun c2_ => ?_)
    · have q3_ : ¬ kc = 0 := fun z => c2_ (congrArg nI z)
      refine lv_goto (tgt := 2472) hx hb dL_law_440 (by decide) ?_
      exact W.widen (k := cells + 16) (n := slots + 3000) (by omega) (by omega) (kk H lo ls (LI.fin (M := M) hRB1 ha1 hm1 hR h1 h2 hK (fun hc => hK) (by omega) (by first | (show N 2 + 1 ≤ n + 1; omega) | (show N 2 ≤ n + 1; omega))) hS (lv_sub hl [2, 3, 4, 5, 6, 7] rfl))
    · have q3_ : kc = 0 := (nI_eq (by omega) (by omega)).mp c2_
      have hq0 : kc = 0 := (nI_eq (by omega) (by omega)).mp c2_
      refine lv_aload_n hx hb dL_law_421 rfl (lv_at hl 6 rfl) ?_
      refine lv_iconst (v := 0) hx hb dL_law_422 (by decide) ?_
      obtain ⟨rx, hvx, hg1⟩ := hv1 hq0
      have hvb := hv2 hq0
      have hEq : g1 0 = (if r2_ = 0 then 0 else 1) := by rw [hg1, bz_eq hvx hvb ((lk_actsFor hK (xs ((7 * n) + 1)) (xs ((7 * n) + 2))).2 (hkc.symm.trans hq0))]
      refine g_lald (n := 1) (j := 0) hC h1 (by decide) (by decide) dL_law_423 ?_
      refine lv_iload hx hb dL_law_424 (lv_at hl 0 rfl) ?_
      refine lv_if_eq (tgt := 433) hx hb dL_law_426 (by decide) (fun c4_ => ?_) (fun c4_ => ?_)
      · refine lv_lconst (v := 0) hx hb dL_law_433 (by decide) ?_
        refine g_lcmp hx hb (hEq.trans (if_pos c4_)) dL_law_434 ?_
        refine lv_if_eq (tgt := 440) hx hb dL_law_435 (by decide) (fun c6_ => ?_) (fun c6_ => ?_)
        · refine lv_goto (tgt := 2472) hx hb dL_law_440 (by decide) ?_
          exact W.widen (k := cells + 16) (n := slots + 3000) (by omega) (by omega) (kk H lo ls (LI.fin (M := M) hRB1 ha1 hm1 hR h1 h2 hK (fun hc => hK) (by omega) (by first | (show N 2 + 1 ≤ n + 1; omega) | (show N 2 ≤ n + 1; omega))) hS (lv_sub hl [2, 3, 4, 5, 6, 7] rfl))
        · exact absurd (by decide) c6_
      · refine lv_lconst (v := 1) hx hb dL_law_429 (by decide) ?_
        refine lv_goto (tgt := 434) hx hb dL_law_430 (by decide) ?_
        refine g_lcmp hx hb (hEq.trans (if_neg c4_)) dL_law_434 ?_
        refine lv_if_eq (tgt := 440) hx hb dL_law_435 (by decide) (fun c7_ => ?_) (fun c7_ => ?_)
        · refine lv_goto (tgt := 2472) hx hb dL_law_440 (by decide) ?_
          exact W.widen (k := cells + 16) (n := slots + 3000) (by omega) (by omega) (kk H lo ls (LI.fin (M := M) hRB1 ha1 hm1 hR h1 h2 hK (fun hc => hK) (by omega) (by first | (show N 2 + 1 ≤ n + 1; omega) | (show N 2 ≤ n + 1; omega))) hS (lv_sub hl [2, 3, 4, 5, 6, 7] rfl))
        · exact absurd (by decide) c7_
  · exact absurd rfl c1_
set_option maxHeartbeats 4000000 in
set_option maxRecDepth 100000 in
theorem q_grant {p_ : Program} {l : Launch} {e_ : Env} {s : State} {m : MethodId} {args : Array Value} {below : List Frame} {meth : Method} {c : Code} {Q : State → Prop} {E : gV} (hE : gOK l E) {β : Nat → Nat} {a0 o1 o2 b L : Nat} {xs : Nat → Int32} (hst : lS E β o1 o2) (hL : L ≤ 3584) (hX : va_X b L xs s E.2.1.heap) (hbl : b < E.2.1.heap.size) (hC : gC l E p_ s m meth c RL cL_law 8) {n cells slots : Nat} {H : Heap} {lo : List Loc} {ls : Array Slot} (hn : n < 512) (hi : 7 * n + 7 ≤ L) (hc1 : cells + 16 ≤ 601024) (hc2 : slots + 3000 ≤ 7293034) (hI : LI E β a0 o1 o2 n H) (hS : va_S (gA0 E) E.2.1.heap H lo) (hl : lv_has ls 8 [(5, .int (nI (7 * n))), (0, .ref b), (1, .ref a0), (2, .ref (β 19)), (3, .ref o1), (4, .ref o2)])
    (kk : ∀ (H1 : Heap) (lo1 : List Loc) (ls1 : Array Slot), LI E β a0 o1 o2 (n + 1) H1 → va_S (gA0 E) E.2.1.heap H1 lo1 → lv_has ls1 8 [(5, .int (nI (7 * n))), (0, .ref b), (1, .ref a0), (2, .ref (β 19)), (3, .ref o1), (4, .ref o2)] → W p_ l e_ room_1 s m args below meth c H1 lo1 (cells + 16) (slots + 3000) Q (F0 m 2472 ls1 [])) : W p_ l e_ room_1 s m args below meth c H lo cells slots Q (F0 m 443 ls []) := by
  have hx := hC.2.2.1
  have hb := hC.2.2.2.1
  obtain ⟨α, ξ, M, N, μ, K, dp, th, f1, f2, hRB, rfl, hR, h1, h2, hK, hN2⟩ := hI
  refine lv_aload_n hx hb dL_law_443 rfl (lv_at hl 2 rfl) ?_
  refine lv_aload_n hx hb dL_law_444 rfl (lv_at hl 1 rfl) ?_
  refine lv_iload hx hb dL_law_445 (lv_at hl 0 rfl) ?_
  refine lv_iconst (v := 1) hx hb dL_law_447 (by decide) ?_
  refine g_iadd1 hx hb dL_law_448 ?_
  refine g_sld (q := ((7 * n) + 1)) hC hX hbl hS (by omega) (by omega) dL_law_449 ?_
  refine lv_aload_n hx hb dL_law_450 rfl (lv_at hl 1 rfl) ?_
  refine lv_iload hx hb dL_law_451 (lv_at hl 0 rfl) ?_
  refine lv_iconst (v := 2) hx hb dL_law_453 (by decide) ?_
  refine g_iaddk 2 hx hb dL_law_454 ?_
  refine g_sld (q := ((7 * n) + 2)) hC hX hbl hS (by omega) (by omega) dL_law_455 ?_
  refine lv_aload_n hx hb dL_law_456 rfl (lv_at hl 1 rfl) ?_
  refine lv_iload hx hb dL_law_457 (lv_at hl 0 rfl) ?_
  refine lv_iconst (v := 3) hx hb dL_law_459 (by decide) ?_
  refine g_iaddk 3 hx hb dL_law_460 ?_
  refine g_sld (q := ((7 * n) + 3)) hC hX hbl hS (by omega) (by omega) dL_law_461 ?_
  refine lv_i2c (v := chr (xs ((7 * n) + 3))) hx hb dL_law_462 rfl ?_
  refine lv_aload_n hx hb dL_law_463 rfl (lv_at hl 1 rfl) ?_
  refine lv_iload hx hb dL_law_464 (lv_at hl 0 rfl) ?_
  refine lv_iconst (v := 4) hx hb dL_law_466 (by decide) ?_
  refine g_iaddk 4 hx hb dL_law_467 ?_
  refine g_sld (q := ((7 * n) + 4)) hC hX hbl hS (by omega) (by omega) dL_law_468 ?_
  refine lv_aload_n hx hb dL_law_469 rfl (lv_at hl 1 rfl) ?_
  refine lv_iload hx hb dL_law_470 (lv_at hl 0 rfl) ?_
  refine lv_iconst (v := 5) hx hb dL_law_472 (by decide) ?_
  refine g_iaddk 5 hx hb dL_law_473 ?_
  refine g_sld (q := ((7 * n) + 5)) hC hX hbl hS (by omega) (by omega) dL_law_474 ?_
  refine lv_aload_n hx hb dL_law_475 rfl (lv_at hl 1 rfl) ?_
  refine lv_iload hx hb dL_law_476 (lv_at hl 0 rfl) ?_
  refine lv_bipush (v := 6) hx hb dL_law_478 (by decide) ?_
  refine g_iaddk 6 hx hb dL_law_480 ?_
  refine g_sld (q := ((7 * n) + 6)) hC hX hbl hS (by omega) (by omega) dL_law_481 ?_
  refine lv_aload_n hx hb dL_law_482 rfl (lv_at hl 4 rfl) ?_
  refine g_cWi (k2 := cells + 8) (n2 := slots + 2050) (g_runSH (n := 8) (rest := []) hC (w_grant hE (α := α) (ξ := ξ) (M := M) (N := N) (B := lB β o1 o2) (xs ((7 * n) + 1)) (xs ((7 * n) + 2)) (chr (xs ((7 * n) + 3))) (xs ((7 * n) + 4)) (xs ((7 * n) + 5)) (xs ((7 * n) + 6)) (by omega) (o := o1) (f0 := f1) (Or.inr (Or.inl rfl)) hst.2.2.1) k_0 k_404 (by decide +kernel) k_402 k_403 ⟨hRB, h1⟩ rfl hl.1 dL_law_483 ⟨Nat.le_of_ble_eq_true rfl, Nat.le_of_ble_eq_true rfl⟩ ⟨by show cells + 0 + 8 ≤ 601024; omega, by show slots + 0 + 2050 ≤ 7293034; omega⟩ rfl (Nat.le_of_ble_eq_true rfl)) hS (fun q h => h.elim (fun h => h.1) (fun h => by rw [h]; exact hst.2.2.1)) (by show cells + 0 + 8 = cells + 8; omega) (by show slots + 0 + 2050 = slots + 2050; omega) (fun r1_ H lo h hz_ hk_ hS => ?_)
  obtain ⟨hr1, α1, M1, g1, hRB1, hm1, ha1, h1n, hv1⟩ := h
  obtain ⟨hR, h2⟩ := hst.x hR h2 hk_
  have h1 := h1n
  obtain ⟨kc, hkc⟩ : ∃ kc, kc = kGrant (K 0) (K 1) (xs ((7 * n) + 1)) (xs ((7 * n) + 2)) (chr (xs ((7 * n) + 3))) (xs ((7 * n) + 4)) (xs ((7 * n) + 5)) (xs ((7 * n) + 6)) := ⟨_, rfl⟩
  have hkx := (lk_grant hK (xs ((7 * n) + 1)) (xs ((7 * n) + 2)) (chr (xs ((7 * n) + 3))) (xs ((7 * n) + 4)) (xs ((7 * n) + 5)) (xs ((7 * n) + 6))).1
  rw [← hkc] at hkx
  rw [hkx] at hr1 hv1 hRB1 hm1
  subst hr1
  have hk5 : kc ≤ 4 := by rw [hkc]; unfold kGrant; exact (cif_le (by decide) (cif_le (by decide) (cif_le (by decide) (by decide))))
  refine lv_istore (lv' := [(6, .int (nI kc)), (5, .int (nI (7 * n))), (0, .ref b), (1, .ref (α 3 0)), (2, .ref (β 19)), (3, .ref o1), (4, .ref o2)]) hx hb dL_law_486 hl (by decide) rfl (fun ls hl => ?_)
  refine lv_aload_n hx hb dL_law_488 rfl (lv_at hl 4 rfl) ?_
  refine lv_aload_n hx hb dL_law_489 rfl (lv_at hl 2 rfl) ?_
  refine lv_iload hx hb dL_law_490 (lv_at hl 1 rfl) ?_
  refine lv_iconst (v := 1) hx hb dL_law_492 (by decide) ?_
  refine g_iadd1 hx hb dL_law_493 ?_
  refine g_sld (q := ((7 * n) + 1)) hC hX hbl hS (by omega) (by omega) dL_law_494 ?_
  refine lv_aload_n hx hb dL_law_495 rfl (lv_at hl 2 rfl) ?_
  refine lv_iload hx hb dL_law_496 (lv_at hl 1 rfl) ?_
  refine lv_iconst (v := 2) hx hb dL_law_498 (by decide) ?_
  refine g_iaddk 2 hx hb dL_law_499 ?_
  refine g_sld (q := ((7 * n) + 2)) hC hX hbl hS (by omega) (by omega) dL_law_500 ?_
  refine lv_aload_n hx hb dL_law_501 rfl (lv_at hl 2 rfl) ?_
  refine lv_iload hx hb dL_law_502 (lv_at hl 1 rfl) ?_
  refine lv_iconst (v := 3) hx hb dL_law_504 (by decide) ?_
  refine g_iaddk 3 hx hb dL_law_505 ?_
  refine g_sld (q := ((7 * n) + 3)) hC hX hbl hS (by omega) (by omega) dL_law_506 ?_
  refine lv_i2c (v := chr (xs ((7 * n) + 3))) hx hb dL_law_507 rfl ?_
  refine lv_aload_n hx hb dL_law_508 rfl (lv_at hl 2 rfl) ?_
  refine lv_iload hx hb dL_law_509 (lv_at hl 1 rfl) ?_
  refine lv_iconst (v := 4) hx hb dL_law_511 (by decide) ?_
  refine g_iaddk 4 hx hb dL_law_512 ?_
  refine g_sld (q := ((7 * n) + 4)) hC hX hbl hS (by omega) (by omega) dL_law_513 ?_
  refine lv_aload_n hx hb dL_law_514 rfl (lv_at hl 2 rfl) ?_
  refine lv_iload hx hb dL_law_515 (lv_at hl 1 rfl) ?_
  refine lv_iconst (v := 5) hx hb dL_law_517 (by decide) ?_
  refine g_iaddk 5 hx hb dL_law_518 ?_
  refine g_sld (q := ((7 * n) + 5)) hC hX hbl hS (by omega) (by omega) dL_law_519 ?_
  refine lv_aload_n hx hb dL_law_520 rfl (lv_at hl 2 rfl) ?_
  refine lv_iload hx hb dL_law_521 (lv_at hl 1 rfl) ?_
  refine lv_bipush (v := 6) hx hb dL_law_523 (by decide) ?_
  refine g_iaddk 6 hx hb dL_law_525 ?_
  refine g_sld (q := ((7 * n) + 6)) hC hX hbl hS (by omega) (by omega) dL_law_526 ?_
  refine g_cWi (k2 := cells + 8) (n2 := slots + 2050) (g_runV (rest := []) hC (c_X5_grant hE (β := β) (μ := μ) (K := K) (dp := dp) (th := th) hK.mi (xs ((7 * n) + 1)) (xs ((7 * n) + 2)) (chr (xs ((7 * n) + 3))) (xs ((7 * n) + 4)) (xs ((7 * n) + 5)) (xs ((7 * n) + 6)) (chr_n _)) Y_X5_grant k_1111 I_X5_grant V_X5_grant hR.obj rfl hR rfl hl.1 dL_law_527 ⟨Nat.le_of_ble_eq_true rfl, Nat.le_of_ble_eq_true rfl⟩ ⟨by show cells + 8 + 0 ≤ 601024; omega, by show slots + 2050 + 0 ≤ 7293034; omega⟩ rfl (Nat.le_of_ble_eq_true rfl)) hS (fun q ⟨k, hk, e⟩ => by rw [e]; exact (hst.2.1 k hk).2.2) (by show cells + 8 + 0 = cells + 8; omega) (by show slots + 2050 + 0 = slots + 2050; omega) (fun r2_ H lo h hz_ hk_ hS => ?_)
  obtain ⟨dp1, hR, hv2⟩ := h
  rw [← hkc] at hR hv2
  obtain ⟨hRB1, h1, h2⟩ := hst.m hRB1 h1 h2 hz_ hk_
  refine lv_istore (lv' := [(7, .int r2_), (6, .int (nI kc)), (5, .int (nI (7 * n))), (0, .ref b), (1, .ref (α 3 0)), (2, .ref (β 19)), (3, .ref o1), (4, .ref o2)]) hx hb dL_law_530 hl (by decide) rfl (fun ls hl => ?_)
  refine lv_aload_n hx hb dL_law_532 rfl (lv_at hl 5 rfl) ?_
  refine g_cRi (k2 := cells + 8) (n2 := slots + 2050) (g_runV (rest := []) hC (c_X5_thrown hE (β := β) (dp := dp1) (th := nI kc)) Y_X5_thrown k_1076 I_X5_thrown V_X5_thrown hR.obj rfl hR rfl hl.1 dL_law_533 ⟨Nat.le_of_ble_eq_true rfl, Nat.le_of_ble_eq_true rfl⟩ ⟨by show cells + 8 + 0 ≤ 601024; omega, by show slots + 2050 + 0 ≤ 7293034; omega⟩ rfl (Nat.le_of_ble_eq_true rfl)) (by show cells + 8 + 0 = cells + 8; omega) (by show slots + 2050 + 0 = slots + 2050; omega) g_no (fun r3_ h => ?_)
  obtain rfl := h
  refine lv_iload hx hb dL_law_536 (lv_at hl 1 rfl) ?_
  refine lv_icmp_eq (tgt := 543) hx hb dL_law_538 (by decide) (fun c1_ => ?_) (fun c1_ => ?_)
  · refine lv_iload hx hb dL_law_543 (lv_at hl 1 rfl) ?_
    refine lv_if_ne (tgt := 560) hx hb dL_law_545 (by decide) (fun c2_ => ?_) (fun c2_ => ?_)
    · have q3_ : ¬ kc = 0 := fun z => c2_ (congrArg nI z)
      refine lv_goto (tgt := 2472) hx hb dL_law_560 (by decide) ?_
      exact W.widen (k := cells + 16) (n := slots + 3000) (by omega) (by omega) (kk H lo ls (LI.fin (M := M) hRB1 ha1 hm1 hR h1 h2 hK (fun hc => ((lk_grant hK (xs ((7 * n) + 1)) (xs ((7 * n) + 2)) (chr (xs ((7 * n) + 3))) (xs ((7 * n) + 4)) (xs ((7 * n) + 5)) (xs ((7 * n) + 6))).2 (hkc.symm.trans hc)).2) (by omega) (by first | (show N 2 + 1 ≤ n + 1; omega) | (show N 2 ≤ n + 1; omega))) hS (lv_sub hl [2, 3, 4, 5, 6, 7] rfl))
    · have q3_ : kc = 0 := (nI_eq (by omega) (by omega)).mp c2_
      have hq0 : kc = 0 := (nI_eq (by omega) (by omega)).mp c2_
      refine lv_aload_n hx hb dL_law_548 rfl (lv_at hl 6 rfl) ?_
      refine lv_iconst (v := 0) hx hb dL_law_549 (by decide) ?_
      obtain ⟨rx, hvx, hg1⟩ := hv1 hq0
      have hvb := hv2 hq0
      have hEq : g1 0 = (r2_).toInt64 := by rw [hg1, hvx, hvb, ((lk_grant hK (xs ((7 * n) + 1)) (xs ((7 * n) + 2)) (chr (xs ((7 * n) + 3))) (xs ((7 * n) + 4)) (xs ((7 * n) + 5)) (xs ((7 * n) + 6))).2 (hkc.symm.trans hq0)).1]
      refine g_lald (n := 1) (j := 0) hC h1 (by decide) (by decide) dL_law_550 ?_
      refine lv_iload hx hb dL_law_551 (lv_at hl 0 rfl) ?_
      refine lv_i2l (v := (r2_).toInt64) hx hb dL_law_553 rfl ?_
      refine g_lcmp hx hb hEq dL_law_554 ?_
      refine lv_if_eq (tgt := 560) hx hb dL_law_555 (by decide) (fun c4_ => ?_) (fun c4_ => ?_)
      · refine lv_goto (tgt := 2472) hx hb dL_law_560 (by decide) ?_
        exact W.widen (k := cells + 16) (n := slots + 3000) (by omega) (by omega) (kk H lo ls (LI.fin (M := M) hRB1 ha1 hm1 hR h1 h2 hK (fun hc => ((lk_grant hK (xs ((7 * n) + 1)) (xs ((7 * n) + 2)) (chr (xs ((7 * n) + 3))) (xs ((7 * n) + 4)) (xs ((7 * n) + 5)) (xs ((7 * n) + 6))).2 (hkc.symm.trans hc)).2) (by omega) (by first | (show N 2 + 1 ≤ n + 1; omega) | (show N 2 ≤ n + 1; omega))) hS (lv_sub hl [2, 3, 4, 5, 6, 7] rfl))
      · exact absurd (by decide) c4_
  · exact absurd rfl c1_
set_option maxHeartbeats 4000000 in
set_option maxRecDepth 100000 in
theorem q_delegate {p_ : Program} {l : Launch} {e_ : Env} {s : State} {m : MethodId} {args : Array Value} {below : List Frame} {meth : Method} {c : Code} {Q : State → Prop} {E : gV} (hE : gOK l E) {β : Nat → Nat} {a0 o1 o2 b L : Nat} {xs : Nat → Int32} (hst : lS E β o1 o2) (hL : L ≤ 3584) (hX : va_X b L xs s E.2.1.heap) (hbl : b < E.2.1.heap.size) (hC : gC l E p_ s m meth c RL cL_law 8) {n cells slots : Nat} {H : Heap} {lo : List Loc} {ls : Array Slot} (hn : n < 512) (hi : 7 * n + 7 ≤ L) (hc1 : cells + 16 ≤ 601024) (hc2 : slots + 3000 ≤ 7293034) (hI : LI E β a0 o1 o2 n H) (hS : va_S (gA0 E) E.2.1.heap H lo) (hl : lv_has ls 8 [(5, .int (nI (7 * n))), (0, .ref b), (1, .ref a0), (2, .ref (β 19)), (3, .ref o1), (4, .ref o2)])
    (kk : ∀ (H1 : Heap) (lo1 : List Loc) (ls1 : Array Slot), LI E β a0 o1 o2 (n + 1) H1 → va_S (gA0 E) E.2.1.heap H1 lo1 → lv_has ls1 8 [(5, .int (nI (7 * n))), (0, .ref b), (1, .ref a0), (2, .ref (β 19)), (3, .ref o1), (4, .ref o2)] → W p_ l e_ room_1 s m args below meth c H1 lo1 (cells + 16) (slots + 3000) Q (F0 m 2472 ls1 [])) : W p_ l e_ room_1 s m args below meth c H lo cells slots Q (F0 m 563 ls []) := by
  have hx := hC.2.2.1
  have hb := hC.2.2.2.1
  obtain ⟨α, ξ, M, N, μ, K, dp, th, f1, f2, hRB, rfl, hR, h1, h2, hK, hN2⟩ := hI
  refine lv_aload_n hx hb dL_law_563 rfl (lv_at hl 2 rfl) ?_
  refine lv_aload_n hx hb dL_law_564 rfl (lv_at hl 1 rfl) ?_
  refine lv_iload hx hb dL_law_565 (lv_at hl 0 rfl) ?_
  refine lv_iconst (v := 1) hx hb dL_law_567 (by decide) ?_
  refine g_iadd1 hx hb dL_law_568 ?_
  refine g_sld (q := ((7 * n) + 1)) hC hX hbl hS (by omega) (by omega) dL_law_569 ?_
  refine lv_aload_n hx hb dL_law_570 rfl (lv_at hl 1 rfl) ?_
  refine lv_iload hx hb dL_law_571 (lv_at hl 0 rfl) ?_
  refine lv_iconst (v := 2) hx hb dL_law_573 (by decide) ?_
  refine g_iaddk 2 hx hb dL_law_574 ?_
  refine g_sld (q := ((7 * n) + 2)) hC hX hbl hS (by omega) (by omega) dL_law_575 ?_
  refine lv_aload_n hx hb dL_law_576 rfl (lv_at hl 1 rfl) ?_
  refine lv_iload hx hb dL_law_577 (lv_at hl 0 rfl) ?_
  refine lv_iconst (v := 3) hx hb dL_law_579 (by decide) ?_
  refine g_iaddk 3 hx hb dL_law_580 ?_
  refine g_sld (q := ((7 * n) + 3)) hC hX hbl hS (by omega) (by omega) dL_law_581 ?_
  refine lv_aload_n hx hb dL_law_582 rfl (lv_at hl 1 rfl) ?_
  refine lv_iload hx hb dL_law_583 (lv_at hl 0 rfl) ?_
  refine lv_iconst (v := 4) hx hb dL_law_585 (by decide) ?_
  refine g_iaddk 4 hx hb dL_law_586 ?_
  refine g_sld (q := ((7 * n) + 4)) hC hX hbl hS (by omega) (by omega) dL_law_587 ?_
  refine lv_aload_n hx hb dL_law_588 rfl (lv_at hl 1 rfl) ?_
  refine lv_iload hx hb dL_law_589 (lv_at hl 0 rfl) ?_
  refine lv_iconst (v := 5) hx hb dL_law_591 (by decide) ?_
  refine g_iaddk 5 hx hb dL_law_592 ?_
  refine g_sld (q := ((7 * n) + 5)) hC hX hbl hS (by omega) (by omega) dL_law_593 ?_
  refine lv_aload_n hx hb dL_law_594 rfl (lv_at hl 4 rfl) ?_
  refine g_cWi (k2 := cells + 8) (n2 := slots + 2050) (g_runSH (n := 7) (rest := []) hC (w_delegate hE (α := α) (ξ := ξ) (M := M) (N := N) (B := lB β o1 o2) (xs ((7 * n) + 1)) (xs ((7 * n) + 2)) (xs ((7 * n) + 3)) (xs ((7 * n) + 4)) (xs ((7 * n) + 5)) (by omega) (o := o1) (f0 := f1) (Or.inr (Or.inl rfl)) hst.2.2.1) k_0 k_476 (by decide +kernel) k_474 k_475 ⟨hRB, h1⟩ rfl hl.1 dL_law_595 ⟨Nat.le_of_ble_eq_true rfl, Nat.le_of_ble_eq_true rfl⟩ ⟨by show cells + 0 + 8 ≤ 601024; omega, by show slots + 0 + 2050 ≤ 7293034; omega⟩ rfl (Nat.le_of_ble_eq_true rfl)) hS (fun q h => h.elim (fun h => h.1) (fun h => by rw [h]; exact hst.2.2.1)) (by show cells + 0 + 8 = cells + 8; omega) (by show slots + 0 + 2050 = slots + 2050; omega) (fun r1_ H lo h hz_ hk_ hS => ?_)
  obtain ⟨hr1, α1, M1, g1, hRB1, hm1, ha1, h1n, hv1⟩ := h
  obtain ⟨hR, h2⟩ := hst.x hR h2 hk_
  have h1 := h1n
  obtain ⟨kc, hkc⟩ : ∃ kc, kc = kDel (mv μ) (K 0) (K 1) (xs ((7 * n) + 1)) (xs ((7 * n) + 2)) (xs ((7 * n) + 3)) (xs ((7 * n) + 4)) (xs ((7 * n) + 5)) := ⟨_, rfl⟩
  have hkx := (lk_delegate hK (xs ((7 * n) + 1)) (xs ((7 * n) + 2)) (xs ((7 * n) + 3)) (xs ((7 * n) + 4)) (xs ((7 * n) + 5))).1
  rw [← hkc] at hkx
  rw [hkx] at hr1 hv1 hRB1 hm1
  subst hr1
  have hk5 : kc ≤ 4 := by rw [hkc]; unfold kDel; exact (cif_le (by decide) (cif_le (by decide) (cif_le (by decide) (cif_le (by decide) (by decide)))))
  refine lv_istore (lv' := [(6, .int (nI kc)), (5, .int (nI (7 * n))), (0, .ref b), (1, .ref (α 3 0)), (2, .ref (β 19)), (3, .ref o1), (4, .ref o2)]) hx hb dL_law_598 hl (by decide) rfl (fun ls hl => ?_)
  refine lv_aload_n hx hb dL_law_600 rfl (lv_at hl 4 rfl) ?_
  refine lv_aload_n hx hb dL_law_601 rfl (lv_at hl 2 rfl) ?_
  refine lv_iload hx hb dL_law_602 (lv_at hl 1 rfl) ?_
  refine lv_iconst (v := 1) hx hb dL_law_604 (by decide) ?_
  refine g_iadd1 hx hb dL_law_605 ?_
  refine g_sld (q := ((7 * n) + 1)) hC hX hbl hS (by omega) (by omega) dL_law_606 ?_
  refine lv_aload_n hx hb dL_law_607 rfl (lv_at hl 2 rfl) ?_
  refine lv_iload hx hb dL_law_608 (lv_at hl 1 rfl) ?_
  refine lv_iconst (v := 2) hx hb dL_law_610 (by decide) ?_
  refine g_iaddk 2 hx hb dL_law_611 ?_
  refine g_sld (q := ((7 * n) + 2)) hC hX hbl hS (by omega) (by omega) dL_law_612 ?_
  refine lv_aload_n hx hb dL_law_613 rfl (lv_at hl 2 rfl) ?_
  refine lv_iload hx hb dL_law_614 (lv_at hl 1 rfl) ?_
  refine lv_iconst (v := 3) hx hb dL_law_616 (by decide) ?_
  refine g_iaddk 3 hx hb dL_law_617 ?_
  refine g_sld (q := ((7 * n) + 3)) hC hX hbl hS (by omega) (by omega) dL_law_618 ?_
  refine lv_aload_n hx hb dL_law_619 rfl (lv_at hl 2 rfl) ?_
  refine lv_iload hx hb dL_law_620 (lv_at hl 1 rfl) ?_
  refine lv_iconst (v := 4) hx hb dL_law_622 (by decide) ?_
  refine g_iaddk 4 hx hb dL_law_623 ?_
  refine g_sld (q := ((7 * n) + 4)) hC hX hbl hS (by omega) (by omega) dL_law_624 ?_
  refine lv_aload_n hx hb dL_law_625 rfl (lv_at hl 2 rfl) ?_
  refine lv_iload hx hb dL_law_626 (lv_at hl 1 rfl) ?_
  refine lv_iconst (v := 5) hx hb dL_law_628 (by decide) ?_
  refine g_iaddk 5 hx hb dL_law_629 ?_
  refine g_sld (q := ((7 * n) + 5)) hC hX hbl hS (by omega) (by omega) dL_law_630 ?_
  refine g_cWi (k2 := cells + 8) (n2 := slots + 2050) (g_runV (rest := []) hC (c_X5_delegate hE (β := β) (μ := μ) (K := K) (dp := dp) (th := th) hK.mi (xs ((7 * n) + 1)) (xs ((7 * n) + 2)) (xs ((7 * n) + 3)) (xs ((7 * n) + 4)) (xs ((7 * n) + 5)) hK.hcs) Y_X5_delegate k_1123 I_X5_delegate V_X5_delegate hR.obj rfl hR rfl hl.1 dL_law_631 ⟨Nat.le_of_ble_eq_true rfl, Nat.le_of_ble_eq_true rfl⟩ ⟨by show cells + 8 + 0 ≤ 601024; omega, by show slots + 2050 + 0 ≤ 7293034; omega⟩ rfl (Nat.le_of_ble_eq_true rfl)) hS (fun q ⟨k, hk, e⟩ => by rw [e]; exact (hst.2.1 k hk).2.2) (by show cells + 8 + 0 = cells + 8; omega) (by show slots + 2050 + 0 = slots + 2050; omega) (fun r2_ H lo h hz_ hk_ hS => ?_)
  obtain ⟨dp1, hR, hv2⟩ := h
  rw [← hkc] at hR hv2
  obtain ⟨hRB1, h1, h2⟩ := hst.m hRB1 h1 h2 hz_ hk_
  refine lv_istore (lv' := [(7, .int r2_), (6, .int (nI kc)), (5, .int (nI (7 * n))), (0, .ref b), (1, .ref (α 3 0)), (2, .ref (β 19)), (3, .ref o1), (4, .ref o2)]) hx hb dL_law_634 hl (by decide) rfl (fun ls hl => ?_)
  refine lv_aload_n hx hb dL_law_636 rfl (lv_at hl 5 rfl) ?_
  refine g_cRi (k2 := cells + 8) (n2 := slots + 2050) (g_runV (rest := []) hC (c_X5_thrown hE (β := β) (dp := dp1) (th := nI kc)) Y_X5_thrown k_1076 I_X5_thrown V_X5_thrown hR.obj rfl hR rfl hl.1 dL_law_637 ⟨Nat.le_of_ble_eq_true rfl, Nat.le_of_ble_eq_true rfl⟩ ⟨by show cells + 8 + 0 ≤ 601024; omega, by show slots + 2050 + 0 ≤ 7293034; omega⟩ rfl (Nat.le_of_ble_eq_true rfl)) (by show cells + 8 + 0 = cells + 8; omega) (by show slots + 2050 + 0 = slots + 2050; omega) g_no (fun r3_ h => ?_)
  obtain rfl := h
  refine lv_iload hx hb dL_law_640 (lv_at hl 1 rfl) ?_
  refine lv_icmp_eq (tgt := 647) hx hb dL_law_642 (by decide) (fun c1_ => ?_) (fun c1_ => ?_)
  · refine lv_iload hx hb dL_law_647 (lv_at hl 1 rfl) ?_
    refine lv_if_ne (tgt := 664) hx hb dL_law_649 (by decide) (fun c2_ => ?_) (fun c2_ => ?_)
    · have q3_ : ¬ kc = 0 := fun z => c2_ (congrArg nI z)
      refine lv_goto (tgt := 2472) hx hb dL_law_664 (by decide) ?_
      exact W.widen (k := cells + 16) (n := slots + 3000) (by omega) (by omega) (kk H lo ls (LI.fin (M := M) hRB1 ha1 hm1 hR h1 h2 hK (fun hc => ((lk_delegate hK (xs ((7 * n) + 1)) (xs ((7 * n) + 2)) (xs ((7 * n) + 3)) (xs ((7 * n) + 4)) (xs ((7 * n) + 5))).2 (hkc.symm.trans hc)).2) (by omega) (by first | (show N 2 + 1 ≤ n + 1; omega) | (show N 2 ≤ n + 1; omega))) hS (lv_sub hl [2, 3, 4, 5, 6, 7] rfl))
    · have q3_ : kc = 0 := (nI_eq (by omega) (by omega)).mp c2_
      have hq0 : kc = 0 := (nI_eq (by omega) (by omega)).mp c2_
      refine lv_aload_n hx hb dL_law_652 rfl (lv_at hl 6 rfl) ?_
      refine lv_iconst (v := 0) hx hb dL_law_653 (by decide) ?_
      obtain ⟨rx, hvx, hg1⟩ := hv1 hq0
      have hvb := hv2 hq0
      have hEq : g1 0 = (r2_).toInt64 := by rw [hg1, hvx, hvb, ((lk_delegate hK (xs ((7 * n) + 1)) (xs ((7 * n) + 2)) (xs ((7 * n) + 3)) (xs ((7 * n) + 4)) (xs ((7 * n) + 5))).2 (hkc.symm.trans hq0)).1]
      refine g_lald (n := 1) (j := 0) hC h1 (by decide) (by decide) dL_law_654 ?_
      refine lv_iload hx hb dL_law_655 (lv_at hl 0 rfl) ?_
      refine lv_i2l (v := (r2_).toInt64) hx hb dL_law_657 rfl ?_
      refine g_lcmp hx hb hEq dL_law_658 ?_
      refine lv_if_eq (tgt := 664) hx hb dL_law_659 (by decide) (fun c4_ => ?_) (fun c4_ => ?_)
      · refine lv_goto (tgt := 2472) hx hb dL_law_664 (by decide) ?_
        exact W.widen (k := cells + 16) (n := slots + 3000) (by omega) (by omega) (kk H lo ls (LI.fin (M := M) hRB1 ha1 hm1 hR h1 h2 hK (fun hc => ((lk_delegate hK (xs ((7 * n) + 1)) (xs ((7 * n) + 2)) (xs ((7 * n) + 3)) (xs ((7 * n) + 4)) (xs ((7 * n) + 5))).2 (hkc.symm.trans hc)).2) (by omega) (by first | (show N 2 + 1 ≤ n + 1; omega) | (show N 2 ≤ n + 1; omega))) hS (lv_sub hl [2, 3, 4, 5, 6, 7] rfl))
      · exact absurd (by decide) c4_
  · exact absurd rfl c1_
set_option maxHeartbeats 4000000 in
set_option maxRecDepth 100000 in
theorem q_lower {p_ : Program} {l : Launch} {e_ : Env} {s : State} {m : MethodId} {args : Array Value} {below : List Frame} {meth : Method} {c : Code} {Q : State → Prop} {E : gV} (hE : gOK l E) {β : Nat → Nat} {a0 o1 o2 b L : Nat} {xs : Nat → Int32} (hst : lS E β o1 o2) (hL : L ≤ 3584) (hX : va_X b L xs s E.2.1.heap) (hbl : b < E.2.1.heap.size) (hC : gC l E p_ s m meth c RL cL_law 8) {n cells slots : Nat} {H : Heap} {lo : List Loc} {ls : Array Slot} (hn : n < 512) (hi : 7 * n + 7 ≤ L) (hc1 : cells + 16 ≤ 601024) (hc2 : slots + 3000 ≤ 7293034) (hI : LI E β a0 o1 o2 n H) (hS : va_S (gA0 E) E.2.1.heap H lo) (hl : lv_has ls 8 [(5, .int (nI (7 * n))), (0, .ref b), (1, .ref a0), (2, .ref (β 19)), (3, .ref o1), (4, .ref o2)])
    (kk : ∀ (H1 : Heap) (lo1 : List Loc) (ls1 : Array Slot), LI E β a0 o1 o2 (n + 1) H1 → va_S (gA0 E) E.2.1.heap H1 lo1 → lv_has ls1 8 [(5, .int (nI (7 * n))), (0, .ref b), (1, .ref a0), (2, .ref (β 19)), (3, .ref o1), (4, .ref o2)] → W p_ l e_ room_1 s m args below meth c H1 lo1 (cells + 16) (slots + 3000) Q (F0 m 2472 ls1 [])) : W p_ l e_ room_1 s m args below meth c H lo cells slots Q (F0 m 667 ls []) := by
  have hx := hC.2.2.1
  have hb := hC.2.2.2.1
  obtain ⟨α, ξ, M, N, μ, K, dp, th, f1, f2, hRB, rfl, hR, h1, h2, hK, hN2⟩ := hI
  refine lv_aload_n hx hb dL_law_667 rfl (lv_at hl 2 rfl) ?_
  refine lv_aload_n hx hb dL_law_668 rfl (lv_at hl 1 rfl) ?_
  refine lv_iload hx hb dL_law_669 (lv_at hl 0 rfl) ?_
  refine lv_iconst (v := 1) hx hb dL_law_671 (by decide) ?_
  refine g_iadd1 hx hb dL_law_672 ?_
  refine g_sld (q := ((7 * n) + 1)) hC hX hbl hS (by omega) (by omega) dL_law_673 ?_
  refine lv_aload_n hx hb dL_law_674 rfl (lv_at hl 1 rfl) ?_
  refine lv_iload hx hb dL_law_675 (lv_at hl 0 rfl) ?_
  refine lv_iconst (v := 2) hx hb dL_law_677 (by decide) ?_
  refine g_iaddk 2 hx hb dL_law_678 ?_
  refine g_sld (q := ((7 * n) + 2)) hC hX hbl hS (by omega) (by omega) dL_law_679 ?_
  refine lv_aload_n hx hb dL_law_680 rfl (lv_at hl 4 rfl) ?_
  refine g_cWi (k2 := cells + 4) (n2 := slots + 1030) (g_runSH (n := 4) (rest := []) hC (w_lower hE (α := α) (ξ := ξ) (M := M) (N := N) (B := lB β o1 o2) (xs ((7 * n) + 1)) (xs ((7 * n) + 2)) (by omega) (o := o1) (f0 := f1) (Or.inr (Or.inl rfl)) hst.2.2.1) k_0 k_514 (by decide +kernel) k_512 k_513 ⟨hRB, h1⟩ rfl hl.1 dL_law_681 ⟨Nat.le_of_ble_eq_true rfl, Nat.le_of_ble_eq_true rfl⟩ ⟨by show cells + 0 + 4 ≤ 601024; omega, by show slots + 0 + 1030 ≤ 7293034; omega⟩ rfl (Nat.le_of_ble_eq_true rfl)) hS (fun q h => h.elim (fun h => h.1) (fun h => by rw [h]; exact hst.2.2.1)) (by show cells + 0 + 4 = cells + 4; omega) (by show slots + 0 + 1030 = slots + 1030; omega) (fun r1_ H lo h hz_ hk_ hS => ?_)
  obtain ⟨hr1, α1, M1, g1, hRB1, hm1, ha1, h1n, hv1⟩ := h
  obtain ⟨hR, h2⟩ := hst.x hR h2 hk_
  have h1 := h1n
  obtain ⟨kc, hkc⟩ : ∃ kc, kc = kLower (mv μ) (K 1) (xs ((7 * n) + 1)) (xs ((7 * n) + 2)) := ⟨_, rfl⟩
  have hkx := (lk_lower hK (xs ((7 * n) + 1)) (xs ((7 * n) + 2))).1
  rw [← hkc] at hkx
  rw [hkx] at hr1 hv1 hRB1 hm1
  subst hr1
  have hk5 : kc ≤ 4 := by rw [hkc]; unfold kLower; exact (cif_le (by decide) (cif_le (by decide) (by decide)))
  refine lv_istore (lv' := [(6, .int (nI kc)), (5, .int (nI (7 * n))), (0, .ref b), (1, .ref (α 3 0)), (2, .ref (β 19)), (3, .ref o1), (4, .ref o2)]) hx hb dL_law_684 hl (by decide) rfl (fun ls hl => ?_)
  refine lv_aload_n hx hb dL_law_686 rfl (lv_at hl 4 rfl) ?_
  refine lv_aload_n hx hb dL_law_687 rfl (lv_at hl 2 rfl) ?_
  refine lv_iload hx hb dL_law_688 (lv_at hl 1 rfl) ?_
  refine lv_iconst (v := 1) hx hb dL_law_690 (by decide) ?_
  refine g_iadd1 hx hb dL_law_691 ?_
  refine g_sld (q := ((7 * n) + 1)) hC hX hbl hS (by omega) (by omega) dL_law_692 ?_
  refine lv_aload_n hx hb dL_law_693 rfl (lv_at hl 2 rfl) ?_
  refine lv_iload hx hb dL_law_694 (lv_at hl 1 rfl) ?_
  refine lv_iconst (v := 2) hx hb dL_law_696 (by decide) ?_
  refine g_iaddk 2 hx hb dL_law_697 ?_
  refine g_sld (q := ((7 * n) + 2)) hC hX hbl hS (by omega) (by omega) dL_law_698 ?_
  refine g_cWi (k2 := cells + 4) (n2 := slots + 1030) (g_runV (rest := []) hC (c_X5_lower hE (β := β) (μ := μ) (K := K) (dp := dp) (th := th) hK.mi (xs ((7 * n) + 1)) (xs ((7 * n) + 2))) Y_X5_lower k_1127 I_X5_lower V_X5_lower hR.obj rfl hR rfl hl.1 dL_law_699 ⟨Nat.le_of_ble_eq_true rfl, Nat.le_of_ble_eq_true rfl⟩ ⟨by show cells + 4 + 0 ≤ 601024; omega, by show slots + 1030 + 0 ≤ 7293034; omega⟩ rfl (Nat.le_of_ble_eq_true rfl)) hS (fun q ⟨k, hk, e⟩ => by rw [e]; exact (hst.2.1 k hk).2.2) (by show cells + 4 + 0 = cells + 4; omega) (by show slots + 1030 + 0 = slots + 1030; omega) (fun r2_ H lo h hz_ hk_ hS => ?_)
  obtain ⟨dp1, hR, hv2⟩ := h
  rw [← hkc] at hR hv2
  obtain ⟨hRB1, h1, h2⟩ := hst.m hRB1 h1 h2 hz_ hk_
  refine lv_istore (lv' := [(7, .int r2_), (6, .int (nI kc)), (5, .int (nI (7 * n))), (0, .ref b), (1, .ref (α 3 0)), (2, .ref (β 19)), (3, .ref o1), (4, .ref o2)]) hx hb dL_law_702 hl (by decide) rfl (fun ls hl => ?_)
  refine lv_aload_n hx hb dL_law_704 rfl (lv_at hl 5 rfl) ?_
  refine g_cRi (k2 := cells + 4) (n2 := slots + 1030) (g_runV (rest := []) hC (c_X5_thrown hE (β := β) (dp := dp1) (th := nI kc)) Y_X5_thrown k_1076 I_X5_thrown V_X5_thrown hR.obj rfl hR rfl hl.1 dL_law_705 ⟨Nat.le_of_ble_eq_true rfl, Nat.le_of_ble_eq_true rfl⟩ ⟨by show cells + 4 + 0 ≤ 601024; omega, by show slots + 1030 + 0 ≤ 7293034; omega⟩ rfl (Nat.le_of_ble_eq_true rfl)) (by show cells + 4 + 0 = cells + 4; omega) (by show slots + 1030 + 0 = slots + 1030; omega) g_no (fun r3_ h => ?_)
  obtain rfl := h
  refine lv_iload hx hb dL_law_708 (lv_at hl 1 rfl) ?_
  refine lv_icmp_eq (tgt := 715) hx hb dL_law_710 (by decide) (fun c1_ => ?_) (fun c1_ => ?_)
  · refine lv_iload hx hb dL_law_715 (lv_at hl 1 rfl) ?_
    refine lv_if_ne (tgt := 732) hx hb dL_law_717 (by decide) (fun c2_ => ?_) (fun c2_ => ?_)
    · have q3_ : ¬ kc = 0 := fun z => c2_ (congrArg nI z)
      refine lv_goto (tgt := 2472) hx hb dL_law_732 (by decide) ?_
      exact W.widen (k := cells + 16) (n := slots + 3000) (by omega) (by omega) (kk H lo ls (LI.fin (M := M) hRB1 ha1 hm1 hR h1 h2 hK (fun hc => ((lk_lower hK (xs ((7 * n) + 1)) (xs ((7 * n) + 2))).2 (hkc.symm.trans hc)).2) (by omega) (by first | (show N 2 + 1 ≤ n + 1; omega) | (show N 2 ≤ n + 1; omega))) hS (lv_sub hl [2, 3, 4, 5, 6, 7] rfl))
    · have q3_ : kc = 0 := (nI_eq (by omega) (by omega)).mp c2_
      have hq0 : kc = 0 := (nI_eq (by omega) (by omega)).mp c2_
      refine lv_aload_n hx hb dL_law_720 rfl (lv_at hl 6 rfl) ?_
      refine lv_iconst (v := 0) hx hb dL_law_721 (by decide) ?_
      obtain ⟨rx, hvx, hg1⟩ := hv1 hq0
      have hvb := hv2 hq0
      have hEq : g1 0 = (r2_).toInt64 := by rw [hg1, hvx, hvb, ((lk_lower hK (xs ((7 * n) + 1)) (xs ((7 * n) + 2))).2 (hkc.symm.trans hq0)).1]
      refine g_lald (n := 1) (j := 0) hC h1 (by decide) (by decide) dL_law_722 ?_
      refine lv_iload hx hb dL_law_723 (lv_at hl 0 rfl) ?_
      refine lv_i2l (v := (r2_).toInt64) hx hb dL_law_725 rfl ?_
      refine g_lcmp hx hb hEq dL_law_726 ?_
      refine lv_if_eq (tgt := 732) hx hb dL_law_727 (by decide) (fun c4_ => ?_) (fun c4_ => ?_)
      · refine lv_goto (tgt := 2472) hx hb dL_law_732 (by decide) ?_
        exact W.widen (k := cells + 16) (n := slots + 3000) (by omega) (by omega) (kk H lo ls (LI.fin (M := M) hRB1 ha1 hm1 hR h1 h2 hK (fun hc => ((lk_lower hK (xs ((7 * n) + 1)) (xs ((7 * n) + 2))).2 (hkc.symm.trans hc)).2) (by omega) (by first | (show N 2 + 1 ≤ n + 1; omega) | (show N 2 ≤ n + 1; omega))) hS (lv_sub hl [2, 3, 4, 5, 6, 7] rfl))
      · exact absurd (by decide) c4_
  · exact absurd rfl c1_
set_option maxHeartbeats 4000000 in
set_option maxRecDepth 100000 in
theorem q_revoke {p_ : Program} {l : Launch} {e_ : Env} {s : State} {m : MethodId} {args : Array Value} {below : List Frame} {meth : Method} {c : Code} {Q : State → Prop} {E : gV} (hE : gOK l E) {β : Nat → Nat} {a0 o1 o2 b L : Nat} {xs : Nat → Int32} (hst : lS E β o1 o2) (hL : L ≤ 3584) (hX : va_X b L xs s E.2.1.heap) (hbl : b < E.2.1.heap.size) (hC : gC l E p_ s m meth c RL cL_law 8) {n cells slots : Nat} {H : Heap} {lo : List Loc} {ls : Array Slot} (hn : n < 512) (hi : 7 * n + 7 ≤ L) (hc1 : cells + 16 ≤ 601024) (hc2 : slots + 3000 ≤ 7293034) (hI : LI E β a0 o1 o2 n H) (hS : va_S (gA0 E) E.2.1.heap H lo) (hl : lv_has ls 8 [(5, .int (nI (7 * n))), (0, .ref b), (1, .ref a0), (2, .ref (β 19)), (3, .ref o1), (4, .ref o2)])
    (kk : ∀ (H1 : Heap) (lo1 : List Loc) (ls1 : Array Slot), LI E β a0 o1 o2 (n + 1) H1 → va_S (gA0 E) E.2.1.heap H1 lo1 → lv_has ls1 8 [(5, .int (nI (7 * n))), (0, .ref b), (1, .ref a0), (2, .ref (β 19)), (3, .ref o1), (4, .ref o2)] → W p_ l e_ room_1 s m args below meth c H1 lo1 (cells + 16) (slots + 3000) Q (F0 m 2472 ls1 [])) : W p_ l e_ room_1 s m args below meth c H lo cells slots Q (F0 m 735 ls []) := by
  have hx := hC.2.2.1
  have hb := hC.2.2.2.1
  obtain ⟨α, ξ, M, N, μ, K, dp, th, f1, f2, hRB, rfl, hR, h1, h2, hK, hN2⟩ := hI
  refine lv_aload_n hx hb dL_law_735 rfl (lv_at hl 2 rfl) ?_
  refine lv_aload_n hx hb dL_law_736 rfl (lv_at hl 1 rfl) ?_
  refine lv_iload hx hb dL_law_737 (lv_at hl 0 rfl) ?_
  refine lv_iconst (v := 1) hx hb dL_law_739 (by decide) ?_
  refine g_iadd1 hx hb dL_law_740 ?_
  refine g_sld (q := ((7 * n) + 1)) hC hX hbl hS (by omega) (by omega) dL_law_741 ?_
  refine lv_aload_n hx hb dL_law_742 rfl (lv_at hl 4 rfl) ?_
  refine g_cWi (k2 := cells + 4) (n2 := slots + 1030) (g_runSH (n := 3) (rest := []) hC (w_revoke hE (α := α) (ξ := ξ) (M := M) (N := N) (B := lB β o1 o2) (xs ((7 * n) + 1)) (by omega) (o := o1) (f0 := f1) (Or.inr (Or.inl rfl)) hst.2.2.1) k_0 k_522 (by decide +kernel) k_520 k_521 ⟨hRB, h1⟩ rfl hl.1 dL_law_743 ⟨Nat.le_of_ble_eq_true rfl, Nat.le_of_ble_eq_true rfl⟩ ⟨by show cells + 0 + 4 ≤ 601024; omega, by show slots + 0 + 1030 ≤ 7293034; omega⟩ rfl (Nat.le_of_ble_eq_true rfl)) hS (fun q h => h.elim (fun h => h.1) (fun h => by rw [h]; exact hst.2.2.1)) (by show cells + 0 + 4 = cells + 4; omega) (by show slots + 0 + 1030 = slots + 1030; omega) (fun r1_ H lo h hz_ hk_ hS => ?_)
  obtain ⟨hr1, α1, M1, g1, hRB1, hm1, ha1, h1n, hv1⟩ := h
  obtain ⟨hR, h2⟩ := hst.x hR h2 hk_
  have h1 := h1n
  obtain ⟨kc, hkc⟩ : ∃ kc, kc = kRevoke (mv μ) (K 1) (xs ((7 * n) + 1)) := ⟨_, rfl⟩
  have hkx := (lk_revoke hK (xs ((7 * n) + 1))).1
  rw [← hkc] at hkx
  rw [hkx] at hr1 hv1 hRB1 hm1
  subst hr1
  have hk5 : kc ≤ 4 := by rw [hkc]; unfold kRevoke; exact (cif_le (by decide) (cif_le (by decide) (by decide)))
  refine lv_istore (lv' := [(6, .int (nI kc)), (5, .int (nI (7 * n))), (0, .ref b), (1, .ref (α 3 0)), (2, .ref (β 19)), (3, .ref o1), (4, .ref o2)]) hx hb dL_law_746 hl (by decide) rfl (fun ls hl => ?_)
  refine lv_aload_n hx hb dL_law_748 rfl (lv_at hl 4 rfl) ?_
  refine lv_aload_n hx hb dL_law_749 rfl (lv_at hl 2 rfl) ?_
  refine lv_iload hx hb dL_law_750 (lv_at hl 1 rfl) ?_
  refine lv_iconst (v := 1) hx hb dL_law_752 (by decide) ?_
  refine g_iadd1 hx hb dL_law_753 ?_
  refine g_sld (q := ((7 * n) + 1)) hC hX hbl hS (by omega) (by omega) dL_law_754 ?_
  refine g_cWi (k2 := cells + 4) (n2 := slots + 1030) (g_runV (rest := []) hC (c_X5_revoke hE (β := β) (μ := μ) (K := K) (dp := dp) (th := th) hK.mi (xs ((7 * n) + 1)) hK.hb1) Y_X5_revoke k_1135 I_X5_revoke V_X5_revoke hR.obj rfl hR rfl hl.1 dL_law_755 ⟨Nat.le_of_ble_eq_true rfl, Nat.le_of_ble_eq_true rfl⟩ ⟨by show cells + 4 + 0 ≤ 601024; omega, by show slots + 1030 + 0 ≤ 7293034; omega⟩ rfl (Nat.le_of_ble_eq_true rfl)) hS (fun q ⟨k, hk, e⟩ => by rw [e]; exact (hst.2.1 k hk).2.2) (by show cells + 4 + 0 = cells + 4; omega) (by show slots + 1030 + 0 = slots + 1030; omega) (fun r2_ H lo h hz_ hk_ hS => ?_)
  obtain ⟨dp1, hR, hv2⟩ := h
  rw [← hkc] at hR hv2
  obtain ⟨hRB1, h1, h2⟩ := hst.m hRB1 h1 h2 hz_ hk_
  refine lv_istore (lv' := [(7, .int r2_), (6, .int (nI kc)), (5, .int (nI (7 * n))), (0, .ref b), (1, .ref (α 3 0)), (2, .ref (β 19)), (3, .ref o1), (4, .ref o2)]) hx hb dL_law_758 hl (by decide) rfl (fun ls hl => ?_)
  refine lv_aload_n hx hb dL_law_760 rfl (lv_at hl 5 rfl) ?_
  refine g_cRi (k2 := cells + 4) (n2 := slots + 1030) (g_runV (rest := []) hC (c_X5_thrown hE (β := β) (dp := dp1) (th := nI kc)) Y_X5_thrown k_1076 I_X5_thrown V_X5_thrown hR.obj rfl hR rfl hl.1 dL_law_761 ⟨Nat.le_of_ble_eq_true rfl, Nat.le_of_ble_eq_true rfl⟩ ⟨by show cells + 4 + 0 ≤ 601024; omega, by show slots + 1030 + 0 ≤ 7293034; omega⟩ rfl (Nat.le_of_ble_eq_true rfl)) (by show cells + 4 + 0 = cells + 4; omega) (by show slots + 1030 + 0 = slots + 1030; omega) g_no (fun r3_ h => ?_)
  obtain rfl := h
  refine lv_iload hx hb dL_law_764 (lv_at hl 1 rfl) ?_
  refine lv_icmp_eq (tgt := 771) hx hb dL_law_766 (by decide) (fun c1_ => ?_) (fun c1_ => ?_)
  · refine lv_iload hx hb dL_law_771 (lv_at hl 1 rfl) ?_
    refine lv_if_ne (tgt := 788) hx hb dL_law_773 (by decide) (fun c2_ => ?_) (fun c2_ => ?_)
    · have q3_ : ¬ kc = 0 := fun z => c2_ (congrArg nI z)
      refine lv_goto (tgt := 2472) hx hb dL_law_788 (by decide) ?_
      exact W.widen (k := cells + 16) (n := slots + 3000) (by omega) (by omega) (kk H lo ls (LI.fin (M := M) hRB1 ha1 hm1 hR h1 h2 hK (fun hc => ((lk_revoke hK (xs ((7 * n) + 1))).2 (hkc.symm.trans hc)).2) (by omega) (by first | (show N 2 + 1 ≤ n + 1; omega) | (show N 2 ≤ n + 1; omega))) hS (lv_sub hl [2, 3, 4, 5, 6, 7] rfl))
    · have q3_ : kc = 0 := (nI_eq (by omega) (by omega)).mp c2_
      have hq0 : kc = 0 := (nI_eq (by omega) (by omega)).mp c2_
      refine lv_aload_n hx hb dL_law_776 rfl (lv_at hl 6 rfl) ?_
      refine lv_iconst (v := 0) hx hb dL_law_777 (by decide) ?_
      obtain ⟨rx, hvx, hg1⟩ := hv1 hq0
      have hvb := hv2 hq0
      have hEq : g1 0 = (r2_).toInt64 := by rw [hg1, hvx, hvb, ((lk_revoke hK (xs ((7 * n) + 1))).2 (hkc.symm.trans hq0)).1]
      refine g_lald (n := 1) (j := 0) hC h1 (by decide) (by decide) dL_law_778 ?_
      refine lv_iload hx hb dL_law_779 (lv_at hl 0 rfl) ?_
      refine lv_i2l (v := (r2_).toInt64) hx hb dL_law_781 rfl ?_
      refine g_lcmp hx hb hEq dL_law_782 ?_
      refine lv_if_eq (tgt := 788) hx hb dL_law_783 (by decide) (fun c4_ => ?_) (fun c4_ => ?_)
      · refine lv_goto (tgt := 2472) hx hb dL_law_788 (by decide) ?_
        exact W.widen (k := cells + 16) (n := slots + 3000) (by omega) (by omega) (kk H lo ls (LI.fin (M := M) hRB1 ha1 hm1 hR h1 h2 hK (fun hc => ((lk_revoke hK (xs ((7 * n) + 1))).2 (hkc.symm.trans hc)).2) (by omega) (by first | (show N 2 + 1 ≤ n + 1; omega) | (show N 2 ≤ n + 1; omega))) hS (lv_sub hl [2, 3, 4, 5, 6, 7] rfl))
      · exact absurd (by decide) c4_
  · exact absurd rfl c1_
set_option maxHeartbeats 4000000 in
set_option maxRecDepth 100000 in
theorem q_source {p_ : Program} {l : Launch} {e_ : Env} {s : State} {m : MethodId} {args : Array Value} {below : List Frame} {meth : Method} {c : Code} {Q : State → Prop} {E : gV} (hE : gOK l E) {β : Nat → Nat} {a0 o1 o2 b L : Nat} {xs : Nat → Int32} (hst : lS E β o1 o2) (hL : L ≤ 3584) (hX : va_X b L xs s E.2.1.heap) (hbl : b < E.2.1.heap.size) (hC : gC l E p_ s m meth c RL cL_law 8) {n cells slots : Nat} {H : Heap} {lo : List Loc} {ls : Array Slot} (hn : n < 512) (hi : 7 * n + 7 ≤ L) (hc1 : cells + 16 ≤ 601024) (hc2 : slots + 3000 ≤ 7293034) (hI : LI E β a0 o1 o2 n H) (hS : va_S (gA0 E) E.2.1.heap H lo) (hl : lv_has ls 8 [(5, .int (nI (7 * n))), (0, .ref b), (1, .ref a0), (2, .ref (β 19)), (3, .ref o1), (4, .ref o2)])
    (kk : ∀ (H1 : Heap) (lo1 : List Loc) (ls1 : Array Slot), LI E β a0 o1 o2 (n + 1) H1 → va_S (gA0 E) E.2.1.heap H1 lo1 → lv_has ls1 8 [(5, .int (nI (7 * n))), (0, .ref b), (1, .ref a0), (2, .ref (β 19)), (3, .ref o1), (4, .ref o2)] → W p_ l e_ room_1 s m args below meth c H1 lo1 (cells + 16) (slots + 3000) Q (F0 m 2472 ls1 [])) : W p_ l e_ room_1 s m args below meth c H lo cells slots Q (F0 m 791 ls []) := by
  have hx := hC.2.2.1
  have hb := hC.2.2.2.1
  obtain ⟨α, ξ, M, N, μ, K, dp, th, f1, f2, hRB, rfl, hR, h1, h2, hK, hN2⟩ := hI
  refine lv_aload_n hx hb dL_law_791 rfl (lv_at hl 2 rfl) ?_
  refine lv_aload_n hx hb dL_law_792 rfl (lv_at hl 1 rfl) ?_
  refine lv_iload hx hb dL_law_793 (lv_at hl 0 rfl) ?_
  refine lv_iconst (v := 1) hx hb dL_law_795 (by decide) ?_
  refine g_iadd1 hx hb dL_law_796 ?_
  refine g_sld (q := ((7 * n) + 1)) hC hX hbl hS (by omega) (by omega) dL_law_797 ?_
  refine lv_aload_n hx hb dL_law_798 rfl (lv_at hl 4 rfl) ?_
  refine g_cWi (k2 := cells + 1) (n2 := slots + 6) (g_runSH (n := 3) (rest := []) hC (w_source hE (α := α) (ξ := ξ) (M := M) (N := N) (B := lB β o1 o2) (xs ((7 * n) + 1)) (o := o1) (f0 := f1) (Or.inr (Or.inl rfl)) hst.2.2.1) k_0 k_537 (by decide +kernel) k_535 k_536 ⟨hRB, h1⟩ rfl hl.1 dL_law_799 ⟨Nat.le_of_ble_eq_true rfl, Nat.le_of_ble_eq_true rfl⟩ ⟨by show cells + 0 + 1 ≤ 601024; omega, by show slots + 0 + 6 ≤ 7293034; omega⟩ rfl (Nat.le_of_ble_eq_true rfl)) hS (fun q h => h.elim (fun h => h.1) (fun h => by rw [h]; exact hst.2.2.1)) (by show cells + 0 + 1 = cells + 1; omega) (by show slots + 0 + 6 = slots + 6; omega) (fun r1_ H lo h hz_ hk_ hS => ?_)
  obtain ⟨hr1, α1, M1, g1, hRB1, hm1, ha1, h1n, hv1⟩ := h
  obtain ⟨hR, h2⟩ := hst.x hR h2 hk_
  have h1 := h1n
  obtain ⟨kc, hkc⟩ : ∃ kc, kc = kPow (K 1) (xs ((7 * n) + 1)) := ⟨_, rfl⟩
  have hkx := (lk_source hK (xs ((7 * n) + 1))).1
  rw [← hkc] at hkx
  rw [hkx] at hr1 hv1 hRB1 hm1
  subst hr1
  have hk5 : kc ≤ 4 := by rw [hkc]; unfold kPow; exact (cif_le (by decide) (by decide))
  refine lv_istore (lv' := [(6, .int (nI kc)), (5, .int (nI (7 * n))), (0, .ref b), (1, .ref (α 3 0)), (2, .ref (β 19)), (3, .ref o1), (4, .ref o2)]) hx hb dL_law_802 hl (by decide) rfl (fun ls hl => ?_)
  refine lv_aload_n hx hb dL_law_804 rfl (lv_at hl 4 rfl) ?_
  refine lv_aload_n hx hb dL_law_805 rfl (lv_at hl 2 rfl) ?_
  refine lv_iload hx hb dL_law_806 (lv_at hl 1 rfl) ?_
  refine lv_iconst (v := 1) hx hb dL_law_808 (by decide) ?_
  refine g_iadd1 hx hb dL_law_809 ?_
  refine g_sld (q := ((7 * n) + 1)) hC hX hbl hS (by omega) (by omega) dL_law_810 ?_
  refine g_cWi (k2 := cells + 1) (n2 := slots + 6) (g_runV (rest := []) hC (c_X5_source hE (β := β) (μ := μ) (K := K) (dp := dp) (th := th) hK.mi (xs ((7 * n) + 1))) Y_X5_source k_1143 I_X5_source V_X5_source hR.obj rfl hR rfl hl.1 dL_law_811 ⟨Nat.le_of_ble_eq_true rfl, Nat.le_of_ble_eq_true rfl⟩ ⟨by show cells + 1 + 0 ≤ 601024; omega, by show slots + 6 + 0 ≤ 7293034; omega⟩ rfl (Nat.le_of_ble_eq_true rfl)) hS (fun q ⟨k, hk, e⟩ => by rw [e]; exact (hst.2.1 k hk).2.2) (by show cells + 1 + 0 = cells + 1; omega) (by show slots + 6 + 0 = slots + 6; omega) (fun r2_ H lo h hz_ hk_ hS => ?_)
  obtain ⟨dp1, hR, hv2⟩ := h
  rw [← hkc] at hR hv2
  obtain ⟨hRB1, h1, h2⟩ := hst.m hRB1 h1 h2 hz_ hk_
  refine lv_istore (lv' := [(7, .int r2_), (6, .int (nI kc)), (5, .int (nI (7 * n))), (0, .ref b), (1, .ref (α 3 0)), (2, .ref (β 19)), (3, .ref o1), (4, .ref o2)]) hx hb dL_law_814 hl (by decide) rfl (fun ls hl => ?_)
  refine lv_aload_n hx hb dL_law_816 rfl (lv_at hl 5 rfl) ?_
  refine g_cRi (k2 := cells + 1) (n2 := slots + 6) (g_runV (rest := []) hC (c_X5_thrown hE (β := β) (dp := dp1) (th := nI kc)) Y_X5_thrown k_1076 I_X5_thrown V_X5_thrown hR.obj rfl hR rfl hl.1 dL_law_817 ⟨Nat.le_of_ble_eq_true rfl, Nat.le_of_ble_eq_true rfl⟩ ⟨by show cells + 1 + 0 ≤ 601024; omega, by show slots + 6 + 0 ≤ 7293034; omega⟩ rfl (Nat.le_of_ble_eq_true rfl)) (by show cells + 1 + 0 = cells + 1; omega) (by show slots + 6 + 0 = slots + 6; omega) g_no (fun r3_ h => ?_)
  obtain rfl := h
  refine lv_iload hx hb dL_law_820 (lv_at hl 1 rfl) ?_
  refine lv_icmp_eq (tgt := 827) hx hb dL_law_822 (by decide) (fun c1_ => ?_) (fun c1_ => ?_)
  · refine lv_iload hx hb dL_law_827 (lv_at hl 1 rfl) ?_
    refine lv_if_ne (tgt := 844) hx hb dL_law_829 (by decide) (fun c2_ => ?_) (fun c2_ => ?_)
    · have q3_ : ¬ kc = 0 := fun z => c2_ (congrArg nI z)
      refine lv_goto (tgt := 2472) hx hb dL_law_844 (by decide) ?_
      exact W.widen (k := cells + 16) (n := slots + 3000) (by omega) (by omega) (kk H lo ls (LI.fin (M := M) hRB1 ha1 hm1 hR h1 h2 hK (fun hc => hK) (by omega) (by first | (show N 2 + 1 ≤ n + 1; omega) | (show N 2 ≤ n + 1; omega))) hS (lv_sub hl [2, 3, 4, 5, 6, 7] rfl))
    · have q3_ : kc = 0 := (nI_eq (by omega) (by omega)).mp c2_
      have hq0 : kc = 0 := (nI_eq (by omega) (by omega)).mp c2_
      refine lv_aload_n hx hb dL_law_832 rfl (lv_at hl 6 rfl) ?_
      refine lv_iconst (v := 0) hx hb dL_law_833 (by decide) ?_
      obtain ⟨rx, hvx, hg1⟩ := hv1 hq0
      have hvb := hv2 hq0
      have hEq : g1 0 = (r2_).toInt64 := by rw [hg1, hvx, hvb, ((lk_source hK (xs ((7 * n) + 1))).2 (hkc.symm.trans hq0))]
      refine g_lald (n := 1) (j := 0) hC h1 (by decide) (by decide) dL_law_834 ?_
      refine lv_iload hx hb dL_law_835 (lv_at hl 0 rfl) ?_
      refine lv_i2l (v := (r2_).toInt64) hx hb dL_law_837 rfl ?_
      refine g_lcmp hx hb hEq dL_law_838 ?_
      refine lv_if_eq (tgt := 844) hx hb dL_law_839 (by decide) (fun c4_ => ?_) (fun c4_ => ?_)
      · refine lv_goto (tgt := 2472) hx hb dL_law_844 (by decide) ?_
        exact W.widen (k := cells + 16) (n := slots + 3000) (by omega) (by omega) (kk H lo ls (LI.fin (M := M) hRB1 ha1 hm1 hR h1 h2 hK (fun hc => hK) (by omega) (by first | (show N 2 + 1 ≤ n + 1; omega) | (show N 2 ≤ n + 1; omega))) hS (lv_sub hl [2, 3, 4, 5, 6, 7] rfl))
      · exact absurd (by decide) c4_
  · exact absurd rfl c1_
