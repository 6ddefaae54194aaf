set_option maxHeartbeats 4000000 in
set_option maxRecDepth 100000 in
theorem q_lack {p_ : Program} {l : Launch} {e_ : Env} {s : State} {m : MethodId} {args : Array Value} {below : List Frame} {meth : Method} {c : Code} {Q : State → Prop} {E : gV} (hE : gOK l E) {β : Nat → Nat} {a0 o1 o2 b L : Nat} {xs : Nat → Int32} (hst : lS E β o1 o2) (hL : L ≤ 3584) (hX : va_X b L xs s E.2.1.heap) (hbl : b < E.2.1.heap.size) (hC : gC l E p_ s m meth c RL cL_law 8) {n cells slots : Nat} {H : Heap} {lo : List Loc} {ls : Array Slot} (hn : n < 512) (hi : 7 * n + 7 ≤ L) (hc1 : cells + 16 ≤ 601024) (hc2 : slots + 3000 ≤ 7293034) (hI : LI E β a0 o1 o2 n H) (hS : va_S (gA0 E) E.2.1.heap H lo) (hl : lv_has ls 8 [(5, .int (nI (7 * n))), (0, .ref b), (1, .ref a0), (2, .ref (β 19)), (3, .ref o1), (4, .ref o2)])
    (kk : ∀ (H1 : Heap) (lo1 : List Loc) (ls1 : Array Slot), LI E β a0 o1 o2 (n + 1) H1 → va_S (gA0 E) E.2.1.heap H1 lo1 → lv_has ls1 8 [(5, .int (nI (7 * n))), (0, .ref b), (1, .ref a0), (2, .ref (β 19)), (3, .ref o1), (4, .ref o2)] → W p_ l e_ room_1 s m args below meth c H1 lo1 (cells + 16) (slots + 3000) Q (F0 m 2472 ls1 [])) : W p_ l e_ room_1 s m args below meth c H lo cells slots Q (F0 m 2099 ls []) := by
  have hx := hC.2.2.1
  have hb := hC.2.2.2.1
  obtain ⟨α, ξ, M, N, μ, K, dp, th, f1, f2, hRB, rfl, hR, h1, h2, hK, hN2⟩ := hI
  refine lv_aload_n hx hb dL_law_2099 rfl (lv_at hl 2 rfl) ?_
  refine lv_aload_n hx hb dL_law_2100 rfl (lv_at hl 1 rfl) ?_
  refine lv_iload hx hb dL_law_2101 (lv_at hl 0 rfl) ?_
  refine lv_iconst (v := 1) hx hb dL_law_2103 (by decide) ?_
  refine g_iadd1 hx hb dL_law_2104 ?_
  refine g_sld (q := ((7 * n) + 1)) hC hX hbl hS (by omega) (by omega) dL_law_2105 ?_
  refine lv_aload_n hx hb dL_law_2106 rfl (lv_at hl 4 rfl) ?_
  refine g_cWi (k2 := cells + 2) (n2 := slots + 12) (g_runSH (n := 3) (rest := []) hC (w_lack hE (α := α) (ξ := ξ) (M := M) (N := N) (B := lB β o1 o2) (xs ((7 * n) + 1)) hK.x20 (o := o1) (f0 := f1) (Or.inr (Or.inl rfl)) hst.2.2.1) k_0 k_939 (by decide +kernel) k_937 k_938 ⟨hRB, h1⟩ rfl hl.1 dL_law_2107 ⟨Nat.le_of_ble_eq_true rfl, Nat.le_of_ble_eq_true rfl⟩ ⟨by show cells + 0 + 2 ≤ 601024; omega, by show slots + 0 + 12 ≤ 7293034; omega⟩ rfl (Nat.le_of_ble_eq_true rfl)) hS (fun q h => h.elim (fun h => h.1) (fun h => by rw [h]; exact hst.2.2.1)) (by show cells + 0 + 2 = cells + 2; omega) (by show slots + 0 + 12 = slots + 12; omega) (fun r1_ H lo h hz_ hk_ hS => ?_)
  obtain ⟨hr1, α1, M1, g1, hRB1, hm1, ha1, h1n, hv1⟩ := h
  obtain ⟨hR, h2⟩ := hst.x hR h2 hk_
  have h1 := h1n
  obtain ⟨kc, hkc⟩ : ∃ kc, kc = kLack (mw μ) (K 2) (xs ((7 * n) + 1)) := ⟨_, rfl⟩
  have hkx := (lk_lack hK (xs ((7 * n) + 1))).1
  rw [← hkc] at hkx
  rw [hkx] at hr1 hv1 hRB1 hm1
  subst hr1
  have hk5 : kc ≤ 4 := by rw [hkc]; unfold kLack; exact (cif_le (by decide) (cif_le (by decide) (by decide)))
  refine lv_istore (lv' := [(6, .int (nI kc)), (5, .int (nI (7 * n))), (0, .ref b), (1, .ref (α 3 0)), (2, .ref (β 19)), (3, .ref o1), (4, .ref o2)]) hx hb dL_law_2110 hl (by decide) rfl (fun ls hl => ?_)
  refine lv_aload_n hx hb dL_law_2112 rfl (lv_at hl 4 rfl) ?_
  refine lv_aload_n hx hb dL_law_2113 rfl (lv_at hl 2 rfl) ?_
  refine lv_iload hx hb dL_law_2114 (lv_at hl 1 rfl) ?_
  refine lv_iconst (v := 1) hx hb dL_law_2116 (by decide) ?_
  refine g_iadd1 hx hb dL_law_2117 ?_
  refine g_sld (q := ((7 * n) + 1)) hC hX hbl hS (by omega) (by omega) dL_law_2118 ?_
  refine g_cWi (k2 := cells + 2) (n2 := slots + 12) (g_runV (rest := []) hC (c_X5_lack hE (β := β) (μ := μ) (K := K) (dp := dp) (th := th) hK.mi (xs ((7 * n) + 1)) hK.h18) Y_X5_lack k_1270 I_X5_lack V_X5_lack hR.obj rfl hR rfl hl.1 dL_law_2119 ⟨Nat.le_of_ble_eq_true rfl, Nat.le_of_ble_eq_true rfl⟩ ⟨by show cells + 2 + 0 ≤ 601024; omega, by show slots + 12 + 0 ≤ 7293034; omega⟩ rfl (Nat.le_of_ble_eq_true rfl)) hS (fun q ⟨k, hk, e⟩ => by rw [e]; exact (hst.2.1 k hk).2.2) (by show cells + 2 + 0 = cells + 2; omega) (by show slots + 12 + 0 = slots + 12; omega) (fun r2_ H lo h hz_ hk_ hS => ?_)
  obtain ⟨dp1, hR, hv2⟩ := h
  rw [← hkc] at hR hv2
  obtain ⟨hRB1, h1, h2⟩ := hst.m hRB1 h1 h2 hz_ hk_
  refine lv_istore (lv' := [(7, .int r2_), (6, .int (nI kc)), (5, .int (nI (7 * n))), (0, .ref b), (1, .ref (α 3 0)), (2, .ref (β 19)), (3, .ref o1), (4, .ref o2)]) hx hb dL_law_2122 hl (by decide) rfl (fun ls hl => ?_)
  refine lv_aload_n hx hb dL_law_2124 rfl (lv_at hl 5 rfl) ?_
  refine g_cRi (k2 := cells + 2) (n2 := slots + 12) (g_runV (rest := []) hC (c_X5_thrown hE (β := β) (dp := dp1) (th := nI kc)) Y_X5_thrown k_1076 I_X5_thrown V_X5_thrown hR.obj rfl hR rfl hl.1 dL_law_2125 ⟨Nat.le_of_ble_eq_true rfl, Nat.le_of_ble_eq_true rfl⟩ ⟨by show cells + 2 + 0 ≤ 601024; omega, by show slots + 12 + 0 ≤ 7293034; omega⟩ rfl (Nat.le_of_ble_eq_true rfl)) (by show cells + 2 + 0 = cells + 2; omega) (by show slots + 12 + 0 = slots + 12; omega) g_no (fun r3_ h => ?_)
  obtain rfl := h
  refine lv_iload hx hb dL_law_2128 (lv_at hl 1 rfl) ?_
  refine lv_icmp_eq (tgt := 2135) hx hb dL_law_2130 (by decide) (fun c1_ => ?_) (fun c1_ => ?_)
  · refine lv_iload hx hb dL_law_2135 (lv_at hl 1 rfl) ?_
    refine lv_if_ne (tgt := 2152) hx hb dL_law_2137 (by decide) (fun c2_ => ?_) (fun c2_ => ?_)
    · have q3_ : ¬ kc = 0 := fun z => c2_ (congrArg nI z)
      refine lv_goto (tgt := 2472) hx hb dL_law_2152 (by decide) ?_
      exact W.widen (k := cells + 16) (n := slots + 3000) (by omega) (by omega) (kk H lo ls (LI.fin (M := M) hRB1 ha1 hm1 hR h1 h2 hK (fun hc => hK) (by omega) (by first | (show N 2 + 1 ≤ n + 1; omega) | (show N 2 ≤ n + 1; omega))) hS (lv_sub hl [2, 3, 4, 5, 6, 7] rfl))
    · have q3_ : kc = 0 := (nI_eq (by omega) (by omega)).mp c2_
      have hq0 : kc = 0 := (nI_eq (by omega) (by omega)).mp c2_
      refine lv_aload_n hx hb dL_law_2140 rfl (lv_at hl 6 rfl) ?_
      refine lv_iconst (v := 0) hx hb dL_law_2141 (by decide) ?_
      obtain ⟨rx, hvx, hg1⟩ := hv1 hq0
      have hvb := hv2 hq0
      have hEq : g1 0 = (r2_).toInt64 := by rw [hg1, hvx, hvb, ((lk_lack hK (xs ((7 * n) + 1))).2 (hkc.symm.trans hq0))]
      refine g_lald (n := 1) (j := 0) hC h1 (by decide) (by decide) dL_law_2142 ?_
      refine lv_iload hx hb dL_law_2143 (lv_at hl 0 rfl) ?_
      refine lv_i2l (v := (r2_).toInt64) hx hb dL_law_2145 rfl ?_
      refine g_lcmp hx hb hEq dL_law_2146 ?_
      refine lv_if_eq (tgt := 2152) hx hb dL_law_2147 (by decide) (fun c4_ => ?_) (fun c4_ => ?_)
      · refine lv_goto (tgt := 2472) hx hb dL_law_2152 (by decide) ?_
        exact W.widen (k := cells + 16) (n := slots + 3000) (by omega) (by omega) (kk H lo ls (LI.fin (M := M) hRB1 ha1 hm1 hR h1 h2 hK (fun hc => hK) (by omega) (by first | (show N 2 + 1 ≤ n + 1; omega) | (show N 2 ≤ n + 1; omega))) hS (lv_sub hl [2, 3, 4, 5, 6, 7] rfl))
      · exact absurd (by decide) c4_
  · exact absurd rfl c1_
set_option maxHeartbeats 4000000 in
set_option maxRecDepth 100000 in
theorem q_lackPower {p_ : Program} {l : Launch} {e_ : Env} {s : State} {m : MethodId} {args : Array Value} {below : List Frame} {meth : Method} {c : Code} {Q : State → Prop} {E : gV} (hE : gOK l E) {β : Nat → Nat} {a0 o1 o2 b L : Nat} {xs : Nat → Int32} (hst : lS E β o1 o2) (hL : L ≤ 3584) (hX : va_X b L xs s E.2.1.heap) (hbl : b < E.2.1.heap.size) (hC : gC l E p_ s m meth c RL cL_law 8) {n cells slots : Nat} {H : Heap} {lo : List Loc} {ls : Array Slot} (hn : n < 512) (hi : 7 * n + 7 ≤ L) (hc1 : cells + 16 ≤ 601024) (hc2 : slots + 3000 ≤ 7293034) (hI : LI E β a0 o1 o2 n H) (hS : va_S (gA0 E) E.2.1.heap H lo) (hl : lv_has ls 8 [(5, .int (nI (7 * n))), (0, .ref b), (1, .ref a0), (2, .ref (β 19)), (3, .ref o1), (4, .ref o2)])
    (kk : ∀ (H1 : Heap) (lo1 : List Loc) (ls1 : Array Slot), LI E β a0 o1 o2 (n + 1) H1 → va_S (gA0 E) E.2.1.heap H1 lo1 → lv_has ls1 8 [(5, .int (nI (7 * n))), (0, .ref b), (1, .ref a0), (2, .ref (β 19)), (3, .ref o1), (4, .ref o2)] → W p_ l e_ room_1 s m args below meth c H1 lo1 (cells + 16) (slots + 3000) Q (F0 m 2472 ls1 [])) : W p_ l e_ room_1 s m args below meth c H lo cells slots Q (F0 m 2155 ls []) := by
  have hx := hC.2.2.1
  have hb := hC.2.2.2.1
  obtain ⟨α, ξ, M, N, μ, K, dp, th, f1, f2, hRB, rfl, hR, h1, h2, hK, hN2⟩ := hI
  refine lv_aload_n hx hb dL_law_2155 rfl (lv_at hl 2 rfl) ?_
  refine lv_aload_n hx hb dL_law_2156 rfl (lv_at hl 1 rfl) ?_
  refine lv_iload hx hb dL_law_2157 (lv_at hl 0 rfl) ?_
  refine lv_iconst (v := 1) hx hb dL_law_2159 (by decide) ?_
  refine g_iadd1 hx hb dL_law_2160 ?_
  refine g_sld (q := ((7 * n) + 1)) hC hX hbl hS (by omega) (by omega) dL_law_2161 ?_
  refine lv_aload_n hx hb dL_law_2162 rfl (lv_at hl 4 rfl) ?_
  refine g_cWi (k2 := cells + 2) (n2 := slots + 12) (g_runSH (n := 3) (rest := []) hC (w_lackPower hE (α := α) (ξ := ξ) (M := M) (N := N) (B := lB β o1 o2) (xs ((7 * n) + 1)) (o := o1) (f0 := f1) (Or.inr (Or.inl rfl)) hst.2.2.1) k_0 k_947 (by decide +kernel) k_945 k_946 ⟨hRB, h1⟩ rfl hl.1 dL_law_2163 ⟨Nat.le_of_ble_eq_true rfl, Nat.le_of_ble_eq_true rfl⟩ ⟨by show cells + 0 + 2 ≤ 601024; omega, by show slots + 0 + 12 ≤ 7293034; omega⟩ rfl (Nat.le_of_ble_eq_true rfl)) hS (fun q h => h.elim (fun h => h.1) (fun h => by rw [h]; exact hst.2.2.1)) (by show cells + 0 + 2 = cells + 2; omega) (by show slots + 0 + 12 = slots + 12; omega) (fun r1_ H lo h hz_ hk_ hS => ?_)
  obtain ⟨hr1, α1, M1, g1, hRB1, hm1, ha1, h1n, hv1⟩ := h
  obtain ⟨hR, h2⟩ := hst.x hR h2 hk_
  have h1 := h1n
  obtain ⟨kc, hkc⟩ : ∃ kc, kc = kLackP (mw μ) (μ 15) (K 2) (xs ((7 * n) + 1)) := ⟨_, rfl⟩
  have hkx := (lk_lackY hK (xs ((7 * n) + 1))).1
  rw [← hkc] at hkx
  rw [hkx] at hr1 hv1 hRB1 hm1
  subst hr1
  have hk5 : kc ≤ 4 := by rw [hkc]; unfold kLackP; exact (cif_le (by decide) (cif_le (by decide) (by decide)))
  refine lv_istore (lv' := [(6, .int (nI kc)), (5, .int (nI (7 * n))), (0, .ref b), (1, .ref (α 3 0)), (2, .ref (β 19)), (3, .ref o1), (4, .ref o2)]) hx hb dL_law_2166 hl (by decide) rfl (fun ls hl => ?_)
  refine lv_aload_n hx hb dL_law_2168 rfl (lv_at hl 4 rfl) ?_
  refine lv_aload_n hx hb dL_law_2169 rfl (lv_at hl 2 rfl) ?_
  refine lv_iload hx hb dL_law_2170 (lv_at hl 1 rfl) ?_
  refine lv_iconst (v := 1) hx hb dL_law_2172 (by decide) ?_
  refine g_iadd1 hx hb dL_law_2173 ?_
  refine g_sld (q := ((7 * n) + 1)) hC hX hbl hS (by omega) (by omega) dL_law_2174 ?_
  refine g_cWi (k2 := cells + 2) (n2 := slots + 12) (g_runV (rest := []) hC (c_X5_lackPower hE (β := β) (μ := μ) (K := K) (dp := dp) (th := th) hK.mi (xs ((7 * n) + 1))) Y_X5_lackPower k_1274 I_X5_lackPower V_X5_lackPower hR.obj rfl hR rfl hl.1 dL_law_2175 ⟨Nat.le_of_ble_eq_true rfl, Nat.le_of_ble_eq_true rfl⟩ ⟨by show cells + 2 + 0 ≤ 601024; omega, by show slots + 12 + 0 ≤ 7293034; omega⟩ rfl (Nat.le_of_ble_eq_true rfl)) hS (fun q ⟨k, hk, e⟩ => by rw [e]; exact (hst.2.1 k hk).2.2) (by show cells + 2 + 0 = cells + 2; omega) (by show slots + 12 + 0 = slots + 12; omega) (fun r2_ H lo h hz_ hk_ hS => ?_)
  obtain ⟨dp1, hR, hv2⟩ := h
  rw [← hkc] at hR hv2
  obtain ⟨hRB1, h1, h2⟩ := hst.m hRB1 h1 h2 hz_ hk_
  refine lv_istore (lv' := [(7, .int r2_), (6, .int (nI kc)), (5, .int (nI (7 * n))), (0, .ref b), (1, .ref (α 3 0)), (2, .ref (β 19)), (3, .ref o1), (4, .ref o2)]) hx hb dL_law_2178 hl (by decide) rfl (fun ls hl => ?_)
  refine lv_aload_n hx hb dL_law_2180 rfl (lv_at hl 5 rfl) ?_
  refine g_cRi (k2 := cells + 2) (n2 := slots + 12) (g_runV (rest := []) hC (c_X5_thrown hE (β := β) (dp := dp1) (th := nI kc)) Y_X5_thrown k_1076 I_X5_thrown V_X5_thrown hR.obj rfl hR rfl hl.1 dL_law_2181 ⟨Nat.le_of_ble_eq_true rfl, Nat.le_of_ble_eq_true rfl⟩ ⟨by show cells + 2 + 0 ≤ 601024; omega, by show slots + 12 + 0 ≤ 7293034; omega⟩ rfl (Nat.le_of_ble_eq_true rfl)) (by show cells + 2 + 0 = cells + 2; omega) (by show slots + 12 + 0 = slots + 12; omega) g_no (fun r3_ h => ?_)
  obtain rfl := h
  refine lv_iload hx hb dL_law_2184 (lv_at hl 1 rfl) ?_
  refine lv_icmp_eq (tgt := 2191) hx hb dL_law_2186 (by decide) (fun c1_ => ?_) (fun c1_ => ?_)
  · refine lv_iload hx hb dL_law_2191 (lv_at hl 1 rfl) ?_
    refine lv_if_ne (tgt := 2208) hx hb dL_law_2193 (by decide) (fun c2_ => ?_) (fun c2_ => ?_)
    · have q3_ : ¬ kc = 0 := fun z => c2_ (congrArg nI z)
      refine lv_goto (tgt := 2472) hx hb dL_law_2208 (by decide) ?_
      exact W.widen (k := cells + 16) (n := slots + 3000) (by omega) (by omega) (kk H lo ls (LI.fin (M := M) hRB1 ha1 hm1 hR h1 h2 hK (fun hc => hK) (by omega) (by first | (show N 2 + 1 ≤ n + 1; omega) | (show N 2 ≤ n + 1; omega))) hS (lv_sub hl [2, 3, 4, 5, 6, 7] rfl))
    · have q3_ : kc = 0 := (nI_eq (by omega) (by omega)).mp c2_
      have hq0 : kc = 0 := (nI_eq (by omega) (by omega)).mp c2_
      refine lv_aload_n hx hb dL_law_2196 rfl (lv_at hl 6 rfl) ?_
      refine lv_iconst (v := 0) hx hb dL_law_2197 (by decide) ?_
      obtain ⟨rx, hvx, hg1⟩ := hv1 hq0
      have hvb := hv2 hq0
      have hEq : g1 0 = (r2_).toInt64 := by rw [hg1, hvx, hvb, ((lk_lackY hK (xs ((7 * n) + 1))).2 (hkc.symm.trans hq0)).1]
      refine g_lald (n := 1) (j := 0) hC h1 (by decide) (by decide) dL_law_2198 ?_
      refine lv_iload hx hb dL_law_2199 (lv_at hl 0 rfl) ?_
      refine lv_i2l (v := (r2_).toInt64) hx hb dL_law_2201 rfl ?_
      refine g_lcmp hx hb hEq dL_law_2202 ?_
      refine lv_if_eq (tgt := 2208) hx hb dL_law_2203 (by decide) (fun c4_ => ?_) (fun c4_ => ?_)
      · refine lv_goto (tgt := 2472) hx hb dL_law_2208 (by decide) ?_
        exact W.widen (k := cells + 16) (n := slots + 3000) (by omega) (by omega) (kk H lo ls (LI.fin (M := M) hRB1 ha1 hm1 hR h1 h2 hK (fun hc => hK) (by omega) (by first | (show N 2 + 1 ≤ n + 1; omega) | (show N 2 ≤ n + 1; omega))) hS (lv_sub hl [2, 3, 4, 5, 6, 7] rfl))
      · exact absurd (by decide) c4_
  · exact absurd rfl c1_
set_option maxHeartbeats 4000000 in
set_option maxRecDepth 100000 in
theorem q_lackDepth {p_ : Program} {l : Launch} {e_ : Env} {s : State} {m : MethodId} {args : Array Value} {below : List Frame} {meth : Method} {c : Code} {Q : State → Prop} {E : gV} (hE : gOK l E) {β : Nat → Nat} {a0 o1 o2 b L : Nat} {xs : Nat → Int32} (hst : lS E β o1 o2) (hL : L ≤ 3584) (hX : va_X b L xs s E.2.1.heap) (hbl : b < E.2.1.heap.size) (hC : gC l E p_ s m meth c RL cL_law 8) {n cells slots : Nat} {H : Heap} {lo : List Loc} {ls : Array Slot} (hn : n < 512) (hi : 7 * n + 7 ≤ L) (hc1 : cells + 16 ≤ 601024) (hc2 : slots + 3000 ≤ 7293034) (hI : LI E β a0 o1 o2 n H) (hS : va_S (gA0 E) E.2.1.heap H lo) (hl : lv_has ls 8 [(5, .int (nI (7 * n))), (0, .ref b), (1, .ref a0), (2, .ref (β 19)), (3, .ref o1), (4, .ref o2)])
    (kk : ∀ (H1 : Heap) (lo1 : List Loc) (ls1 : Array Slot), LI E β a0 o1 o2 (n + 1) H1 → va_S (gA0 E) E.2.1.heap H1 lo1 → lv_has ls1 8 [(5, .int (nI (7 * n))), (0, .ref b), (1, .ref a0), (2, .ref (β 19)), (3, .ref o1), (4, .ref o2)] → W p_ l e_ room_1 s m args below meth c H1 lo1 (cells + 16) (slots + 3000) Q (F0 m 2472 ls1 [])) : W p_ l e_ room_1 s m args below meth c H lo cells slots Q (F0 m 2211 ls []) := by
  have hx := hC.2.2.1
  have hb := hC.2.2.2.1
  obtain ⟨α, ξ, M, N, μ, K, dp, th, f1, f2, hRB, rfl, hR, h1, h2, hK, hN2⟩ := hI
  refine lv_aload_n hx hb dL_law_2211 rfl (lv_at hl 2 rfl) ?_
  refine lv_aload_n hx hb dL_law_2212 rfl (lv_at hl 1 rfl) ?_
  refine lv_iload hx hb dL_law_2213 (lv_at hl 0 rfl) ?_
  refine lv_iconst (v := 1) hx hb dL_law_2215 (by decide) ?_
  refine g_iadd1 hx hb dL_law_2216 ?_
  refine g_sld (q := ((7 * n) + 1)) hC hX hbl hS (by omega) (by omega) dL_law_2217 ?_
  refine lv_aload_n hx hb dL_law_2218 rfl (lv_at hl 4 rfl) ?_
  refine g_cWi (k2 := cells + 2) (n2 := slots + 12) (g_runSH (n := 3) (rest := []) hC (w_lackDepth hE (α := α) (ξ := ξ) (M := M) (N := N) (B := lB β o1 o2) (xs ((7 * n) + 1)) (o := o1) (f0 := f1) (Or.inr (Or.inl rfl)) hst.2.2.1) k_0 k_958 (by decide +kernel) k_956 k_957 ⟨hRB, h1⟩ rfl hl.1 dL_law_2219 ⟨Nat.le_of_ble_eq_true rfl, Nat.le_of_ble_eq_true rfl⟩ ⟨by show cells + 0 + 2 ≤ 601024; omega, by show slots + 0 + 12 ≤ 7293034; omega⟩ rfl (Nat.le_of_ble_eq_true rfl)) hS (fun q h => h.elim (fun h => h.1) (fun h => by rw [h]; exact hst.2.2.1)) (by show cells + 0 + 2 = cells + 2; omega) (by show slots + 0 + 12 = slots + 12; omega) (fun r1_ H lo h hz_ hk_ hS => ?_)
  obtain ⟨hr1, α1, M1, g1, hRB1, hm1, ha1, h1n, hv1⟩ := h
  obtain ⟨hR, h2⟩ := hst.x hR h2 hk_
  have h1 := h1n
  obtain ⟨kc, hkc⟩ : ∃ kc, kc = kLackP (mw μ) (μ 15) (K 2) (xs ((7 * n) + 1)) := ⟨_, rfl⟩
  have hkx := (lk_lackY hK (xs ((7 * n) + 1))).1
  rw [← hkc] at hkx
  rw [hkx] at hr1 hv1 hRB1 hm1
  subst hr1
  have hk5 : kc ≤ 4 := by rw [hkc]; unfold kLackP; exact (cif_le (by decide) (cif_le (by decide) (by decide)))
  refine lv_istore (lv' := [(6, .int (nI kc)), (5, .int (nI (7 * n))), (0, .ref b), (1, .ref (α 3 0)), (2, .ref (β 19)), (3, .ref o1), (4, .ref o2)]) hx hb dL_law_2222 hl (by decide) rfl (fun ls hl => ?_)
  refine lv_aload_n hx hb dL_law_2224 rfl (lv_at hl 4 rfl) ?_
  refine lv_aload_n hx hb dL_law_2225 rfl (lv_at hl 2 rfl) ?_
  refine lv_iload hx hb dL_law_2226 (lv_at hl 1 rfl) ?_
  refine lv_iconst (v := 1) hx hb dL_law_2228 (by decide) ?_
  refine g_iadd1 hx hb dL_law_2229 ?_
  refine g_sld (q := ((7 * n) + 1)) hC hX hbl hS (by omega) (by omega) dL_law_2230 ?_
  refine g_cWi (k2 := cells + 2) (n2 := slots + 12) (g_runV (rest := []) hC (c_X5_lackDepth hE (β := β) (μ := μ) (K := K) (dp := dp) (th := th) hK.mi (xs ((7 * n) + 1))) Y_X5_lackDepth k_1278 I_X5_lackDepth V_X5_lackDepth hR.obj rfl hR rfl hl.1 dL_law_2231 ⟨Nat.le_of_ble_eq_true rfl, Nat.le_of_ble_eq_true rfl⟩ ⟨by show cells + 2 + 0 ≤ 601024; omega, by show slots + 12 + 0 ≤ 7293034; omega⟩ rfl (Nat.le_of_ble_eq_true rfl)) hS (fun q ⟨k, hk, e⟩ => by rw [e]; exact (hst.2.1 k hk).2.2) (by show cells + 2 + 0 = cells + 2; omega) (by show slots + 12 + 0 = slots + 12; omega) (fun r2_ H lo h hz_ hk_ hS => ?_)
  obtain ⟨dp1, hR, hv2⟩ := h
  rw [← hkc] at hR hv2
  obtain ⟨hRB1, h1, h2⟩ := hst.m hRB1 h1 h2 hz_ hk_
  refine lv_istore (lv' := [(7, .int r2_), (6, .int (nI kc)), (5, .int (nI (7 * n))), (0, .ref b), (1, .ref (α 3 0)), (2, .ref (β 19)), (3, .ref o1), (4, .ref o2)]) hx hb dL_law_2234 hl (by decide) rfl (fun ls hl => ?_)
  refine lv_aload_n hx hb dL_law_2236 rfl (lv_at hl 5 rfl) ?_
  refine g_cRi (k2 := cells + 2) (n2 := slots + 12) (g_runV (rest := []) hC (c_X5_thrown hE (β := β) (dp := dp1) (th := nI kc)) Y_X5_thrown k_1076 I_X5_thrown V_X5_thrown hR.obj rfl hR rfl hl.1 dL_law_2237 ⟨Nat.le_of_ble_eq_true rfl, Nat.le_of_ble_eq_true rfl⟩ ⟨by show cells + 2 + 0 ≤ 601024; omega, by show slots + 12 + 0 ≤ 7293034; omega⟩ rfl (Nat.le_of_ble_eq_true rfl)) (by show cells + 2 + 0 = cells + 2; omega) (by show slots + 12 + 0 = slots + 12; omega) g_no (fun r3_ h => ?_)
  obtain rfl := h
  refine lv_iload hx hb dL_law_2240 (lv_at hl 1 rfl) ?_
  refine lv_icmp_eq (tgt := 2247) hx hb dL_law_2242 (by decide) (fun c1_ => ?_) (fun c1_ => ?_)
  · refine lv_iload hx hb dL_law_2247 (lv_at hl 1 rfl) ?_
    refine lv_if_ne (tgt := 2264) hx hb dL_law_2249 (by decide) (fun c2_ => ?_) (fun c2_ => ?_)
    · have q3_ : ¬ kc = 0 := fun z => c2_ (congrArg nI z)
      refine lv_goto (tgt := 2472) hx hb dL_law_2264 (by decide) ?_
      exact W.widen (k := cells + 16) (n := slots + 3000) (by omega) (by omega) (kk H lo ls (LI.fin (M := M) hRB1 ha1 hm1 hR h1 h2 hK (fun hc => hK) (by omega) (by first | (show N 2 + 1 ≤ n + 1; omega) | (show N 2 ≤ n + 1; omega))) hS (lv_sub hl [2, 3, 4, 5, 6, 7] rfl))
    · have q3_ : kc = 0 := (nI_eq (by omega) (by omega)).mp c2_
      have hq0 : kc = 0 := (nI_eq (by omega) (by omega)).mp c2_
      refine lv_aload_n hx hb dL_law_2252 rfl (lv_at hl 6 rfl) ?_
      refine lv_iconst (v := 0) hx hb dL_law_2253 (by decide) ?_
      obtain ⟨rx, hvx, hg1⟩ := hv1 hq0
      have hvb := hv2 hq0
      have hEq : g1 0 = (r2_).toInt64 := by rw [hg1, hvx, hvb, ((lk_lackY hK (xs ((7 * n) + 1))).2 (hkc.symm.trans hq0)).2]
      refine g_lald (n := 1) (j := 0) hC h1 (by decide) (by decide) dL_law_2254 ?_
      refine lv_iload hx hb dL_law_2255 (lv_at hl 0 rfl) ?_
      refine lv_i2l (v := (r2_).toInt64) hx hb dL_law_2257 rfl ?_
      refine g_lcmp hx hb hEq dL_law_2258 ?_
      refine lv_if_eq (tgt := 2264) hx hb dL_law_2259 (by decide) (fun c4_ => ?_) (fun c4_ => ?_)
      · refine lv_goto (tgt := 2472) hx hb dL_law_2264 (by decide) ?_
        exact W.widen (k := cells + 16) (n := slots + 3000) (by omega) (by omega) (kk H lo ls (LI.fin (M := M) hRB1 ha1 hm1 hR h1 h2 hK (fun hc => hK) (by omega) (by first | (show N 2 + 1 ≤ n + 1; omega) | (show N 2 ≤ n + 1; omega))) hS (lv_sub hl [2, 3, 4, 5, 6, 7] rfl))
      · exact absurd (by decide) c4_
  · exact absurd rfl c1_
set_option maxHeartbeats 4000000 in
set_option maxRecDepth 100000 in
theorem q_setWindow {p_ : Program} {l : Launch} {e_ : Env} {s : State} {m : MethodId} {args : Array Value} {below : List Frame} {meth : Method} {c : Code} {Q : State → Prop} {E : gV} (hE : gOK l E) {β : Nat → Nat} {a0 o1 o2 b L : Nat} {xs : Nat → Int32} (hst : lS E β o1 o2) (hL : L ≤ 3584) (hX : va_X b L xs s E.2.1.heap) (hbl : b < E.2.1.heap.size) (hC : gC l E p_ s m meth c RL cL_law 8) {n cells slots : Nat} {H : Heap} {lo : List Loc} {ls : Array Slot} (hn : n < 512) (hi : 7 * n + 7 ≤ L) (hc1 : cells + 16 ≤ 601024) (hc2 : slots + 3000 ≤ 7293034) (hI : LI E β a0 o1 o2 n H) (hS : va_S (gA0 E) E.2.1.heap H lo) (hl : lv_has ls 8 [(5, .int (nI (7 * n))), (0, .ref b), (1, .ref a0), (2, .ref (β 19)), (3, .ref o1), (4, .ref o2)])
    (kk : ∀ (H1 : Heap) (lo1 : List Loc) (ls1 : Array Slot), LI E β a0 o1 o2 (n + 1) H1 → va_S (gA0 E) E.2.1.heap H1 lo1 → lv_has ls1 8 [(5, .int (nI (7 * n))), (0, .ref b), (1, .ref a0), (2, .ref (β 19)), (3, .ref o1), (4, .ref o2)] → W p_ l e_ room_1 s m args below meth c H1 lo1 (cells + 16) (slots + 3000) Q (F0 m 2472 ls1 [])) : W p_ l e_ room_1 s m args below meth c H lo cells slots Q (F0 m 2267 ls []) := by
  have hx := hC.2.2.1
  have hb := hC.2.2.2.1
  obtain ⟨α, ξ, M, N, μ, K, dp, th, f1, f2, hRB, rfl, hR, h1, h2, hK, hN2⟩ := hI
  refine lv_aload_n hx hb dL_law_2267 rfl (lv_at hl 2 rfl) ?_
  refine lv_aload_n hx hb dL_law_2268 rfl (lv_at hl 1 rfl) ?_
  refine lv_iload hx hb dL_law_2269 (lv_at hl 0 rfl) ?_
  refine lv_iconst (v := 1) hx hb dL_law_2271 (by decide) ?_
  refine g_iadd1 hx hb dL_law_2272 ?_
  refine g_sld (q := ((7 * n) + 1)) hC hX hbl hS (by omega) (by omega) dL_law_2273 ?_
  refine lv_aload_n hx hb dL_law_2274 rfl (lv_at hl 4 rfl) ?_
  refine g_cWi (k2 := cells + 4) (n2 := slots + 1030) (g_runSH (n := 3) (rest := []) hC (w_setWindow hE (α := α) (ξ := ξ) (M := M) (N := N) (B := lB β o1 o2) (xs ((7 * n) + 1)) (by omega) (o := o1) (f0 := f1) (Or.inr (Or.inl rfl)) hst.2.2.1) k_0 k_965 (by decide +kernel) k_963 k_964 ⟨hRB, h1⟩ rfl hl.1 dL_law_2275 ⟨Nat.le_of_ble_eq_true rfl, Nat.le_of_ble_eq_true rfl⟩ ⟨by show cells + 0 + 4 ≤ 601024; omega, by show slots + 0 + 1030 ≤ 7293034; omega⟩ rfl (Nat.le_of_ble_eq_true rfl)) hS (fun q h => h.elim (fun h => h.1) (fun h => by rw [h]; exact hst.2.2.1)) (by show cells + 0 + 4 = cells + 4; omega) (by show slots + 0 + 1030 = slots + 1030; omega) (fun r1_ H lo h hz_ hk_ hS => ?_)
  obtain ⟨hr1, α1, M1, g1, hRB1, hm1, ha1, h1n, hv1⟩ := h
  obtain ⟨hR, h2⟩ := hst.x hR h2 hk_
  have h1 := h1n
  obtain ⟨kc, hkc⟩ : ∃ kc, kc = kWin (xs ((7 * n) + 1)) := ⟨_, rfl⟩
  have hkx : kWin (xs ((7 * n) + 1)) = kWin (xs ((7 * n) + 1)) := rfl
  rw [← hkc] at hkx
  rw [← hkc] at hr1 hv1 hRB1 hm1
  subst hr1
  have hk5 : kc ≤ 4 := by rw [hkc]; unfold kWin; exact (cif_le (by decide) (by decide))
  refine lv_istore (lv' := [(6, .int (nI kc)), (5, .int (nI (7 * n))), (0, .ref b), (1, .ref (α 3 0)), (2, .ref (β 19)), (3, .ref o1), (4, .ref o2)]) hx hb dL_law_2278 hl (by decide) rfl (fun ls hl => ?_)
  refine lv_aload_n hx hb dL_law_2280 rfl (lv_at hl 4 rfl) ?_
  refine lv_aload_n hx hb dL_law_2281 rfl (lv_at hl 2 rfl) ?_
  refine lv_iload hx hb dL_law_2282 (lv_at hl 1 rfl) ?_
  refine lv_iconst (v := 1) hx hb dL_law_2284 (by decide) ?_
  refine g_iadd1 hx hb dL_law_2285 ?_
  refine g_sld (q := ((7 * n) + 1)) hC hX hbl hS (by omega) (by omega) dL_law_2286 ?_
  refine g_cWi (k2 := cells + 4) (n2 := slots + 1030) (g_runV (rest := []) hC (c_X5_setWindow hE (β := β) (μ := μ) (K := K) (dp := dp) (th := th) hK.mi (xs ((7 * n) + 1))) Y_X5_setWindow k_1282 I_X5_setWindow V_X5_setWindow hR.obj rfl hR rfl hl.1 dL_law_2287 ⟨Nat.le_of_ble_eq_true rfl, Nat.le_of_ble_eq_true rfl⟩ ⟨by show cells + 4 + 0 ≤ 601024; omega, by show slots + 1030 + 0 ≤ 7293034; omega⟩ rfl (Nat.le_of_ble_eq_true rfl)) hS (fun q ⟨k, hk, e⟩ => by rw [e]; exact (hst.2.1 k hk).2.2) (by show cells + 4 + 0 = cells + 4; omega) (by show slots + 1030 + 0 = slots + 1030; omega) (fun r2_ H lo h hz_ hk_ hS => ?_)
  obtain ⟨dp1, hR, hv2⟩ := h
  rw [← hkc] at hR hv2
  obtain ⟨hRB1, h1, h2⟩ := hst.m hRB1 h1 h2 hz_ hk_
  refine lv_istore (lv' := [(7, .int r2_), (6, .int (nI kc)), (5, .int (nI (7 * n))), (0, .ref b), (1, .ref (α 3 0)), (2, .ref (β 19)), (3, .ref o1), (4, .ref o2)]) hx hb dL_law_2290 hl (by decide) rfl (fun ls hl => ?_)
  refine lv_aload_n hx hb dL_law_2292 rfl (lv_at hl 5 rfl) ?_
  refine g_cRi (k2 := cells + 4) (n2 := slots + 1030) (g_runV (rest := []) hC (c_X5_thrown hE (β := β) (dp := dp1) (th := nI kc)) Y_X5_thrown k_1076 I_X5_thrown V_X5_thrown hR.obj rfl hR rfl hl.1 dL_law_2293 ⟨Nat.le_of_ble_eq_true rfl, Nat.le_of_ble_eq_true rfl⟩ ⟨by show cells + 4 + 0 ≤ 601024; omega, by show slots + 1030 + 0 ≤ 7293034; omega⟩ rfl (Nat.le_of_ble_eq_true rfl)) (by show cells + 4 + 0 = cells + 4; omega) (by show slots + 1030 + 0 = slots + 1030; omega) g_no (fun r3_ h => ?_)
  obtain rfl := h
  refine lv_iload hx hb dL_law_2296 (lv_at hl 1 rfl) ?_
  refine lv_icmp_eq (tgt := 2303) hx hb dL_law_2298 (by decide) (fun c1_ => ?_) (fun c1_ => ?_)
  · refine lv_iload hx hb dL_law_2303 (lv_at hl 1 rfl) ?_
    refine lv_if_ne (tgt := 2320) hx hb dL_law_2305 (by decide) (fun c2_ => ?_) (fun c2_ => ?_)
    · have q3_ : ¬ kc = 0 := fun z => c2_ (congrArg nI z)
      refine lv_goto (tgt := 2472) hx hb dL_law_2320 (by decide) ?_
      exact W.widen (k := cells + 16) (n := slots + 3000) (by omega) (by omega) (kk H lo ls (LI.fin (M := M) hRB1 ha1 hm1 hR h1 h2 hK (fun hc => (lk_setWindow hK (xs ((7 * n) + 1)) (hkc.symm.trans hc)).2) (by omega) (by first | (show N 2 + 1 ≤ n + 1; omega) | (show N 2 ≤ n + 1; omega))) hS (lv_sub hl [2, 3, 4, 5, 6, 7] rfl))
    · have q3_ : kc = 0 := (nI_eq (by omega) (by omega)).mp c2_
      have hq0 : kc = 0 := (nI_eq (by omega) (by omega)).mp c2_
      refine lv_aload_n hx hb dL_law_2308 rfl (lv_at hl 6 rfl) ?_
      refine lv_iconst (v := 0) hx hb dL_law_2309 (by decide) ?_
      obtain ⟨rx, hvx, hg1⟩ := hv1 hq0
      have hvb := hv2 hq0
      have hEq : g1 0 = (r2_).toInt64 := by rw [hg1, hvx, hvb, (lk_setWindow hK (xs ((7 * n) + 1)) (hkc.symm.trans hq0)).1]
      refine g_lald (n := 1) (j := 0) hC h1 (by decide) (by decide) dL_law_2310 ?_
      refine lv_iload hx hb dL_law_2311 (lv_at hl 0 rfl) ?_
      refine lv_i2l (v := (r2_).toInt64) hx hb dL_law_2313 rfl ?_
      refine g_lcmp hx hb hEq dL_law_2314 ?_
      refine lv_if_eq (tgt := 2320) hx hb dL_law_2315 (by decide) (fun c4_ => ?_) (fun c4_ => ?_)
      · refine lv_goto (tgt := 2472) hx hb dL_law_2320 (by decide) ?_
        exact W.widen (k := cells + 16) (n := slots + 3000) (by omega) (by omega) (kk H lo ls (LI.fin (M := M) hRB1 ha1 hm1 hR h1 h2 hK (fun hc => (lk_setWindow hK (xs ((7 * n) + 1)) (hkc.symm.trans hc)).2) (by omega) (by first | (show N 2 + 1 ≤ n + 1; omega) | (show N 2 ≤ n + 1; omega))) hS (lv_sub hl [2, 3, 4, 5, 6, 7] rfl))
      · exact absurd (by decide) c4_
  · exact absurd rfl c1_
set_option maxHeartbeats 4000000 in
set_option maxRecDepth 100000 in
theorem q_pass {p_ : Program} {l : Launch} {e_ : Env} {s : State} {m : MethodId} {args : Array Value} {below : List Frame} {meth : Method} {c : Code} {Q : State → Prop} {E : gV} (hE : gOK l E) {β : Nat → Nat} {a0 o1 o2 b L : Nat} {xs : Nat → Int32} (hst : lS E β o1 o2) (hL : L ≤ 3584) (hX : va_X b L xs s E.2.1.heap) (hbl : b < E.2.1.heap.size) (hC : gC l E p_ s m meth c RL cL_law 8) {n cells slots : Nat} {H : Heap} {lo : List Loc} {ls : Array Slot} (hn : n < 512) (hi : 7 * n + 7 ≤ L) (hc1 : cells + 16 ≤ 601024) (hc2 : slots + 3000 ≤ 7293034) (hI : LI E β a0 o1 o2 n H) (hS : va_S (gA0 E) E.2.1.heap H lo) (hl : lv_has ls 8 [(5, .int (nI (7 * n))), (0, .ref b), (1, .ref a0), (2, .ref (β 19)), (3, .ref o1), (4, .ref o2)])
    (kk : ∀ (H1 : Heap) (lo1 : List Loc) (ls1 : Array Slot), LI E β a0 o1 o2 (n + 1) H1 → va_S (gA0 E) E.2.1.heap H1 lo1 → lv_has ls1 8 [(5, .int (nI (7 * n))), (0, .ref b), (1, .ref a0), (2, .ref (β 19)), (3, .ref o1), (4, .ref o2)] → W p_ l e_ room_1 s m args below meth c H1 lo1 (cells + 16) (slots + 3000) Q (F0 m 2472 ls1 [])) : W p_ l e_ room_1 s m args below meth c H lo cells slots Q (F0 m 2323 ls []) := by
  have hx := hC.2.2.1
  have hb := hC.2.2.2.1
  obtain ⟨α, ξ, M, N, μ, K, dp, th, f1, f2, hRB, rfl, hR, h1, h2, hK, hN2⟩ := hI
  refine lv_aload_n hx hb dL_law_2323 rfl (lv_at hl 2 rfl) ?_
  refine lv_aload_n hx hb dL_law_2324 rfl (lv_at hl 1 rfl) ?_
  refine lv_iload hx hb dL_law_2325 (lv_at hl 0 rfl) ?_
  refine lv_iconst (v := 1) hx hb dL_law_2327 (by decide) ?_
  refine g_iadd1 hx hb dL_law_2328 ?_
  refine g_sld (q := ((7 * n) + 1)) hC hX hbl hS (by omega) (by omega) dL_law_2329 ?_
  refine lv_aload_n hx hb dL_law_2330 rfl (lv_at hl 4 rfl) ?_
  refine g_cWi (k2 := cells + 2) (n2 := slots + 12) (g_runSH (n := 3) (rest := []) hC (w_pass hE (α := α) (ξ := ξ) (M := M) (N := N) (B := lB β o1 o2) (xs ((7 * n) + 1)) (o := o1) (f0 := f1) (Or.inr (Or.inl rfl)) hst.2.2.1) k_0 k_976 (by decide +kernel) k_974 k_975 ⟨hRB, h1⟩ rfl hl.1 dL_law_2331 ⟨Nat.le_of_ble_eq_true rfl, Nat.le_of_ble_eq_true rfl⟩ ⟨by show cells + 0 + 2 ≤ 601024; omega, by show slots + 0 + 12 ≤ 7293034; omega⟩ rfl (Nat.le_of_ble_eq_true rfl)) hS (fun q h => h.elim (fun h => h.1) (fun h => by rw [h]; exact hst.2.2.1)) (by show cells + 0 + 2 = cells + 2; omega) (by show slots + 0 + 12 = slots + 12; omega) (fun r1_ H lo h hz_ hk_ hS => ?_)
  obtain ⟨hr1, α1, M1, g1, hRB1, hm1, ha1, h1n, hv1⟩ := h
  obtain ⟨hR, h2⟩ := hst.x hR h2 hk_
  have h1 := h1n
  obtain ⟨kc, hkc⟩ : ∃ kc, kc = kPass (μ 22 0) (xs ((7 * n) + 1)) := ⟨_, rfl⟩
  have hkx := (lk_pass hK (xs ((7 * n) + 1))).1
  rw [← hkc] at hkx
  rw [hkx] at hr1 hv1 hRB1 hm1
  subst hr1
  have hk5 : kc ≤ 4 := by rw [hkc]; unfold kPass; exact (cif_le (by decide) (by decide))
  refine lv_istore (lv' := [(6, .int (nI kc)), (5, .int (nI (7 * n))), (0, .ref b), (1, .ref (α 3 0)), (2, .ref (β 19)), (3, .ref o1), (4, .ref o2)]) hx hb dL_law_2334 hl (by decide) rfl (fun ls hl => ?_)
  refine lv_aload_n hx hb dL_law_2336 rfl (lv_at hl 4 rfl) ?_
  refine lv_aload_n hx hb dL_law_2337 rfl (lv_at hl 2 rfl) ?_
  refine lv_iload hx hb dL_law_2338 (lv_at hl 1 rfl) ?_
  refine lv_iconst (v := 1) hx hb dL_law_2340 (by decide) ?_
  refine g_iadd1 hx hb dL_law_2341 ?_
  refine g_sld (q := ((7 * n) + 1)) hC hX hbl hS (by omega) (by omega) dL_law_2342 ?_
  refine g_cWi (k2 := cells + 2) (n2 := slots + 12) (g_runV (rest := []) hC (c_X5_pass hE (β := β) (μ := μ) (K := K) (dp := dp) (th := th) hK.mi (xs ((7 * n) + 1))) Y_X5_pass k_1286 I_X5_pass V_X5_pass hR.obj rfl hR rfl hl.1 dL_law_2343 ⟨Nat.le_of_ble_eq_true rfl, Nat.le_of_ble_eq_true rfl⟩ ⟨by show cells + 2 + 0 ≤ 601024; omega, by show slots + 12 + 0 ≤ 7293034; omega⟩ rfl (Nat.le_of_ble_eq_true rfl)) hS (fun q ⟨k, hk, e⟩ => by rw [e]; exact (hst.2.1 k hk).2.2) (by show cells + 2 + 0 = cells + 2; omega) (by show slots + 12 + 0 = slots + 12; omega) (fun r2_ H lo h hz_ hk_ hS => ?_)
  obtain ⟨dp1, hR, hv2⟩ := h
  rw [← hkc] at hR hv2
  obtain ⟨hRB1, h1, h2⟩ := hst.m hRB1 h1 h2 hz_ hk_
  refine lv_istore (lv' := [(7, .int r2_), (6, .int (nI kc)), (5, .int (nI (7 * n))), (0, .ref b), (1, .ref (α 3 0)), (2, .ref (β 19)), (3, .ref o1), (4, .ref o2)]) hx hb dL_law_2346 hl (by decide) rfl (fun ls hl => ?_)
  refine lv_aload_n hx hb dL_law_2348 rfl (lv_at hl 5 rfl) ?_
  refine g_cRi (k2 := cells + 2) (n2 := slots + 12) (g_runV (rest := []) hC (c_X5_thrown hE (β := β) (dp := dp1) (th := nI kc)) Y_X5_thrown k_1076 I_X5_thrown V_X5_thrown hR.obj rfl hR rfl hl.1 dL_law_2349 ⟨Nat.le_of_ble_eq_true rfl, Nat.le_of_ble_eq_true rfl⟩ ⟨by show cells + 2 + 0 ≤ 601024; omega, by show slots + 12 + 0 ≤ 7293034; omega⟩ rfl (Nat.le_of_ble_eq_true rfl)) (by show cells + 2 + 0 = cells + 2; omega) (by show slots + 12 + 0 = slots + 12; omega) g_no (fun r3_ h => ?_)
  obtain rfl := h
  refine lv_iload hx hb dL_law_2352 (lv_at hl 1 rfl) ?_
  refine lv_icmp_eq (tgt := 2359) hx hb dL_law_2354 (by decide) (fun c1_ => ?_) (fun c1_ => ?_)
  · refine lv_iload hx hb dL_law_2359 (lv_at hl 1 rfl) ?_
    refine lv_if_ne (tgt := 2376) hx hb dL_law_2361 (by decide) (fun c2_ => ?_) (fun c2_ => ?_)
    · have q3_ : ¬ kc = 0 := fun z => c2_ (congrArg nI z)
      refine lv_goto (tgt := 2472) hx hb dL_law_2376 (by decide) ?_
      exact W.widen (k := cells + 16) (n := slots + 3000) (by omega) (by omega) (kk H lo ls (LI.fin (M := M) hRB1 ha1 hm1 hR h1 h2 hK (fun hc => ((lk_pass hK (xs ((7 * n) + 1))).2 (hkc.symm.trans hc)).2) (by omega) (by first | (show N 2 + 1 ≤ n + 1; omega) | (show N 2 ≤ n + 1; omega))) hS (lv_sub hl [2, 3, 4, 5, 6, 7] rfl))
    · have q3_ : kc = 0 := (nI_eq (by omega) (by omega)).mp c2_
      have hq0 : kc = 0 := (nI_eq (by omega) (by omega)).mp c2_
      refine lv_aload_n hx hb dL_law_2364 rfl (lv_at hl 6 rfl) ?_
      refine lv_iconst (v := 0) hx hb dL_law_2365 (by decide) ?_
      obtain ⟨rx, hvx, hg1⟩ := hv1 hq0
      have hvb := hv2 hq0
      have hEq : g1 0 = (r2_).toInt64 := by rw [hg1, hvx, hvb, ((lk_pass hK (xs ((7 * n) + 1))).2 (hkc.symm.trans hq0)).1]
      refine g_lald (n := 1) (j := 0) hC h1 (by decide) (by decide) dL_law_2366 ?_
      refine lv_iload hx hb dL_law_2367 (lv_at hl 0 rfl) ?_
      refine lv_i2l (v := (r2_).toInt64) hx hb dL_law_2369 rfl ?_
      refine g_lcmp hx hb hEq dL_law_2370 ?_
      refine lv_if_eq (tgt := 2376) hx hb dL_law_2371 (by decide) (fun c4_ => ?_) (fun c4_ => ?_)
      · refine lv_goto (tgt := 2472) hx hb dL_law_2376 (by decide) ?_
        exact W.widen (k := cells + 16) (n := slots + 3000) (by omega) (by omega) (kk H lo ls (LI.fin (M := M) hRB1 ha1 hm1 hR h1 h2 hK (fun hc => ((lk_pass hK (xs ((7 * n) + 1))).2 (hkc.symm.trans hc)).2) (by omega) (by first | (show N 2 + 1 ≤ n + 1; omega) | (show N 2 ≤ n + 1; omega))) hS (lv_sub hl [2, 3, 4, 5, 6, 7] rfl))
      · exact absurd (by decide) c4_
  · exact absurd rfl c1_
set_option maxHeartbeats 4000000 in
set_option maxRecDepth 100000 in
theorem q_today {p_ : Program} {l : Launch} {e_ : Env} {s : State} {m : MethodId} {args : Array Value} {below : List Frame} {meth : Method} {c : Code} {Q : State → Prop} {E : gV} (hE : gOK l E) {β : Nat → Nat} {a0 o1 o2 b L : Nat} {xs : Nat → Int32} (hst : lS E β o1 o2) (hL : L ≤ 3584) (hX : va_X b L xs s E.2.1.heap) (hbl : b < E.2.1.heap.size) (hC : gC l E p_ s m meth c RL cL_law 8) {n cells slots : Nat} {H : Heap} {lo : List Loc} {ls : Array Slot} (hn : n < 512) (hi : 7 * n + 7 ≤ L) (hc1 : cells + 16 ≤ 601024) (hc2 : slots + 3000 ≤ 7293034) (hI : LI E β a0 o1 o2 n H) (hS : va_S (gA0 E) E.2.1.heap H lo) (hl : lv_has ls 8 [(5, .int (nI (7 * n))), (0, .ref b), (1, .ref a0), (2, .ref (β 19)), (3, .ref o1), (4, .ref o2)])
    (kk : ∀ (H1 : Heap) (lo1 : List Loc) (ls1 : Array Slot), LI E β a0 o1 o2 (n + 1) H1 → va_S (gA0 E) E.2.1.heap H1 lo1 → lv_has ls1 8 [(5, .int (nI (7 * n))), (0, .ref b), (1, .ref a0), (2, .ref (β 19)), (3, .ref o1), (4, .ref o2)] → W p_ l e_ room_1 s m args below meth c H1 lo1 (cells + 16) (slots + 3000) Q (F0 m 2472 ls1 [])) : W p_ l e_ room_1 s m args below meth c H lo cells slots Q (F0 m 2379 ls []) := by
  have hx := hC.2.2.1
  have hb := hC.2.2.2.1
  obtain ⟨α, ξ, M, N, μ, K, dp, th, f1, f2, hRB, rfl, hR, h1, h2, hK, hN2⟩ := hI
  refine lv_aload_n hx hb dL_law_2379 rfl (lv_at hl 2 rfl) ?_
  refine g_cRi (k2 := cells + 0) (n2 := slots + 0) (g_runV (rest := []) hC (c_X4_today hE (α := α) (ξ := ξ) (M := M) (N := N)) Y_X4_today k_114 I_X4_today V_X4_today hRB.1.sig rfl hRB.1 rfl hl.1 dL_law_2380 ⟨Nat.le_of_ble_eq_true rfl, Nat.le_of_ble_eq_true rfl⟩ ⟨by show cells + 0 + 0 ≤ 601024; omega, by show slots + 0 + 0 ≤ 7293034; omega⟩ rfl (Nat.le_of_ble_eq_true rfl)) (by show cells + 0 + 0 = cells + 0; omega) (by show slots + 0 + 0 = slots + 0; omega) g_no (fun rX h => ?_)
  obtain ⟨-, hrX⟩ := h
  refine lv_aload_n hx hb dL_law_2383 rfl (lv_at hl 3 rfl) ?_
  refine g_cWi (k2 := cells + 0) (n2 := slots + 0) (g_runV (rest := [.int rX]) hC (c_X5_today hE (β := β) (μ := μ) (K := K) (dp := dp) (th := th) hK.mi ) Y_X5_today k_1290 I_X5_today V_X5_today hR.obj rfl hR rfl hl.1 dL_law_2384 ⟨Nat.le_of_ble_eq_true rfl, Nat.le_of_ble_eq_true rfl⟩ ⟨by show cells + 0 + 0 ≤ 601024; omega, by show slots + 0 + 0 ≤ 7293034; omega⟩ rfl (Nat.le_of_ble_eq_true rfl)) hS (fun q ⟨k, hk, e⟩ => by rw [e]; exact (hst.2.1 k hk).2.2) (by show cells + 0 + 0 = cells + 0; omega) (by show slots + 0 + 0 = slots + 0; omega) (fun r2_ H lo h hz_ hk_ hS => ?_)
  obtain ⟨dp1, hR, hv2⟩ := h
  rw [if_pos rfl, if_pos rfl] at hR
  obtain ⟨hRB, h1, h2⟩ := hst.m hRB h1 h2 hz_ hk_
  have hEq : rX = r2_ := by rw [hrX, hv2 rfl, hK.td]
  refine lv_icmp_eq (tgt := 2472) hx hb dL_law_2387 (by decide) (fun c1_ => ?_) (fun c1_ => ?_)
  · exact W.widen (k := cells + 16) (n := slots + 3000) (by omega) (by omega) (kk H lo ls ⟨α, ξ, M, N, μ, K, dp1, _, f1, f2, hRB, rfl, hR, h1, h2, hK, by omega⟩ hS (lv_sub hl [0, 1, 2, 3, 4, 5] rfl))
  · exact absurd hEq c1_
set_option maxHeartbeats 4000000 in
set_option maxRecDepth 100000 in
theorem q_bound {p_ : Program} {l : Launch} {e_ : Env} {s : State} {m : MethodId} {args : Array Value} {below : List Frame} {meth : Method} {c : Code} {Q : State → Prop} {E : gV} (hE : gOK l E) {β : Nat → Nat} {a0 o1 o2 b L : Nat} {xs : Nat → Int32} (hst : lS E β o1 o2) (hL : L ≤ 3584) (hX : va_X b L xs s E.2.1.heap) (hbl : b < E.2.1.heap.size) (hC : gC l E p_ s m meth c RL cL_law 8) {n cells slots : Nat} {H : Heap} {lo : List Loc} {ls : Array Slot} (hn : n < 512) (hi : 7 * n + 7 ≤ L) (hc1 : cells + 16 ≤ 601024) (hc2 : slots + 3000 ≤ 7293034) (hI : LI E β a0 o1 o2 n H) (hS : va_S (gA0 E) E.2.1.heap H lo) (hl : lv_has ls 8 [(5, .int (nI (7 * n))), (0, .ref b), (1, .ref a0), (2, .ref (β 19)), (3, .ref o1), (4, .ref o2)])
    (kk : ∀ (H1 : Heap) (lo1 : List Loc) (ls1 : Array Slot), LI E β a0 o1 o2 (n + 1) H1 → va_S (gA0 E) E.2.1.heap H1 lo1 → lv_has ls1 8 [(5, .int (nI (7 * n))), (0, .ref b), (1, .ref a0), (2, .ref (β 19)), (3, .ref o1), (4, .ref o2)] → W p_ l e_ room_1 s m args below meth c H1 lo1 (cells + 16) (slots + 3000) Q (F0 m 2472 ls1 [])) : W p_ l e_ room_1 s m args below meth c H lo cells slots Q (F0 m 2392 ls []) := by
  have hx := hC.2.2.1
  have hb := hC.2.2.2.1
  obtain ⟨α, ξ, M, N, μ, K, dp, th, f1, f2, hRB, rfl, hR, h1, h2, hK, hN2⟩ := hI
  refine lv_aload_n hx hb dL_law_2392 rfl (lv_at hl 2 rfl) ?_
  refine g_cRl (k2 := cells + 0) (n2 := slots + 0) (g_runV (rest := []) hC (c_X4_bound hE (α := α) (ξ := ξ) (M := M) (N := N)) Y_X4_bound k_118 I_X4_bound V_X4_bound hRB.1.sig rfl hRB.1 rfl hl.1 dL_law_2393 ⟨Nat.le_of_ble_eq_true rfl, Nat.le_of_ble_eq_true rfl⟩ ⟨by show cells + 0 + 0 ≤ 601024; omega, by show slots + 0 + 0 ≤ 7293034; omega⟩ rfl (Nat.le_of_ble_eq_true rfl)) (by show cells + 0 + 0 = cells + 0; omega) (by show slots + 0 + 0 = slots + 0; omega) g_no (fun rX h => ?_)
  obtain ⟨-, hrX⟩ := h
  refine lv_aload_n hx hb dL_law_2396 rfl (lv_at hl 3 rfl) ?_
  refine g_cWl (k2 := cells + 0) (n2 := slots + 0) (g_runV (rest := [.long rX]) hC (c_X5_bound hE (β := β) (μ := μ) (K := K) (dp := dp) (th := th) hK.mi ) Y_X5_bound k_1294 I_X5_bound V_X5_bound hR.obj rfl hR rfl hl.1 dL_law_2397 ⟨Nat.le_of_ble_eq_true rfl, Nat.le_of_ble_eq_true rfl⟩ ⟨by show cells + 0 + 0 ≤ 601024; omega, by show slots + 0 + 0 ≤ 7293034; omega⟩ rfl (Nat.le_of_ble_eq_true rfl)) hS (fun q ⟨k, hk, e⟩ => by rw [e]; exact (hst.2.1 k hk).2.2) (by show cells + 0 + 0 = cells + 0; omega) (by show slots + 0 + 0 = slots + 0; omega) (fun r2_ H lo h hz_ hk_ hS => ?_)
  obtain ⟨dp1, hR, hv2⟩ := h
  rw [if_pos rfl, if_pos rfl] at hR
  obtain ⟨hRB, h1, h2⟩ := hst.m hRB h1 h2 hz_ hk_
  have hEq : rX = r2_ := by rw [hrX, hv2 rfl, lk_bound hK]
  refine g_lcmp hx hb hEq dL_law_2400 ?_
  refine lv_if_eq (tgt := 2472) hx hb dL_law_2401 (by decide) (fun c1_ => ?_) (fun c1_ => ?_)
  · exact W.widen (k := cells + 16) (n := slots + 3000) (by omega) (by omega) (kk H lo ls ⟨α, ξ, M, N, μ, K, dp1, _, f1, f2, hRB, rfl, hR, h1, h2, hK, by omega⟩ hS (lv_sub hl [0, 1, 2, 3, 4, 5] rfl))
  · exact absurd (by decide) c1_
set_option maxHeartbeats 4000000 in
set_option maxRecDepth 100000 in
theorem q_standingShare {p_ : Program} {l : Launch} {e_ : Env} {s : State} {m : MethodId} {args : Array Value} {below : List Frame} {meth : Method} {c : Code} {Q : State → Prop} {E : gV} (hE : gOK l E) {β : Nat → Nat} {a0 o1 o2 b L : Nat} {xs : Nat → Int32} (hst : lS E β o1 o2) (hL : L ≤ 3584) (hX : va_X b L xs s E.2.1.heap) (hbl : b < E.2.1.heap.size) (hC : gC l E p_ s m meth c RL cL_law 8) {n cells slots : Nat} {H : Heap} {lo : List Loc} {ls : Array Slot} (hn : n < 512) (hi : 7 * n + 7 ≤ L) (hc1 : cells + 16 ≤ 601024) (hc2 : slots + 3000 ≤ 7293034) (hI : LI E β a0 o1 o2 n H) (hS : va_S (gA0 E) E.2.1.heap H lo) (hl : lv_has ls 8 [(5, .int (nI (7 * n))), (0, .ref b), (1, .ref a0), (2, .ref (β 19)), (3, .ref o1), (4, .ref o2)])
    (kk : ∀ (H1 : Heap) (lo1 : List Loc) (ls1 : Array Slot), LI E β a0 o1 o2 (n + 1) H1 → va_S (gA0 E) E.2.1.heap H1 lo1 → lv_has ls1 8 [(5, .int (nI (7 * n))), (0, .ref b), (1, .ref a0), (2, .ref (β 19)), (3, .ref o1), (4, .ref o2)] → W p_ l e_ room_1 s m args below meth c H1 lo1 (cells + 16) (slots + 3000) Q (F0 m 2472 ls1 [])) : W p_ l e_ room_1 s m args below meth c H lo cells slots Q (F0 m 2406 ls []) := by
  have hx := hC.2.2.1
  have hb := hC.2.2.2.1
  obtain ⟨α, ξ, M, N, μ, K, dp, th, f1, f2, hRB, rfl, hR, h1, h2, hK, hN2⟩ := hI
  refine lv_aload_n hx hb dL_law_2406 rfl (lv_at hl 2 rfl) ?_
  refine lv_aload hx hb dL_law_2407 (lv_at hl 5 rfl) ?_
  refine g_cWi (k2 := cells + 1) (n2 := slots + 6) (g_runSH (n := 2) (rest := []) hC (w_standingShare hE (α := α) (ξ := ξ) (M := M) (N := N) (B := lB β o1 o2)  (o := o2) (f0 := f2) (Or.inr (Or.inr rfl)) hst.2.2.2) k_0 k_984 (by decide +kernel) k_982 k_983 ⟨hRB, h2⟩ rfl hl.1 dL_law_2409 ⟨Nat.le_of_ble_eq_true rfl, Nat.le_of_ble_eq_true rfl⟩ ⟨by show cells + 0 + 1 ≤ 601024; omega, by show slots + 0 + 6 ≤ 7293034; omega⟩ rfl (Nat.le_of_ble_eq_true rfl)) hS (fun q h => h.elim (fun h => h.1) (fun h => by rw [h]; exact hst.2.2.2)) (by show cells + 0 + 1 = cells + 1; omega) (by show slots + 0 + 6 = slots + 6; omega) (fun r1_ H lo h hz_ hk_ hS => ?_)
  obtain ⟨hr1, α1, g2, hRB1, ha1, h2n, hv1⟩ := h
  obtain ⟨hR, h1⟩ := hst.x2 hR h1 hk_
  have h2 := h2n
  obtain ⟨kc, hkc⟩ : ∃ kc, kc = kShare (K 2) := ⟨_, rfl⟩
  have hkx := (lk_share hK).1
  rw [← hkc] at hkx
  rw [hkx] at hr1 hv1
  subst hr1
  have hk5 : kc ≤ 4 := by rw [hkc]; unfold kShare; exact (cif_le (by decide) (by decide))
  refine lv_istore (lv' := [(6, .int (nI kc)), (5, .int (nI (7 * n))), (0, .ref b), (1, .ref (α 3 0)), (2, .ref (β 19)), (3, .ref o1), (4, .ref o2)]) hx hb dL_law_2412 hl (by decide) rfl (fun ls hl => ?_)
  refine lv_aload_n hx hb dL_law_2414 rfl (lv_at hl 4 rfl) ?_
  refine g_cWf (k2 := cells + 1) (n2 := slots + 6) (g_runV (rest := []) hC (c_X5_standingShare hE (β := β) (μ := μ) (K := K) (dp := dp) (th := th) hK.mi ) Y_X5_standingShare k_1298 I_X5_standingShare V_X5_standingShare hR.obj rfl hR rfl hl.1 dL_law_2415 ⟨Nat.le_of_ble_eq_true rfl, Nat.le_of_ble_eq_true rfl⟩ ⟨by show cells + 1 + 0 ≤ 601024; omega, by show slots + 6 + 0 ≤ 7293034; omega⟩ rfl (Nat.le_of_ble_eq_true rfl)) hS (fun q ⟨k, hk, e⟩ => by rw [e]; exact (hst.2.1 k hk).2.2) (by show cells + 1 + 0 = cells + 1; omega) (by show slots + 6 + 0 = slots + 6; omega) (fun r2_ H lo h hz_ hk_ hS => ?_)
  obtain ⟨dp1, hR, hv2⟩ := h
  rw [← hkc] at hR hv2
  obtain ⟨hRB1, h1, h2⟩ := hst.m hRB1 h1 h2 hz_ hk_
  refine lv_fstore (lv' := [(7, .float r2_), (6, .int (nI kc)), (5, .int (nI (7 * n))), (0, .ref b), (1, .ref (α 3 0)), (2, .ref (β 19)), (3, .ref o1), (4, .ref o2)]) hx hb dL_law_2418 hl (by decide) rfl (fun ls hl => ?_)
  refine lv_aload_n hx hb dL_law_2420 rfl (lv_at hl 5 rfl) ?_
  refine g_cRi (k2 := cells + 1) (n2 := slots + 6) (g_runV (rest := []) hC (c_X5_thrown hE (β := β) (dp := dp1) (th := nI kc)) Y_X5_thrown k_1076 I_X5_thrown V_X5_thrown hR.obj rfl hR rfl hl.1 dL_law_2421 ⟨Nat.le_of_ble_eq_true rfl, Nat.le_of_ble_eq_true rfl⟩ ⟨by show cells + 1 + 0 ≤ 601024; omega, by show slots + 6 + 0 ≤ 7293034; omega⟩ rfl (Nat.le_of_ble_eq_true rfl)) (by show cells + 1 + 0 = cells + 1; omega) (by show slots + 6 + 0 = slots + 6; omega) g_no (fun r3_ h => ?_)
  obtain rfl := h
  refine lv_iload hx hb dL_law_2424 (lv_at hl 1 rfl) ?_
  refine lv_icmp_eq (tgt := 2431) hx hb dL_law_2426 (by decide) (fun c1_ => ?_) (fun c1_ => ?_)
  · refine lv_iload hx hb dL_law_2431 (lv_at hl 1 rfl) ?_
    refine lv_if_ne (tgt := 2469) hx hb dL_law_2433 (by decide) (fun c2_ => ?_) (fun c2_ => ?_)
    · have q3_ : ¬ kc = 0 := fun z => c2_ (congrArg nI z)
      refine lv_goto (tgt := 2472) hx hb dL_law_2469 (by decide) ?_
      exact W.widen (k := cells + 16) (n := slots + 3000) (by omega) (by omega) (kk H lo ls (LI.fin (kc := kc) (ξ' := ξ) (m' := M 0) (N' := N) (M := M) (M' := M) (by rw [ite_self, ite_self]; exact hRB1) ha1 (by rw [ite_self]) hR h1 h2 hK (fun _ => hK) (by omega) (by omega)) hS (lv_sub hl [2, 3, 4, 5, 6, 7] rfl))
    · have q3_ : kc = 0 := (nI_eq (by omega) (by omega)).mp c2_
      have hq0 : kc = 0 := (nI_eq (by omega) (by omega)).mp c2_
      refine lv_aload hx hb dL_law_2436 (lv_at hl 7 rfl) ?_
      refine lv_iconst (v := 0) hx hb dL_law_2438 (by decide) ?_
      obtain ⟨rx, hvx, hg2⟩ := hv1 hq0
      have hvb := hv2 hq0
      obtain ⟨-, hK1_, hK2_, -⟩ := hK.mi
      have hn0 : ¬ K 2 = 0 := (cif_0 (by decide) (hkc.symm.trans hq0)).1
      have hle := fCnt_le (fun t => μ 17 t = 115 ∨ μ 17 t = 114) (K 2)
      have hf2_ : vf_n64 (FP.f2d r2_) := by rw [hvb]; exact fp_ok2 (by omega) (by omega) hn0
      have hcmp : Op.cmpValue (FP.dcmp (g2 0) (FP.f2d r2_)) .l = 0 := by rw [hg2, hvx, (lk_share hK).2, hvb]; exact fp_cmp (by omega) (by omega) hn0
      refine g_dald (n := 1) (j := 0) hC h2 (by decide) (by decide) dL_law_2439 ?_
      refine lv_fload hx hb dL_law_2440 (lv_at hl 0 rfl) ?_
      refine lv_f2d hx hb dL_law_2442 hf2_ ?_
      refine lv_dcmp hx hb dL_law_2443 ?_
      rw [hcmp]
      refine lv_if_eq (tgt := 2469) hx hb dL_law_2444 (by decide) (fun c4_ => ?_) (fun c4_ => ?_)
      · refine lv_goto (tgt := 2472) hx hb dL_law_2469 (by decide) ?_
        exact W.widen (k := cells + 16) (n := slots + 3000) (by omega) (by omega) (kk H lo ls (LI.fin (kc := kc) (ξ' := ξ) (m' := M 0) (N' := N) (M := M) (M' := M) (by rw [ite_self, ite_self]; exact hRB1) ha1 (by rw [ite_self]) hR h1 h2 hK (fun _ => hK) (by omega) (by omega)) hS (lv_sub hl [2, 3, 4, 5, 6, 7] rfl))
      · exact absurd (by decide) c4_
  · exact absurd rfl c1_
