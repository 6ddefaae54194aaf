set_option maxHeartbeats 4000000 in
set_option maxRecDepth 100000 in
theorem q_sign {p_ : Program} {l : Launch} {e_ : Env} {s : State} {m : MethodId} {args : Array Value} {below : List Frame} {meth : Method} {c : Code} {Q : State → Prop} {E : gV} (hE : gOK l E) {β : Nat → Nat} {a0 o1 o2 b L : Nat} {xs : Nat → Int32} (hst : lS E β o1 o2) (hL : L ≤ 3584) (hX : va_X b L xs s E.2.1.heap) (hbl : b < E.2.1.heap.size) (hC : gC l E p_ s m meth c RL cL_law 8) {n cells slots : Nat} {H : Heap} {lo : List Loc} {ls : Array Slot} (hn : n < 512) (hi : 7 * n + 7 ≤ L) (hc1 : cells + 16 ≤ 601024) (hc2 : slots + 3000 ≤ 7293034) (hI : LI E β a0 o1 o2 n H) (hS : va_S (gA0 E) E.2.1.heap H lo) (hl : lv_has ls 8 [(5, .int (nI (7 * n))), (0, .ref b), (1, .ref a0), (2, .ref (β 19)), (3, .ref o1), (4, .ref o2)])
    (kk : ∀ (H1 : Heap) (lo1 : List Loc) (ls1 : Array Slot), LI E β a0 o1 o2 (n + 1) H1 → va_S (gA0 E) E.2.1.heap H1 lo1 → lv_has ls1 8 [(5, .int (nI (7 * n))), (0, .ref b), (1, .ref a0), (2, .ref (β 19)), (3, .ref o1), (4, .ref o2)] → W p_ l e_ room_1 s m args below meth c H1 lo1 (cells + 16) (slots + 3000) Q (F0 m 2472 ls1 [])) : W p_ l e_ room_1 s m args below meth c H lo cells slots Q (F0 m 1485 ls []) := by
  have hx := hC.2.2.1
  have hb := hC.2.2.2.1
  obtain ⟨α, ξ, M, N, μ, K, dp, th, f1, f2, hRB, rfl, hR, h1, h2, hK, hN2⟩ := hI
  refine lv_aload_n hx hb dL_law_1485 rfl (lv_at hl 2 rfl) ?_
  refine lv_aload_n hx hb dL_law_1486 rfl (lv_at hl 1 rfl) ?_
  refine lv_iload hx hb dL_law_1487 (lv_at hl 0 rfl) ?_
  refine lv_iconst (v := 1) hx hb dL_law_1489 (by decide) ?_
  refine g_iadd1 hx hb dL_law_1490 ?_
  refine g_sld (q := ((7 * n) + 1)) hC hX hbl hS (by omega) (by omega) dL_law_1491 ?_
  refine lv_aload_n hx hb dL_law_1492 rfl (lv_at hl 1 rfl) ?_
  refine lv_iload hx hb dL_law_1493 (lv_at hl 0 rfl) ?_
  refine lv_iconst (v := 2) hx hb dL_law_1495 (by decide) ?_
  refine g_iaddk 2 hx hb dL_law_1496 ?_
  refine g_sld (q := ((7 * n) + 2)) hC hX hbl hS (by omega) (by omega) dL_law_1497 ?_
  refine lv_aload_n hx hb dL_law_1498 rfl (lv_at hl 1 rfl) ?_
  refine lv_iload hx hb dL_law_1499 (lv_at hl 0 rfl) ?_
  refine lv_iconst (v := 3) hx hb dL_law_1501 (by decide) ?_
  refine g_iaddk 3 hx hb dL_law_1502 ?_
  refine g_sld (q := ((7 * n) + 3)) hC hX hbl hS (by omega) (by omega) dL_law_1503 ?_
  refine lv_aload_n hx hb dL_law_1504 rfl (lv_at hl 1 rfl) ?_
  refine lv_iload hx hb dL_law_1505 (lv_at hl 0 rfl) ?_
  refine lv_iconst (v := 4) hx hb dL_law_1507 (by decide) ?_
  refine g_iaddk 4 hx hb dL_law_1508 ?_
  refine g_sld (q := ((7 * n) + 4)) hC hX hbl hS (by omega) (by omega) dL_law_1509 ?_
  refine lv_aload_n hx hb dL_law_1510 rfl (lv_at hl 4 rfl) ?_
  refine g_cWi (k2 := cells + 8) (n2 := slots + 1060) (g_runSH (n := 6) (rest := []) hC (w_sign hE (α := α) (ξ := ξ) (M := M) (N := N) (B := lB β o1 o2) (xs ((7 * n) + 1)) (xs ((7 * n) + 2)) (xs ((7 * n) + 3)) (xs ((7 * n) + 4)) (o := o1) (f0 := f1) (Or.inr (Or.inl rfl)) hst.2.2.1) k_0 k_671 (by decide +kernel) k_669 k_670 ⟨hRB, h1⟩ rfl hl.1 dL_law_1511 ⟨Nat.le_of_ble_eq_true rfl, Nat.le_of_ble_eq_true rfl⟩ ⟨by show cells + 0 + 8 ≤ 601024; omega, by show slots + 0 + 1060 ≤ 7293034; omega⟩ rfl (Nat.le_of_ble_eq_true rfl)) hS (fun q h => h.elim (fun h => h.1) (fun h => by rw [h]; exact hst.2.2.1)) (by show cells + 0 + 8 = cells + 8; omega) (by show slots + 0 + 1060 = slots + 1060; omega) (fun r1_ H lo h hz_ hk_ hS => ?_)
  obtain ⟨hr1, α1, M1, g1, hRB1, hm1, ha1, h1n, hv1⟩ := h
  obtain ⟨hR, h2⟩ := hst.x hR h2 hk_
  have h1 := h1n
  obtain ⟨kc, hkc⟩ : ∃ kc, kc = kSign (K 0) (K 2) (xs ((7 * n) + 1)) (xs ((7 * n) + 2)) (xs ((7 * n) + 3)) (xs ((7 * n) + 4)) := ⟨_, rfl⟩
  have hkx := (lk_sign hK (xs ((7 * n) + 1)) (xs ((7 * n) + 2)) (xs ((7 * n) + 3)) (xs ((7 * n) + 4))).1
  rw [← hkc] at hkx
  rw [hkx] at hr1 hv1 hRB1 hm1
  subst hr1
  have hk5 : kc ≤ 4 := by rw [hkc]; unfold kSign; exact (cif_le (by decide) (cif_le (by decide) (cif_le (by decide) (by decide))))
  refine lv_istore (lv' := [(6, .int (nI kc)), (5, .int (nI (7 * n))), (0, .ref b), (1, .ref (α 3 0)), (2, .ref (β 19)), (3, .ref o1), (4, .ref o2)]) hx hb dL_law_1514 hl (by decide) rfl (fun ls hl => ?_)
  refine lv_aload_n hx hb dL_law_1516 rfl (lv_at hl 4 rfl) ?_
  refine lv_aload_n hx hb dL_law_1517 rfl (lv_at hl 2 rfl) ?_
  refine lv_iload hx hb dL_law_1518 (lv_at hl 1 rfl) ?_
  refine lv_iconst (v := 1) hx hb dL_law_1520 (by decide) ?_
  refine g_iadd1 hx hb dL_law_1521 ?_
  refine g_sld (q := ((7 * n) + 1)) hC hX hbl hS (by omega) (by omega) dL_law_1522 ?_
  refine lv_aload_n hx hb dL_law_1523 rfl (lv_at hl 2 rfl) ?_
  refine lv_iload hx hb dL_law_1524 (lv_at hl 1 rfl) ?_
  refine lv_iconst (v := 2) hx hb dL_law_1526 (by decide) ?_
  refine g_iaddk 2 hx hb dL_law_1527 ?_
  refine g_sld (q := ((7 * n) + 2)) hC hX hbl hS (by omega) (by omega) dL_law_1528 ?_
  refine lv_aload_n hx hb dL_law_1529 rfl (lv_at hl 2 rfl) ?_
  refine lv_iload hx hb dL_law_1530 (lv_at hl 1 rfl) ?_
  refine lv_iconst (v := 3) hx hb dL_law_1532 (by decide) ?_
  refine g_iaddk 3 hx hb dL_law_1533 ?_
  refine g_sld (q := ((7 * n) + 3)) hC hX hbl hS (by omega) (by omega) dL_law_1534 ?_
  refine lv_aload_n hx hb dL_law_1535 rfl (lv_at hl 2 rfl) ?_
  refine lv_iload hx hb dL_law_1536 (lv_at hl 1 rfl) ?_
  refine lv_iconst (v := 4) hx hb dL_law_1538 (by decide) ?_
  refine g_iaddk 4 hx hb dL_law_1539 ?_
  refine g_sld (q := ((7 * n) + 4)) hC hX hbl hS (by omega) (by omega) dL_law_1540 ?_
  refine g_cWi (k2 := cells + 8) (n2 := slots + 1060) (g_runV (rest := []) hC (c_X5_sign hE (β := β) (μ := μ) (K := K) (dp := dp) (th := th) hK.mi (xs ((7 * n) + 1)) (xs ((7 * n) + 2)) (xs ((7 * n) + 3)) (xs ((7 * n) + 4)) hK.hz) Y_X5_sign k_1205 I_X5_sign V_X5_sign hR.obj rfl hR rfl hl.1 dL_law_1541 ⟨Nat.le_of_ble_eq_true rfl, Nat.le_of_ble_eq_true rfl⟩ ⟨by show cells + 8 + 0 ≤ 601024; omega, by show slots + 1060 + 0 ≤ 7293034; omega⟩ rfl (Nat.le_of_ble_eq_true rfl)) hS (fun q ⟨k, hk, e⟩ => by rw [e]; exact (hst.2.1 k hk).2.2) (by show cells + 8 + 0 = cells + 8; omega) (by show slots + 1060 + 0 = slots + 1060; omega) (fun r2_ H lo h hz_ hk_ hS => ?_)
  obtain ⟨dp1, hR, hv2⟩ := h
  rw [← hkc] at hR hv2
  obtain ⟨hRB1, h1, h2⟩ := hst.m hRB1 h1 h2 hz_ hk_
  refine lv_istore (lv' := [(7, .int r2_), (6, .int (nI kc)), (5, .int (nI (7 * n))), (0, .ref b), (1, .ref (α 3 0)), (2, .ref (β 19)), (3, .ref o1), (4, .ref o2)]) hx hb dL_law_1544 hl (by decide) rfl (fun ls hl => ?_)
  refine lv_aload_n hx hb dL_law_1546 rfl (lv_at hl 5 rfl) ?_
  refine g_cRi (k2 := cells + 8) (n2 := slots + 1060) (g_runV (rest := []) hC (c_X5_thrown hE (β := β) (dp := dp1) (th := nI kc)) Y_X5_thrown k_1076 I_X5_thrown V_X5_thrown hR.obj rfl hR rfl hl.1 dL_law_1547 ⟨Nat.le_of_ble_eq_true rfl, Nat.le_of_ble_eq_true rfl⟩ ⟨by show cells + 8 + 0 ≤ 601024; omega, by show slots + 1060 + 0 ≤ 7293034; omega⟩ rfl (Nat.le_of_ble_eq_true rfl)) (by show cells + 8 + 0 = cells + 8; omega) (by show slots + 1060 + 0 = slots + 1060; omega) g_no (fun r3_ h => ?_)
  obtain rfl := h
  refine lv_iload hx hb dL_law_1550 (lv_at hl 1 rfl) ?_
  refine lv_icmp_eq (tgt := 1557) hx hb dL_law_1552 (by decide) (fun c1_ => ?_) (fun c1_ => ?_)
  · refine lv_iload hx hb dL_law_1557 (lv_at hl 1 rfl) ?_
    refine lv_if_ne (tgt := 1574) hx hb dL_law_1559 (by decide) (fun c2_ => ?_) (fun c2_ => ?_)
    · have q3_ : ¬ kc = 0 := fun z => c2_ (congrArg nI z)
      refine lv_goto (tgt := 2472) hx hb dL_law_1574 (by decide) ?_
      exact W.widen (k := cells + 16) (n := slots + 3000) (by omega) (by omega) (kk H lo ls (LI.fin (M := M) hRB1 ha1 hm1 hR h1 h2 hK (fun hc => ((lk_sign hK (xs ((7 * n) + 1)) (xs ((7 * n) + 2)) (xs ((7 * n) + 3)) (xs ((7 * n) + 4))).2 (hkc.symm.trans hc)).2) (by omega) (by first | (show N 2 + 1 ≤ n + 1; omega) | (show N 2 ≤ n + 1; omega))) hS (lv_sub hl [2, 3, 4, 5, 6, 7] rfl))
    · have q3_ : kc = 0 := (nI_eq (by omega) (by omega)).mp c2_
      have hq0 : kc = 0 := (nI_eq (by omega) (by omega)).mp c2_
      refine lv_aload_n hx hb dL_law_1562 rfl (lv_at hl 6 rfl) ?_
      refine lv_iconst (v := 0) hx hb dL_law_1563 (by decide) ?_
      obtain ⟨rx, hvx, hg1⟩ := hv1 hq0
      have hvb := hv2 hq0
      have hEq : g1 0 = (r2_).toInt64 := by rw [hg1, hvx, hvb, ((lk_sign hK (xs ((7 * n) + 1)) (xs ((7 * n) + 2)) (xs ((7 * n) + 3)) (xs ((7 * n) + 4))).2 (hkc.symm.trans hq0)).1]
      refine g_lald (n := 1) (j := 0) hC h1 (by decide) (by decide) dL_law_1564 ?_
      refine lv_iload hx hb dL_law_1565 (lv_at hl 0 rfl) ?_
      refine lv_i2l (v := (r2_).toInt64) hx hb dL_law_1567 rfl ?_
      refine g_lcmp hx hb hEq dL_law_1568 ?_
      refine lv_if_eq (tgt := 1574) hx hb dL_law_1569 (by decide) (fun c4_ => ?_) (fun c4_ => ?_)
      · refine lv_goto (tgt := 2472) hx hb dL_law_1574 (by decide) ?_
        exact W.widen (k := cells + 16) (n := slots + 3000) (by omega) (by omega) (kk H lo ls (LI.fin (M := M) hRB1 ha1 hm1 hR h1 h2 hK (fun hc => ((lk_sign hK (xs ((7 * n) + 1)) (xs ((7 * n) + 2)) (xs ((7 * n) + 3)) (xs ((7 * n) + 4))).2 (hkc.symm.trans hc)).2) (by omega) (by first | (show N 2 + 1 ≤ n + 1; omega) | (show N 2 ≤ n + 1; omega))) hS (lv_sub hl [2, 3, 4, 5, 6, 7] rfl))
      · exact absurd (by decide) c4_
  · exact absurd rfl c1_
set_option maxHeartbeats 4000000 in
set_option maxRecDepth 100000 in
theorem q_signTogether {p_ : Program} {l : Launch} {e_ : Env} {s : State} {m : MethodId} {args : Array Value} {below : List Frame} {meth : Method} {c : Code} {Q : State → Prop} {E : gV} (hE : gOK l E) {β : Nat → Nat} {a0 o1 o2 b L : Nat} {xs : Nat → Int32} (hst : lS E β o1 o2) (hL : L ≤ 3584) (hX : va_X b L xs s E.2.1.heap) (hbl : b < E.2.1.heap.size) (hC : gC l E p_ s m meth c RL cL_law 8) {n cells slots : Nat} {H : Heap} {lo : List Loc} {ls : Array Slot} (hn : n < 512) (hi : 7 * n + 7 ≤ L) (hc1 : cells + 16 ≤ 601024) (hc2 : slots + 3000 ≤ 7293034) (hI : LI E β a0 o1 o2 n H) (hS : va_S (gA0 E) E.2.1.heap H lo) (hl : lv_has ls 8 [(5, .int (nI (7 * n))), (0, .ref b), (1, .ref a0), (2, .ref (β 19)), (3, .ref o1), (4, .ref o2)])
    (kk : ∀ (H1 : Heap) (lo1 : List Loc) (ls1 : Array Slot), LI E β a0 o1 o2 (n + 1) H1 → va_S (gA0 E) E.2.1.heap H1 lo1 → lv_has ls1 8 [(5, .int (nI (7 * n))), (0, .ref b), (1, .ref a0), (2, .ref (β 19)), (3, .ref o1), (4, .ref o2)] → W p_ l e_ room_1 s m args below meth c H1 lo1 (cells + 16) (slots + 3000) Q (F0 m 2472 ls1 [])) : W p_ l e_ room_1 s m args below meth c H lo cells slots Q (F0 m 1577 ls []) := by
  have hx := hC.2.2.1
  have hb := hC.2.2.2.1
  obtain ⟨α, ξ, M, N, μ, K, dp, th, f1, f2, hRB, rfl, hR, h1, h2, hK, hN2⟩ := hI
  refine lv_aload_n hx hb dL_law_1577 rfl (lv_at hl 2 rfl) ?_
  refine lv_aload_n hx hb dL_law_1578 rfl (lv_at hl 1 rfl) ?_
  refine lv_iload hx hb dL_law_1579 (lv_at hl 0 rfl) ?_
  refine lv_iconst (v := 1) hx hb dL_law_1581 (by decide) ?_
  refine g_iadd1 hx hb dL_law_1582 ?_
  refine g_sld (q := ((7 * n) + 1)) hC hX hbl hS (by omega) (by omega) dL_law_1583 ?_
  refine lv_aload_n hx hb dL_law_1584 rfl (lv_at hl 1 rfl) ?_
  refine lv_iload hx hb dL_law_1585 (lv_at hl 0 rfl) ?_
  refine lv_iconst (v := 2) hx hb dL_law_1587 (by decide) ?_
  refine g_iaddk 2 hx hb dL_law_1588 ?_
  refine g_sld (q := ((7 * n) + 2)) hC hX hbl hS (by omega) (by omega) dL_law_1589 ?_
  refine lv_aload_n hx hb dL_law_1590 rfl (lv_at hl 1 rfl) ?_
  refine lv_iload hx hb dL_law_1591 (lv_at hl 0 rfl) ?_
  refine lv_iconst (v := 3) hx hb dL_law_1593 (by decide) ?_
  refine g_iaddk 3 hx hb dL_law_1594 ?_
  refine g_sld (q := ((7 * n) + 3)) hC hX hbl hS (by omega) (by omega) dL_law_1595 ?_
  refine lv_aload_n hx hb dL_law_1596 rfl (lv_at hl 1 rfl) ?_
  refine lv_iload hx hb dL_law_1597 (lv_at hl 0 rfl) ?_
  refine lv_iconst (v := 4) hx hb dL_law_1599 (by decide) ?_
  refine g_iaddk 4 hx hb dL_law_1600 ?_
  refine g_sld (q := ((7 * n) + 4)) hC hX hbl hS (by omega) (by omega) dL_law_1601 ?_
  refine lv_aload_n hx hb dL_law_1602 rfl (lv_at hl 1 rfl) ?_
  refine lv_iload hx hb dL_law_1603 (lv_at hl 0 rfl) ?_
  refine lv_iconst (v := 5) hx hb dL_law_1605 (by decide) ?_
  refine g_iaddk 5 hx hb dL_law_1606 ?_
  refine g_sld (q := ((7 * n) + 5)) hC hX hbl hS (by omega) (by omega) dL_law_1607 ?_
  refine lv_aload_n hx hb dL_law_1608 rfl (lv_at hl 4 rfl) ?_
  refine g_cWi (k2 := cells + 8) (n2 := slots + 1060) (g_runSH (n := 7) (rest := []) hC (w_signTogether hE (α := α) (ξ := ξ) (M := M) (N := N) (B := lB β o1 o2) (xs ((7 * n) + 1)) (xs ((7 * n) + 2)) (xs ((7 * n) + 3)) (xs ((7 * n) + 4)) (xs ((7 * n) + 5)) (o := o1) (f0 := f1) (Or.inr (Or.inl rfl)) hst.2.2.1) k_0 k_864 (by decide +kernel) k_862 k_863 ⟨hRB, h1⟩ rfl hl.1 dL_law_1609 ⟨Nat.le_of_ble_eq_true rfl, Nat.le_of_ble_eq_true rfl⟩ ⟨by show cells + 0 + 8 ≤ 601024; omega, by show slots + 0 + 1060 ≤ 7293034; omega⟩ rfl (Nat.le_of_ble_eq_true rfl)) hS (fun q h => h.elim (fun h => h.1) (fun h => by rw [h]; exact hst.2.2.1)) (by show cells + 0 + 8 = cells + 8; omega) (by show slots + 0 + 1060 = slots + 1060; omega) (fun r1_ H lo h hz_ hk_ hS => ?_)
  obtain ⟨hr1, α1, M1, g1, hRB1, hm1, ha1, h1n, hv1⟩ := h
  obtain ⟨hR, h2⟩ := hst.x hR h2 hk_
  have h1 := h1n
  obtain ⟨kc, hkc⟩ : ∃ kc, kc = kSignT (K 0) (K 2) (xs ((7 * n) + 1)) (xs ((7 * n) + 2)) (xs ((7 * n) + 3)) (xs ((7 * n) + 4)) (xs ((7 * n) + 5)) := ⟨_, rfl⟩
  have hkx := (lk_signTogether hK (xs ((7 * n) + 1)) (xs ((7 * n) + 2)) (xs ((7 * n) + 3)) (xs ((7 * n) + 4)) (xs ((7 * n) + 5))).1
  rw [← hkc] at hkx
  rw [hkx] at hr1 hv1 hRB1 hm1
  subst hr1
  have hk5 : kc ≤ 4 := by rw [hkc]; unfold kSignT; exact (cif_le (by decide) (cif_le (by decide) (cif_le (by decide) (cif_le (by decide) (by decide)))))
  refine lv_istore (lv' := [(6, .int (nI kc)), (5, .int (nI (7 * n))), (0, .ref b), (1, .ref (α 3 0)), (2, .ref (β 19)), (3, .ref o1), (4, .ref o2)]) hx hb dL_law_1612 hl (by decide) rfl (fun ls hl => ?_)
  refine lv_aload_n hx hb dL_law_1614 rfl (lv_at hl 4 rfl) ?_
  refine lv_aload_n hx hb dL_law_1615 rfl (lv_at hl 2 rfl) ?_
  refine lv_iload hx hb dL_law_1616 (lv_at hl 1 rfl) ?_
  refine lv_iconst (v := 1) hx hb dL_law_1618 (by decide) ?_
  refine g_iadd1 hx hb dL_law_1619 ?_
  refine g_sld (q := ((7 * n) + 1)) hC hX hbl hS (by omega) (by omega) dL_law_1620 ?_
  refine lv_aload_n hx hb dL_law_1621 rfl (lv_at hl 2 rfl) ?_
  refine lv_iload hx hb dL_law_1622 (lv_at hl 1 rfl) ?_
  refine lv_iconst (v := 2) hx hb dL_law_1624 (by decide) ?_
  refine g_iaddk 2 hx hb dL_law_1625 ?_
  refine g_sld (q := ((7 * n) + 2)) hC hX hbl hS (by omega) (by omega) dL_law_1626 ?_
  refine lv_aload_n hx hb dL_law_1627 rfl (lv_at hl 2 rfl) ?_
  refine lv_iload hx hb dL_law_1628 (lv_at hl 1 rfl) ?_
  refine lv_iconst (v := 3) hx hb dL_law_1630 (by decide) ?_
  refine g_iaddk 3 hx hb dL_law_1631 ?_
  refine g_sld (q := ((7 * n) + 3)) hC hX hbl hS (by omega) (by omega) dL_law_1632 ?_
  refine lv_aload_n hx hb dL_law_1633 rfl (lv_at hl 2 rfl) ?_
  refine lv_iload hx hb dL_law_1634 (lv_at hl 1 rfl) ?_
  refine lv_iconst (v := 4) hx hb dL_law_1636 (by decide) ?_
  refine g_iaddk 4 hx hb dL_law_1637 ?_
  refine g_sld (q := ((7 * n) + 4)) hC hX hbl hS (by omega) (by omega) dL_law_1638 ?_
  refine lv_aload_n hx hb dL_law_1639 rfl (lv_at hl 2 rfl) ?_
  refine lv_iload hx hb dL_law_1640 (lv_at hl 1 rfl) ?_
  refine lv_iconst (v := 5) hx hb dL_law_1642 (by decide) ?_
  refine g_iaddk 5 hx hb dL_law_1643 ?_
  refine g_sld (q := ((7 * n) + 5)) hC hX hbl hS (by omega) (by omega) dL_law_1644 ?_
  refine g_cWi (k2 := cells + 8) (n2 := slots + 1060) (g_runV (rest := []) hC (c_X5_signTogether hE (β := β) (μ := μ) (K := K) (dp := dp) (th := th) hK.mi (xs ((7 * n) + 1)) (xs ((7 * n) + 2)) (xs ((7 * n) + 3)) (xs ((7 * n) + 4)) (xs ((7 * n) + 5)) hK.hz) Y_X5_signTogether k_1228 I_X5_signTogether V_X5_signTogether hR.obj rfl hR rfl hl.1 dL_law_1645 ⟨Nat.le_of_ble_eq_true rfl, Nat.le_of_ble_eq_true rfl⟩ ⟨by show cells + 8 + 0 ≤ 601024; omega, by show slots + 1060 + 0 ≤ 7293034; omega⟩ rfl (Nat.le_of_ble_eq_true rfl)) hS (fun q ⟨k, hk, e⟩ => by rw [e]; exact (hst.2.1 k hk).2.2) (by show cells + 8 + 0 = cells + 8; omega) (by show slots + 1060 + 0 = slots + 1060; omega) (fun r2_ H lo h hz_ hk_ hS => ?_)
  obtain ⟨dp1, hR, hv2⟩ := h
  rw [← hkc] at hR hv2
  obtain ⟨hRB1, h1, h2⟩ := hst.m hRB1 h1 h2 hz_ hk_
  refine lv_istore (lv' := [(7, .int r2_), (6, .int (nI kc)), (5, .int (nI (7 * n))), (0, .ref b), (1, .ref (α 3 0)), (2, .ref (β 19)), (3, .ref o1), (4, .ref o2)]) hx hb dL_law_1648 hl (by decide) rfl (fun ls hl => ?_)
  refine lv_aload_n hx hb dL_law_1650 rfl (lv_at hl 5 rfl) ?_
  refine g_cRi (k2 := cells + 8) (n2 := slots + 1060) (g_runV (rest := []) hC (c_X5_thrown hE (β := β) (dp := dp1) (th := nI kc)) Y_X5_thrown k_1076 I_X5_thrown V_X5_thrown hR.obj rfl hR rfl hl.1 dL_law_1651 ⟨Nat.le_of_ble_eq_true rfl, Nat.le_of_ble_eq_true rfl⟩ ⟨by show cells + 8 + 0 ≤ 601024; omega, by show slots + 1060 + 0 ≤ 7293034; omega⟩ rfl (Nat.le_of_ble_eq_true rfl)) (by show cells + 8 + 0 = cells + 8; omega) (by show slots + 1060 + 0 = slots + 1060; omega) g_no (fun r3_ h => ?_)
  obtain rfl := h
  refine lv_iload hx hb dL_law_1654 (lv_at hl 1 rfl) ?_
  refine lv_icmp_eq (tgt := 1661) hx hb dL_law_1656 (by decide) (fun c1_ => ?_) (fun c1_ => ?_)
  · refine lv_iload hx hb dL_law_1661 (lv_at hl 1 rfl) ?_
    refine lv_if_ne (tgt := 1678) hx hb dL_law_1663 (by decide) (fun c2_ => ?_) (fun c2_ => ?_)
    · have q3_ : ¬ kc = 0 := fun z => c2_ (congrArg nI z)
      refine lv_goto (tgt := 2472) hx hb dL_law_1678 (by decide) ?_
      exact W.widen (k := cells + 16) (n := slots + 3000) (by omega) (by omega) (kk H lo ls (LI.fin (M := M) hRB1 ha1 hm1 hR h1 h2 hK (fun hc => ((lk_signTogether hK (xs ((7 * n) + 1)) (xs ((7 * n) + 2)) (xs ((7 * n) + 3)) (xs ((7 * n) + 4)) (xs ((7 * n) + 5))).2 (hkc.symm.trans hc)).2) (by omega) (by first | (show N 2 + 1 ≤ n + 1; omega) | (show N 2 ≤ n + 1; omega))) hS (lv_sub hl [2, 3, 4, 5, 6, 7] rfl))
    · have q3_ : kc = 0 := (nI_eq (by omega) (by omega)).mp c2_
      have hq0 : kc = 0 := (nI_eq (by omega) (by omega)).mp c2_
      refine lv_aload_n hx hb dL_law_1666 rfl (lv_at hl 6 rfl) ?_
      refine lv_iconst (v := 0) hx hb dL_law_1667 (by decide) ?_
      obtain ⟨rx, hvx, hg1⟩ := hv1 hq0
      have hvb := hv2 hq0
      have hEq : g1 0 = (r2_).toInt64 := by rw [hg1, hvx, hvb, ((lk_signTogether hK (xs ((7 * n) + 1)) (xs ((7 * n) + 2)) (xs ((7 * n) + 3)) (xs ((7 * n) + 4)) (xs ((7 * n) + 5))).2 (hkc.symm.trans hq0)).1]
      refine g_lald (n := 1) (j := 0) hC h1 (by decide) (by decide) dL_law_1668 ?_
      refine lv_iload hx hb dL_law_1669 (lv_at hl 0 rfl) ?_
      refine lv_i2l (v := (r2_).toInt64) hx hb dL_law_1671 rfl ?_
      refine g_lcmp hx hb hEq dL_law_1672 ?_
      refine lv_if_eq (tgt := 1678) hx hb dL_law_1673 (by decide) (fun c4_ => ?_) (fun c4_ => ?_)
      · refine lv_goto (tgt := 2472) hx hb dL_law_1678 (by decide) ?_
        exact W.widen (k := cells + 16) (n := slots + 3000) (by omega) (by omega) (kk H lo ls (LI.fin (M := M) hRB1 ha1 hm1 hR h1 h2 hK (fun hc => ((lk_signTogether hK (xs ((7 * n) + 1)) (xs ((7 * n) + 2)) (xs ((7 * n) + 3)) (xs ((7 * n) + 4)) (xs ((7 * n) + 5))).2 (hkc.symm.trans hc)).2) (by omega) (by first | (show N 2 + 1 ≤ n + 1; omega) | (show N 2 ≤ n + 1; omega))) hS (lv_sub hl [2, 3, 4, 5, 6, 7] rfl))
      · exact absurd (by decide) c4_
  · exact absurd rfl c1_
set_option maxHeartbeats 4000000 in
set_option maxRecDepth 100000 in
theorem q_ratify {p_ : Program} {l : Launch} {e_ : Env} {s : State} {m : MethodId} {args : Array Value} {below : List Frame} {meth : Method} {c : Code} {Q : State → Prop} {E : gV} (hE : gOK l E) {β : Nat → Nat} {a0 o1 o2 b L : Nat} {xs : Nat → Int32} (hst : lS E β o1 o2) (hL : L ≤ 3584) (hX : va_X b L xs s E.2.1.heap) (hbl : b < E.2.1.heap.size) (hC : gC l E p_ s m meth c RL cL_law 8) {n cells slots : Nat} {H : Heap} {lo : List Loc} {ls : Array Slot} (hn : n < 512) (hi : 7 * n + 7 ≤ L) (hc1 : cells + 16 ≤ 601024) (hc2 : slots + 3000 ≤ 7293034) (hI : LI E β a0 o1 o2 n H) (hS : va_S (gA0 E) E.2.1.heap H lo) (hl : lv_has ls 8 [(5, .int (nI (7 * n))), (0, .ref b), (1, .ref a0), (2, .ref (β 19)), (3, .ref o1), (4, .ref o2)])
    (kk : ∀ (H1 : Heap) (lo1 : List Loc) (ls1 : Array Slot), LI E β a0 o1 o2 (n + 1) H1 → va_S (gA0 E) E.2.1.heap H1 lo1 → lv_has ls1 8 [(5, .int (nI (7 * n))), (0, .ref b), (1, .ref a0), (2, .ref (β 19)), (3, .ref o1), (4, .ref o2)] → W p_ l e_ room_1 s m args below meth c H1 lo1 (cells + 16) (slots + 3000) Q (F0 m 2472 ls1 [])) : W p_ l e_ room_1 s m args below meth c H lo cells slots Q (F0 m 1681 ls []) := by
  have hx := hC.2.2.1
  have hb := hC.2.2.2.1
  obtain ⟨α, ξ, M, N, μ, K, dp, th, f1, f2, hRB, rfl, hR, h1, h2, hK, hN2⟩ := hI
  refine lv_aload_n hx hb dL_law_1681 rfl (lv_at hl 2 rfl) ?_
  refine lv_aload_n hx hb dL_law_1682 rfl (lv_at hl 1 rfl) ?_
  refine lv_iload hx hb dL_law_1683 (lv_at hl 0 rfl) ?_
  refine lv_iconst (v := 1) hx hb dL_law_1685 (by decide) ?_
  refine g_iadd1 hx hb dL_law_1686 ?_
  refine g_sld (q := ((7 * n) + 1)) hC hX hbl hS (by omega) (by omega) dL_law_1687 ?_
  refine lv_aload_n hx hb dL_law_1688 rfl (lv_at hl 1 rfl) ?_
  refine lv_iload hx hb dL_law_1689 (lv_at hl 0 rfl) ?_
  refine lv_iconst (v := 2) hx hb dL_law_1691 (by decide) ?_
  refine g_iaddk 2 hx hb dL_law_1692 ?_
  refine g_sld (q := ((7 * n) + 2)) hC hX hbl hS (by omega) (by omega) dL_law_1693 ?_
  refine lv_aload_n hx hb dL_law_1694 rfl (lv_at hl 4 rfl) ?_
  refine g_cWi (k2 := cells + 4) (n2 := slots + 30) (g_runSH (n := 4) (rest := []) hC (w_ratify hE (α := α) (ξ := ξ) (M := M) (N := N) (B := lB β o1 o2) (xs ((7 * n) + 1)) (xs ((7 * n) + 2)) (o := o1) (f0 := f1) (Or.inr (Or.inl rfl)) hst.2.2.1) k_0 k_871 (by decide +kernel) k_869 k_870 ⟨hRB, h1⟩ rfl hl.1 dL_law_1695 ⟨Nat.le_of_ble_eq_true rfl, Nat.le_of_ble_eq_true rfl⟩ ⟨by show cells + 0 + 4 ≤ 601024; omega, by show slots + 0 + 30 ≤ 7293034; omega⟩ rfl (Nat.le_of_ble_eq_true rfl)) hS (fun q h => h.elim (fun h => h.1) (fun h => by rw [h]; exact hst.2.2.1)) (by show cells + 0 + 4 = cells + 4; omega) (by show slots + 0 + 30 = slots + 30; omega) (fun r1_ H lo h hz_ hk_ hS => ?_)
  obtain ⟨hr1, α1, M1, g1, hRB1, hm1, ha1, h1n, hv1⟩ := h
  obtain ⟨hR, h2⟩ := hst.x hR h2 hk_
  have h1 := h1n
  obtain ⟨kc, hkc⟩ : ∃ kc, kc = kRat (mv μ) (mw μ) (μ 22 0) (K 1) (K 2) (K 0) (xs ((7 * n) + 1)) (xs ((7 * n) + 2)) := ⟨_, rfl⟩
  have hkx := (lk_ratify hK (xs ((7 * n) + 1)) (xs ((7 * n) + 2))).1
  rw [← hkc] at hkx
  rw [hkx] at hr1 hv1 hRB1 hm1
  subst hr1
  have hk5 : kc ≤ 4 := by rw [hkc]; unfold kRat; exact (cif_le (by decide) (cif_le (by decide) (cif_le (by decide) (by decide))))
  refine lv_istore (lv' := [(6, .int (nI kc)), (5, .int (nI (7 * n))), (0, .ref b), (1, .ref (α 3 0)), (2, .ref (β 19)), (3, .ref o1), (4, .ref o2)]) hx hb dL_law_1698 hl (by decide) rfl (fun ls hl => ?_)
  refine lv_aload_n hx hb dL_law_1700 rfl (lv_at hl 4 rfl) ?_
  refine lv_aload_n hx hb dL_law_1701 rfl (lv_at hl 2 rfl) ?_
  refine lv_iload hx hb dL_law_1702 (lv_at hl 1 rfl) ?_
  refine lv_iconst (v := 1) hx hb dL_law_1704 (by decide) ?_
  refine g_iadd1 hx hb dL_law_1705 ?_
  refine g_sld (q := ((7 * n) + 1)) hC hX hbl hS (by omega) (by omega) dL_law_1706 ?_
  refine lv_aload_n hx hb dL_law_1707 rfl (lv_at hl 2 rfl) ?_
  refine lv_iload hx hb dL_law_1708 (lv_at hl 1 rfl) ?_
  refine lv_iconst (v := 2) hx hb dL_law_1710 (by decide) ?_
  refine g_iaddk 2 hx hb dL_law_1711 ?_
  refine g_sld (q := ((7 * n) + 2)) hC hX hbl hS (by omega) (by omega) dL_law_1712 ?_
  refine g_cWi (k2 := cells + 4) (n2 := slots + 30) (g_runV (rest := []) hC (c_X5_ratify hE (β := β) (μ := μ) (K := K) (dp := dp) (th := th) hK.mi (xs ((7 * n) + 1)) (xs ((7 * n) + 2))) Y_X5_ratify k_1232 I_X5_ratify V_X5_ratify hR.obj rfl hR rfl hl.1 dL_law_1713 ⟨Nat.le_of_ble_eq_true rfl, Nat.le_of_ble_eq_true rfl⟩ ⟨by show cells + 4 + 0 ≤ 601024; omega, by show slots + 30 + 0 ≤ 7293034; omega⟩ rfl (Nat.le_of_ble_eq_true rfl)) hS (fun q ⟨k, hk, e⟩ => by rw [e]; exact (hst.2.1 k hk).2.2) (by show cells + 4 + 0 = cells + 4; omega) (by show slots + 30 + 0 = slots + 30; omega) (fun r2_ H lo h hz_ hk_ hS => ?_)
  obtain ⟨dp1, hR, hv2⟩ := h
  rw [← hkc] at hR hv2
  obtain ⟨hRB1, h1, h2⟩ := hst.m hRB1 h1 h2 hz_ hk_
  refine lv_istore (lv' := [(7, .int r2_), (6, .int (nI kc)), (5, .int (nI (7 * n))), (0, .ref b), (1, .ref (α 3 0)), (2, .ref (β 19)), (3, .ref o1), (4, .ref o2)]) hx hb dL_law_1716 hl (by decide) rfl (fun ls hl => ?_)
  refine lv_aload_n hx hb dL_law_1718 rfl (lv_at hl 5 rfl) ?_
  refine g_cRi (k2 := cells + 4) (n2 := slots + 30) (g_runV (rest := []) hC (c_X5_thrown hE (β := β) (dp := dp1) (th := nI kc)) Y_X5_thrown k_1076 I_X5_thrown V_X5_thrown hR.obj rfl hR rfl hl.1 dL_law_1719 ⟨Nat.le_of_ble_eq_true rfl, Nat.le_of_ble_eq_true rfl⟩ ⟨by show cells + 4 + 0 ≤ 601024; omega, by show slots + 30 + 0 ≤ 7293034; omega⟩ rfl (Nat.le_of_ble_eq_true rfl)) (by show cells + 4 + 0 = cells + 4; omega) (by show slots + 30 + 0 = slots + 30; omega) g_no (fun r3_ h => ?_)
  obtain rfl := h
  refine lv_iload hx hb dL_law_1722 (lv_at hl 1 rfl) ?_
  refine lv_icmp_eq (tgt := 1729) hx hb dL_law_1724 (by decide) (fun c1_ => ?_) (fun c1_ => ?_)
  · refine lv_iload hx hb dL_law_1729 (lv_at hl 1 rfl) ?_
    refine lv_if_ne (tgt := 1746) hx hb dL_law_1731 (by decide) (fun c2_ => ?_) (fun c2_ => ?_)
    · have q3_ : ¬ kc = 0 := fun z => c2_ (congrArg nI z)
      refine lv_goto (tgt := 2472) hx hb dL_law_1746 (by decide) ?_
      exact W.widen (k := cells + 16) (n := slots + 3000) (by omega) (by omega) (kk H lo ls (LI.fin (M := M) hRB1 ha1 hm1 hR h1 h2 hK (fun hc => ((lk_ratify hK (xs ((7 * n) + 1)) (xs ((7 * n) + 2))).2 (hkc.symm.trans hc)).2) (by omega) (by first | (show N 2 + 1 ≤ n + 1; omega) | (show N 2 ≤ n + 1; omega))) hS (lv_sub hl [2, 3, 4, 5, 6, 7] rfl))
    · have q3_ : kc = 0 := (nI_eq (by omega) (by omega)).mp c2_
      have hq0 : kc = 0 := (nI_eq (by omega) (by omega)).mp c2_
      refine lv_aload_n hx hb dL_law_1734 rfl (lv_at hl 6 rfl) ?_
      refine lv_iconst (v := 0) hx hb dL_law_1735 (by decide) ?_
      obtain ⟨rx, hvx, hg1⟩ := hv1 hq0
      have hvb := hv2 hq0
      have hEq : g1 0 = (r2_).toInt64 := by rw [hg1, hvx, hvb, ((lk_ratify hK (xs ((7 * n) + 1)) (xs ((7 * n) + 2))).2 (hkc.symm.trans hq0)).1]
      refine g_lald (n := 1) (j := 0) hC h1 (by decide) (by decide) dL_law_1736 ?_
      refine lv_iload hx hb dL_law_1737 (lv_at hl 0 rfl) ?_
      refine lv_i2l (v := (r2_).toInt64) hx hb dL_law_1739 rfl ?_
      refine g_lcmp hx hb hEq dL_law_1740 ?_
      refine lv_if_eq (tgt := 1746) hx hb dL_law_1741 (by decide) (fun c4_ => ?_) (fun c4_ => ?_)
      · refine lv_goto (tgt := 2472) hx hb dL_law_1746 (by decide) ?_
        exact W.widen (k := cells + 16) (n := slots + 3000) (by omega) (by omega) (kk H lo ls (LI.fin (M := M) hRB1 ha1 hm1 hR h1 h2 hK (fun hc => ((lk_ratify hK (xs ((7 * n) + 1)) (xs ((7 * n) + 2))).2 (hkc.symm.trans hc)).2) (by omega) (by first | (show N 2 + 1 ≤ n + 1; omega) | (show N 2 ≤ n + 1; omega))) hS (lv_sub hl [2, 3, 4, 5, 6, 7] rfl))
      · exact absurd (by decide) c4_
  · exact absurd rfl c1_
set_option maxHeartbeats 4000000 in
set_option maxRecDepth 100000 in
theorem q_annul {p_ : Program} {l : Launch} {e_ : Env} {s : State} {m : MethodId} {args : Array Value} {below : List Frame} {meth : Method} {c : Code} {Q : State → Prop} {E : gV} (hE : gOK l E) {β : Nat → Nat} {a0 o1 o2 b L : Nat} {xs : Nat → Int32} (hst : lS E β o1 o2) (hL : L ≤ 3584) (hX : va_X b L xs s E.2.1.heap) (hbl : b < E.2.1.heap.size) (hC : gC l E p_ s m meth c RL cL_law 8) {n cells slots : Nat} {H : Heap} {lo : List Loc} {ls : Array Slot} (hn : n < 512) (hi : 7 * n + 7 ≤ L) (hc1 : cells + 16 ≤ 601024) (hc2 : slots + 3000 ≤ 7293034) (hI : LI E β a0 o1 o2 n H) (hS : va_S (gA0 E) E.2.1.heap H lo) (hl : lv_has ls 8 [(5, .int (nI (7 * n))), (0, .ref b), (1, .ref a0), (2, .ref (β 19)), (3, .ref o1), (4, .ref o2)])
    (kk : ∀ (H1 : Heap) (lo1 : List Loc) (ls1 : Array Slot), LI E β a0 o1 o2 (n + 1) H1 → va_S (gA0 E) E.2.1.heap H1 lo1 → lv_has ls1 8 [(5, .int (nI (7 * n))), (0, .ref b), (1, .ref a0), (2, .ref (β 19)), (3, .ref o1), (4, .ref o2)] → W p_ l e_ room_1 s m args below meth c H1 lo1 (cells + 16) (slots + 3000) Q (F0 m 2472 ls1 [])) : W p_ l e_ room_1 s m args below meth c H lo cells slots Q (F0 m 1749 ls []) := by
  have hx := hC.2.2.1
  have hb := hC.2.2.2.1
  obtain ⟨α, ξ, M, N, μ, K, dp, th, f1, f2, hRB, rfl, hR, h1, h2, hK, hN2⟩ := hI
  refine lv_aload_n hx hb dL_law_1749 rfl (lv_at hl 2 rfl) ?_
  refine lv_aload_n hx hb dL_law_1750 rfl (lv_at hl 1 rfl) ?_
  refine lv_iload hx hb dL_law_1751 (lv_at hl 0 rfl) ?_
  refine lv_iconst (v := 1) hx hb dL_law_1753 (by decide) ?_
  refine g_iadd1 hx hb dL_law_1754 ?_
  refine g_sld (q := ((7 * n) + 1)) hC hX hbl hS (by omega) (by omega) dL_law_1755 ?_
  refine lv_aload_n hx hb dL_law_1756 rfl (lv_at hl 4 rfl) ?_
  refine g_cWi (k2 := cells + 6) (n2 := slots + 1040) (g_runSH (n := 3) (rest := []) hC (w_annul hE (α := α) (ξ := ξ) (M := M) (N := N) (B := lB β o1 o2) (xs ((7 * n) + 1)) (by omega) (o := o1) (f0 := f1) (Or.inr (Or.inl rfl)) hst.2.2.1) k_0 k_888 (by decide +kernel) k_886 k_887 ⟨hRB, h1⟩ rfl hl.1 dL_law_1757 ⟨Nat.le_of_ble_eq_true rfl, Nat.le_of_ble_eq_true rfl⟩ ⟨by show cells + 0 + 6 ≤ 601024; omega, by show slots + 0 + 1040 ≤ 7293034; omega⟩ rfl (Nat.le_of_ble_eq_true rfl)) hS (fun q h => h.elim (fun h => h.1) (fun h => by rw [h]; exact hst.2.2.1)) (by show cells + 0 + 6 = cells + 6; omega) (by show slots + 0 + 1040 = slots + 1040; omega) (fun r1_ H lo h hz_ hk_ hS => ?_)
  obtain ⟨hr1, α1, M1, g1, hRB1, hm1, ha1, h1n, hv1⟩ := h
  obtain ⟨hR, h2⟩ := hst.x hR h2 hk_
  have h1 := h1n
  obtain ⟨kc, hkc⟩ : ∃ kc, kc = kAnnul (mw μ) (K 2) (xs ((7 * n) + 1)) := ⟨_, rfl⟩
  have hkx := (lk_annul hK (xs ((7 * n) + 1))).1
  rw [← hkc] at hkx
  rw [hkx] at hr1 hv1 hRB1 hm1
  subst hr1
  have hk5 : kc ≤ 4 := by rw [hkc]; unfold kAnnul; exact (cif_le (by decide) (cif_le (by decide) (by decide)))
  refine lv_istore (lv' := [(6, .int (nI kc)), (5, .int (nI (7 * n))), (0, .ref b), (1, .ref (α 3 0)), (2, .ref (β 19)), (3, .ref o1), (4, .ref o2)]) hx hb dL_law_1760 hl (by decide) rfl (fun ls hl => ?_)
  refine lv_aload_n hx hb dL_law_1762 rfl (lv_at hl 4 rfl) ?_
  refine lv_aload_n hx hb dL_law_1763 rfl (lv_at hl 2 rfl) ?_
  refine lv_iload hx hb dL_law_1764 (lv_at hl 1 rfl) ?_
  refine lv_iconst (v := 1) hx hb dL_law_1766 (by decide) ?_
  refine g_iadd1 hx hb dL_law_1767 ?_
  refine g_sld (q := ((7 * n) + 1)) hC hX hbl hS (by omega) (by omega) dL_law_1768 ?_
  refine g_cWi (k2 := cells + 6) (n2 := slots + 1040) (g_runV (rest := []) hC (c_X5_annul hE (β := β) (μ := μ) (K := K) (dp := dp) (th := th) hK.mi (xs ((7 * n) + 1))) Y_X5_annul k_1236 I_X5_annul V_X5_annul hR.obj rfl hR rfl hl.1 dL_law_1769 ⟨Nat.le_of_ble_eq_true rfl, Nat.le_of_ble_eq_true rfl⟩ ⟨by show cells + 6 + 0 ≤ 601024; omega, by show slots + 1040 + 0 ≤ 7293034; omega⟩ rfl (Nat.le_of_ble_eq_true rfl)) hS (fun q ⟨k, hk, e⟩ => by rw [e]; exact (hst.2.1 k hk).2.2) (by show cells + 6 + 0 = cells + 6; omega) (by show slots + 1040 + 0 = slots + 1040; omega) (fun r2_ H lo h hz_ hk_ hS => ?_)
  obtain ⟨dp1, hR, hv2⟩ := h
  rw [← hkc] at hR hv2
  obtain ⟨hRB1, h1, h2⟩ := hst.m hRB1 h1 h2 hz_ hk_
  refine lv_istore (lv' := [(7, .int r2_), (6, .int (nI kc)), (5, .int (nI (7 * n))), (0, .ref b), (1, .ref (α 3 0)), (2, .ref (β 19)), (3, .ref o1), (4, .ref o2)]) hx hb dL_law_1772 hl (by decide) rfl (fun ls hl => ?_)
  refine lv_aload_n hx hb dL_law_1774 rfl (lv_at hl 5 rfl) ?_
  refine g_cRi (k2 := cells + 6) (n2 := slots + 1040) (g_runV (rest := []) hC (c_X5_thrown hE (β := β) (dp := dp1) (th := nI kc)) Y_X5_thrown k_1076 I_X5_thrown V_X5_thrown hR.obj rfl hR rfl hl.1 dL_law_1775 ⟨Nat.le_of_ble_eq_true rfl, Nat.le_of_ble_eq_true rfl⟩ ⟨by show cells + 6 + 0 ≤ 601024; omega, by show slots + 1040 + 0 ≤ 7293034; omega⟩ rfl (Nat.le_of_ble_eq_true rfl)) (by show cells + 6 + 0 = cells + 6; omega) (by show slots + 1040 + 0 = slots + 1040; omega) g_no (fun r3_ h => ?_)
  obtain rfl := h
  refine lv_iload hx hb dL_law_1778 (lv_at hl 1 rfl) ?_
  refine lv_icmp_eq (tgt := 1785) hx hb dL_law_1780 (by decide) (fun c1_ => ?_) (fun c1_ => ?_)
  · refine lv_iload hx hb dL_law_1785 (lv_at hl 1 rfl) ?_
    refine lv_if_ne (tgt := 1802) hx hb dL_law_1787 (by decide) (fun c2_ => ?_) (fun c2_ => ?_)
    · have q3_ : ¬ kc = 0 := fun z => c2_ (congrArg nI z)
      refine lv_goto (tgt := 2472) hx hb dL_law_1802 (by decide) ?_
      exact W.widen (k := cells + 16) (n := slots + 3000) (by omega) (by omega) (kk H lo ls (LI.fin (M := M) hRB1 ha1 hm1 hR h1 h2 hK (fun hc => ((lk_annul hK (xs ((7 * n) + 1))).2 (hkc.symm.trans hc)).2) (by omega) (by first | (show N 2 + 1 ≤ n + 1; omega) | (show N 2 ≤ n + 1; omega))) hS (lv_sub hl [2, 3, 4, 5, 6, 7] rfl))
    · have q3_ : kc = 0 := (nI_eq (by omega) (by omega)).mp c2_
      have hq0 : kc = 0 := (nI_eq (by omega) (by omega)).mp c2_
      refine lv_aload_n hx hb dL_law_1790 rfl (lv_at hl 6 rfl) ?_
      refine lv_iconst (v := 0) hx hb dL_law_1791 (by decide) ?_
      obtain ⟨rx, hvx, hg1⟩ := hv1 hq0
      have hvb := hv2 hq0
      have hEq : g1 0 = (r2_).toInt64 := by rw [hg1, hvx, hvb, ((lk_annul hK (xs ((7 * n) + 1))).2 (hkc.symm.trans hq0)).1]
      refine g_lald (n := 1) (j := 0) hC h1 (by decide) (by decide) dL_law_1792 ?_
      refine lv_iload hx hb dL_law_1793 (lv_at hl 0 rfl) ?_
      refine lv_i2l (v := (r2_).toInt64) hx hb dL_law_1795 rfl ?_
      refine g_lcmp hx hb hEq dL_law_1796 ?_
      refine lv_if_eq (tgt := 1802) hx hb dL_law_1797 (by decide) (fun c4_ => ?_) (fun c4_ => ?_)
      · refine lv_goto (tgt := 2472) hx hb dL_law_1802 (by decide) ?_
        exact W.widen (k := cells + 16) (n := slots + 3000) (by omega) (by omega) (kk H lo ls (LI.fin (M := M) hRB1 ha1 hm1 hR h1 h2 hK (fun hc => ((lk_annul hK (xs ((7 * n) + 1))).2 (hkc.symm.trans hc)).2) (by omega) (by first | (show N 2 + 1 ≤ n + 1; omega) | (show N 2 ≤ n + 1; omega))) hS (lv_sub hl [2, 3, 4, 5, 6, 7] rfl))
      · exact absurd (by decide) c4_
  · exact absurd rfl c1_
set_option maxHeartbeats 4000000 in
set_option maxRecDepth 100000 in
theorem q_status {p_ : Program} {l : Launch} {e_ : Env} {s : State} {m : MethodId} {args : Array Value} {below : List Frame} {meth : Method} {c : Code} {Q : State → Prop} {E : gV} (hE : gOK l E) {β : Nat → Nat} {a0 o1 o2 b L : Nat} {xs : Nat → Int32} (hst : lS E β o1 o2) (hL : L ≤ 3584) (hX : va_X b L xs s E.2.1.heap) (hbl : b < E.2.1.heap.size) (hC : gC l E p_ s m meth c RL cL_law 8) {n cells slots : Nat} {H : Heap} {lo : List Loc} {ls : Array Slot} (hn : n < 512) (hi : 7 * n + 7 ≤ L) (hc1 : cells + 16 ≤ 601024) (hc2 : slots + 3000 ≤ 7293034) (hI : LI E β a0 o1 o2 n H) (hS : va_S (gA0 E) E.2.1.heap H lo) (hl : lv_has ls 8 [(5, .int (nI (7 * n))), (0, .ref b), (1, .ref a0), (2, .ref (β 19)), (3, .ref o1), (4, .ref o2)])
    (kk : ∀ (H1 : Heap) (lo1 : List Loc) (ls1 : Array Slot), LI E β a0 o1 o2 (n + 1) H1 → va_S (gA0 E) E.2.1.heap H1 lo1 → lv_has ls1 8 [(5, .int (nI (7 * n))), (0, .ref b), (1, .ref a0), (2, .ref (β 19)), (3, .ref o1), (4, .ref o2)] → W p_ l e_ room_1 s m args below meth c H1 lo1 (cells + 16) (slots + 3000) Q (F0 m 2472 ls1 [])) : W p_ l e_ room_1 s m args below meth c H lo cells slots Q (F0 m 1805 ls []) := by
  have hx := hC.2.2.1
  have hb := hC.2.2.2.1
  obtain ⟨α, ξ, M, N, μ, K, dp, th, f1, f2, hRB, rfl, hR, h1, h2, hK, hN2⟩ := hI
  refine lv_aload_n hx hb dL_law_1805 rfl (lv_at hl 2 rfl) ?_
  refine lv_aload_n hx hb dL_law_1806 rfl (lv_at hl 1 rfl) ?_
  refine lv_iload hx hb dL_law_1807 (lv_at hl 0 rfl) ?_
  refine lv_iconst (v := 1) hx hb dL_law_1809 (by decide) ?_
  refine g_iadd1 hx hb dL_law_1810 ?_
  refine g_sld (q := ((7 * n) + 1)) hC hX hbl hS (by omega) (by omega) dL_law_1811 ?_
  refine lv_aload_n hx hb dL_law_1812 rfl (lv_at hl 4 rfl) ?_
  refine g_cWi (k2 := cells + 1) (n2 := slots + 6) (g_runSH (n := 3) (rest := []) hC (w_status hE (α := α) (ξ := ξ) (M := M) (N := N) (B := lB β o1 o2) (xs ((7 * n) + 1)) hK.x19 (o := o1) (f0 := f1) (Or.inr (Or.inl rfl)) hst.2.2.1) k_0 k_899 (by decide +kernel) k_897 k_898 ⟨hRB, h1⟩ rfl hl.1 dL_law_1813 ⟨Nat.le_of_ble_eq_true rfl, Nat.le_of_ble_eq_true rfl⟩ ⟨by show cells + 0 + 1 ≤ 601024; omega, by show slots + 0 + 6 ≤ 7293034; omega⟩ rfl (Nat.le_of_ble_eq_true rfl)) hS (fun q h => h.elim (fun h => h.1) (fun h => by rw [h]; exact hst.2.2.1)) (by show cells + 0 + 1 = cells + 1; omega) (by show slots + 0 + 6 = slots + 6; omega) (fun r1_ H lo h hz_ hk_ hS => ?_)
  obtain ⟨hr1, α1, M1, g1, hRB1, hm1, ha1, h1n, hv1⟩ := h
  obtain ⟨hR, h2⟩ := hst.x hR h2 hk_
  have h1 := h1n
  obtain ⟨kc, hkc⟩ : ∃ kc, kc = kPow (K 2) (xs ((7 * n) + 1)) := ⟨_, rfl⟩
  have hkx := (lk_status hK (xs ((7 * n) + 1))).1
  rw [← hkc] at hkx
  rw [hkx] at hr1 hv1 hRB1 hm1
  subst hr1
  have hk5 : kc ≤ 4 := by rw [hkc]; unfold kPow; exact (cif_le (by decide) (by decide))
  refine lv_istore (lv' := [(6, .int (nI kc)), (5, .int (nI (7 * n))), (0, .ref b), (1, .ref (α 3 0)), (2, .ref (β 19)), (3, .ref o1), (4, .ref o2)]) hx hb dL_law_1816 hl (by decide) rfl (fun ls hl => ?_)
  refine lv_aload_n hx hb dL_law_1818 rfl (lv_at hl 4 rfl) ?_
  refine lv_aload_n hx hb dL_law_1819 rfl (lv_at hl 2 rfl) ?_
  refine lv_iload hx hb dL_law_1820 (lv_at hl 1 rfl) ?_
  refine lv_iconst (v := 1) hx hb dL_law_1822 (by decide) ?_
  refine g_iadd1 hx hb dL_law_1823 ?_
  refine g_sld (q := ((7 * n) + 1)) hC hX hbl hS (by omega) (by omega) dL_law_1824 ?_
  refine g_cWi (k2 := cells + 1) (n2 := slots + 6) (g_runV (rest := []) hC (c_X5_status hE (β := β) (μ := μ) (K := K) (dp := dp) (th := th) hK.mi (xs ((7 * n) + 1)) hK.h17) Y_X5_status k_1244 I_X5_status V_X5_status hR.obj rfl hR rfl hl.1 dL_law_1825 ⟨Nat.le_of_ble_eq_true rfl, Nat.le_of_ble_eq_true rfl⟩ ⟨by show cells + 1 + 0 ≤ 601024; omega, by show slots + 6 + 0 ≤ 7293034; omega⟩ rfl (Nat.le_of_ble_eq_true rfl)) hS (fun q ⟨k, hk, e⟩ => by rw [e]; exact (hst.2.1 k hk).2.2) (by show cells + 1 + 0 = cells + 1; omega) (by show slots + 6 + 0 = slots + 6; omega) (fun r2_ H lo h hz_ hk_ hS => ?_)
  obtain ⟨dp1, hR, hv2⟩ := h
  rw [← hkc] at hR hv2
  obtain ⟨hRB1, h1, h2⟩ := hst.m hRB1 h1 h2 hz_ hk_
  refine lv_istore (lv' := [(7, .int r2_), (6, .int (nI kc)), (5, .int (nI (7 * n))), (0, .ref b), (1, .ref (α 3 0)), (2, .ref (β 19)), (3, .ref o1), (4, .ref o2)]) hx hb dL_law_1828 hl (by decide) rfl (fun ls hl => ?_)
  refine lv_aload_n hx hb dL_law_1830 rfl (lv_at hl 5 rfl) ?_
  refine g_cRi (k2 := cells + 1) (n2 := slots + 6) (g_runV (rest := []) hC (c_X5_thrown hE (β := β) (dp := dp1) (th := nI kc)) Y_X5_thrown k_1076 I_X5_thrown V_X5_thrown hR.obj rfl hR rfl hl.1 dL_law_1831 ⟨Nat.le_of_ble_eq_true rfl, Nat.le_of_ble_eq_true rfl⟩ ⟨by show cells + 1 + 0 ≤ 601024; omega, by show slots + 6 + 0 ≤ 7293034; omega⟩ rfl (Nat.le_of_ble_eq_true rfl)) (by show cells + 1 + 0 = cells + 1; omega) (by show slots + 6 + 0 = slots + 6; omega) g_no (fun r3_ h => ?_)
  obtain rfl := h
  refine lv_iload hx hb dL_law_1834 (lv_at hl 1 rfl) ?_
  refine lv_icmp_eq (tgt := 1841) hx hb dL_law_1836 (by decide) (fun c1_ => ?_) (fun c1_ => ?_)
  · refine lv_iload hx hb dL_law_1841 (lv_at hl 1 rfl) ?_
    refine lv_if_ne (tgt := 1858) hx hb dL_law_1843 (by decide) (fun c2_ => ?_) (fun c2_ => ?_)
    · have q3_ : ¬ kc = 0 := fun z => c2_ (congrArg nI z)
      refine lv_goto (tgt := 2472) hx hb dL_law_1858 (by decide) ?_
      exact W.widen (k := cells + 16) (n := slots + 3000) (by omega) (by omega) (kk H lo ls (LI.fin (M := M) hRB1 ha1 hm1 hR h1 h2 hK (fun hc => hK) (by omega) (by first | (show N 2 + 1 ≤ n + 1; omega) | (show N 2 ≤ n + 1; omega))) hS (lv_sub hl [2, 3, 4, 5, 6, 7] rfl))
    · have q3_ : kc = 0 := (nI_eq (by omega) (by omega)).mp c2_
      have hq0 : kc = 0 := (nI_eq (by omega) (by omega)).mp c2_
      refine lv_aload_n hx hb dL_law_1846 rfl (lv_at hl 6 rfl) ?_
      refine lv_iconst (v := 0) hx hb dL_law_1847 (by decide) ?_
      obtain ⟨rx, hvx, hg1⟩ := hv1 hq0
      have hvb := hv2 hq0
      have hEq : g1 0 = (r2_).toInt64 := by rw [hg1, hvx, hvb, ((lk_status hK (xs ((7 * n) + 1))).2 (hkc.symm.trans hq0))]
      refine g_lald (n := 1) (j := 0) hC h1 (by decide) (by decide) dL_law_1848 ?_
      refine lv_iload hx hb dL_law_1849 (lv_at hl 0 rfl) ?_
      refine lv_i2l (v := (r2_).toInt64) hx hb dL_law_1851 rfl ?_
      refine g_lcmp hx hb hEq dL_law_1852 ?_
      refine lv_if_eq (tgt := 1858) hx hb dL_law_1853 (by decide) (fun c4_ => ?_) (fun c4_ => ?_)
      · refine lv_goto (tgt := 2472) hx hb dL_law_1858 (by decide) ?_
        exact W.widen (k := cells + 16) (n := slots + 3000) (by omega) (by omega) (kk H lo ls (LI.fin (M := M) hRB1 ha1 hm1 hR h1 h2 hK (fun hc => hK) (by omega) (by first | (show N 2 + 1 ≤ n + 1; omega) | (show N 2 ≤ n + 1; omega))) hS (lv_sub hl [2, 3, 4, 5, 6, 7] rfl))
      · exact absurd (by decide) c4_
  · exact absurd rfl c1_
set_option maxHeartbeats 4000000 in
set_option maxRecDepth 100000 in
theorem q_sum {p_ : Program} {l : Launch} {e_ : Env} {s : State} {m : MethodId} {args : Array Value} {below : List Frame} {meth : Method} {c : Code} {Q : State → Prop} {E : gV} (hE : gOK l E) {β : Nat → Nat} {a0 o1 o2 b L : Nat} {xs : Nat → Int32} (hst : lS E β o1 o2) (hL : L ≤ 3584) (hX : va_X b L xs s E.2.1.heap) (hbl : b < E.2.1.heap.size) (hC : gC l E p_ s m meth c RL cL_law 8) {n cells slots : Nat} {H : Heap} {lo : List Loc} {ls : Array Slot} (hn : n < 512) (hi : 7 * n + 7 ≤ L) (hc1 : cells + 16 ≤ 601024) (hc2 : slots + 3000 ≤ 7293034) (hI : LI E β a0 o1 o2 n H) (hS : va_S (gA0 E) E.2.1.heap H lo) (hl : lv_has ls 8 [(5, .int (nI (7 * n))), (0, .ref b), (1, .ref a0), (2, .ref (β 19)), (3, .ref o1), (4, .ref o2)])
    (kk : ∀ (H1 : Heap) (lo1 : List Loc) (ls1 : Array Slot), LI E β a0 o1 o2 (n + 1) H1 → va_S (gA0 E) E.2.1.heap H1 lo1 → lv_has ls1 8 [(5, .int (nI (7 * n))), (0, .ref b), (1, .ref a0), (2, .ref (β 19)), (3, .ref o1), (4, .ref o2)] → W p_ l e_ room_1 s m args below meth c H1 lo1 (cells + 16) (slots + 3000) Q (F0 m 2472 ls1 [])) : W p_ l e_ room_1 s m args below meth c H lo cells slots Q (F0 m 1861 ls []) := by
  have hx := hC.2.2.1
  have hb := hC.2.2.2.1
  obtain ⟨α, ξ, M, N, μ, K, dp, th, f1, f2, hRB, rfl, hR, h1, h2, hK, hN2⟩ := hI
  refine lv_aload_n hx hb dL_law_1861 rfl (lv_at hl 2 rfl) ?_
  refine lv_aload_n hx hb dL_law_1862 rfl (lv_at hl 1 rfl) ?_
  refine lv_iload hx hb dL_law_1863 (lv_at hl 0 rfl) ?_
  refine lv_iconst (v := 1) hx hb dL_law_1865 (by decide) ?_
  refine g_iadd1 hx hb dL_law_1866 ?_
  refine g_sld (q := ((7 * n) + 1)) hC hX hbl hS (by omega) (by omega) dL_law_1867 ?_
  refine lv_aload_n hx hb dL_law_1868 rfl (lv_at hl 4 rfl) ?_
  refine g_cWi (k2 := cells + 1) (n2 := slots + 6) (g_runSH (n := 3) (rest := []) hC (w_sum hE (α := α) (ξ := ξ) (M := M) (N := N) (B := lB β o1 o2) (xs ((7 * n) + 1)) (o := o1) (f0 := f1) (Or.inr (Or.inl rfl)) hst.2.2.1) k_0 k_906 (by decide +kernel) k_904 k_905 ⟨hRB, h1⟩ rfl hl.1 dL_law_1869 ⟨Nat.le_of_ble_eq_true rfl, Nat.le_of_ble_eq_true rfl⟩ ⟨by show cells + 0 + 1 ≤ 601024; omega, by show slots + 0 + 6 ≤ 7293034; omega⟩ rfl (Nat.le_of_ble_eq_true rfl)) hS (fun q h => h.elim (fun h => h.1) (fun h => by rw [h]; exact hst.2.2.1)) (by show cells + 0 + 1 = cells + 1; omega) (by show slots + 0 + 6 = slots + 6; omega) (fun r1_ H lo h hz_ hk_ hS => ?_)
  obtain ⟨hr1, α1, M1, g1, hRB1, hm1, ha1, h1n, hv1⟩ := h
  obtain ⟨hR, h2⟩ := hst.x hR h2 hk_
  have h1 := h1n
  obtain ⟨kc, hkc⟩ : ∃ kc, kc = kPow (K 2) (xs ((7 * n) + 1)) := ⟨_, rfl⟩
  have hkx := (lk_sum hK (xs ((7 * n) + 1))).1
  rw [← hkc] at hkx
  rw [hkx] at hr1 hv1 hRB1 hm1
  subst hr1
  have hk5 : kc ≤ 4 := by rw [hkc]; unfold kPow; exact (cif_le (by decide) (by decide))
  refine lv_istore (lv' := [(6, .int (nI kc)), (5, .int (nI (7 * n))), (0, .ref b), (1, .ref (α 3 0)), (2, .ref (β 19)), (3, .ref o1), (4, .ref o2)]) hx hb dL_law_1872 hl (by decide) rfl (fun ls hl => ?_)
  refine lv_aload_n hx hb dL_law_1874 rfl (lv_at hl 4 rfl) ?_
  refine lv_aload_n hx hb dL_law_1875 rfl (lv_at hl 2 rfl) ?_
  refine lv_iload hx hb dL_law_1876 (lv_at hl 1 rfl) ?_
  refine lv_iconst (v := 1) hx hb dL_law_1878 (by decide) ?_
  refine g_iadd1 hx hb dL_law_1879 ?_
  refine g_sld (q := ((7 * n) + 1)) hC hX hbl hS (by omega) (by omega) dL_law_1880 ?_
  refine g_cWi (k2 := cells + 1) (n2 := slots + 6) (g_runV (rest := []) hC (c_X5_sum hE (β := β) (μ := μ) (K := K) (dp := dp) (th := th) hK.mi (xs ((7 * n) + 1))) Y_X5_sum k_1248 I_X5_sum V_X5_sum hR.obj rfl hR rfl hl.1 dL_law_1881 ⟨Nat.le_of_ble_eq_true rfl, Nat.le_of_ble_eq_true rfl⟩ ⟨by show cells + 1 + 0 ≤ 601024; omega, by show slots + 6 + 0 ≤ 7293034; omega⟩ rfl (Nat.le_of_ble_eq_true rfl)) hS (fun q ⟨k, hk, e⟩ => by rw [e]; exact (hst.2.1 k hk).2.2) (by show cells + 1 + 0 = cells + 1; omega) (by show slots + 6 + 0 = slots + 6; omega) (fun r2_ H lo h hz_ hk_ hS => ?_)
  obtain ⟨dp1, hR, hv2⟩ := h
  rw [← hkc] at hR hv2
  obtain ⟨hRB1, h1, h2⟩ := hst.m hRB1 h1 h2 hz_ hk_
  refine lv_istore (lv' := [(7, .int r2_), (6, .int (nI kc)), (5, .int (nI (7 * n))), (0, .ref b), (1, .ref (α 3 0)), (2, .ref (β 19)), (3, .ref o1), (4, .ref o2)]) hx hb dL_law_1884 hl (by decide) rfl (fun ls hl => ?_)
  refine lv_aload_n hx hb dL_law_1886 rfl (lv_at hl 5 rfl) ?_
  refine g_cRi (k2 := cells + 1) (n2 := slots + 6) (g_runV (rest := []) hC (c_X5_thrown hE (β := β) (dp := dp1) (th := nI kc)) Y_X5_thrown k_1076 I_X5_thrown V_X5_thrown hR.obj rfl hR rfl hl.1 dL_law_1887 ⟨Nat.le_of_ble_eq_true rfl, Nat.le_of_ble_eq_true rfl⟩ ⟨by show cells + 1 + 0 ≤ 601024; omega, by show slots + 6 + 0 ≤ 7293034; omega⟩ rfl (Nat.le_of_ble_eq_true rfl)) (by show cells + 1 + 0 = cells + 1; omega) (by show slots + 6 + 0 = slots + 6; omega) g_no (fun r3_ h => ?_)
  obtain rfl := h
  refine lv_iload hx hb dL_law_1890 (lv_at hl 1 rfl) ?_
  refine lv_icmp_eq (tgt := 1897) hx hb dL_law_1892 (by decide) (fun c1_ => ?_) (fun c1_ => ?_)
  · refine lv_iload hx hb dL_law_1897 (lv_at hl 1 rfl) ?_
    refine lv_if_ne (tgt := 1914) hx hb dL_law_1899 (by decide) (fun c2_ => ?_) (fun c2_ => ?_)
    · have q3_ : ¬ kc = 0 := fun z => c2_ (congrArg nI z)
      refine lv_goto (tgt := 2472) hx hb dL_law_1914 (by decide) ?_
      exact W.widen (k := cells + 16) (n := slots + 3000) (by omega) (by omega) (kk H lo ls (LI.fin (M := M) hRB1 ha1 hm1 hR h1 h2 hK (fun hc => hK) (by omega) (by first | (show N 2 + 1 ≤ n + 1; omega) | (show N 2 ≤ n + 1; omega))) hS (lv_sub hl [2, 3, 4, 5, 6, 7] rfl))
    · have q3_ : kc = 0 := (nI_eq (by omega) (by omega)).mp c2_
      have hq0 : kc = 0 := (nI_eq (by omega) (by omega)).mp c2_
      refine lv_aload_n hx hb dL_law_1902 rfl (lv_at hl 6 rfl) ?_
      refine lv_iconst (v := 0) hx hb dL_law_1903 (by decide) ?_
      obtain ⟨rx, hvx, hg1⟩ := hv1 hq0
      have hvb := hv2 hq0
      have hEq : g1 0 = (r2_).toInt64 := by rw [hg1, hvx, hvb, ((lk_sum hK (xs ((7 * n) + 1))).2 (hkc.symm.trans hq0))]
      refine g_lald (n := 1) (j := 0) hC h1 (by decide) (by decide) dL_law_1904 ?_
      refine lv_iload hx hb dL_law_1905 (lv_at hl 0 rfl) ?_
      refine lv_i2l (v := (r2_).toInt64) hx hb dL_law_1907 rfl ?_
      refine g_lcmp hx hb hEq dL_law_1908 ?_
      refine lv_if_eq (tgt := 1914) hx hb dL_law_1909 (by decide) (fun c4_ => ?_) (fun c4_ => ?_)
      · refine lv_goto (tgt := 2472) hx hb dL_law_1914 (by decide) ?_
        exact W.widen (k := cells + 16) (n := slots + 3000) (by omega) (by omega) (kk H lo ls (LI.fin (M := M) hRB1 ha1 hm1 hR h1 h2 hK (fun hc => hK) (by omega) (by first | (show N 2 + 1 ≤ n + 1; omega) | (show N 2 ≤ n + 1; omega))) hS (lv_sub hl [2, 3, 4, 5, 6, 7] rfl))
      · exact absurd (by decide) c4_
  · exact absurd rfl c1_
set_option maxHeartbeats 4000000 in
set_option maxRecDepth 100000 in
theorem q_sumByPapers {p_ : Program} {l : Launch} {e_ : Env} {s : State} {m : MethodId} {args : Array Value} {below : List Frame} {meth : Method} {c : Code} {Q : State → Prop} {E : gV} (hE : gOK l E) {β : Nat → Nat} {a0 o1 o2 b L : Nat} {xs : Nat → Int32} (hst : lS E β o1 o2) (hL : L ≤ 3584) (hX : va_X b L xs s E.2.1.heap) (hbl : b < E.2.1.heap.size) (hC : gC l E p_ s m meth c RL cL_law 8) {n cells slots : Nat} {H : Heap} {lo : List Loc} {ls : Array Slot} (hn : n < 512) (hi : 7 * n + 7 ≤ L) (hc1 : cells + 16 ≤ 601024) (hc2 : slots + 3000 ≤ 7293034) (hI : LI E β a0 o1 o2 n H) (hS : va_S (gA0 E) E.2.1.heap H lo) (hl : lv_has ls 8 [(5, .int (nI (7 * n))), (0, .ref b), (1, .ref a0), (2, .ref (β 19)), (3, .ref o1), (4, .ref o2)])
    (kk : ∀ (H1 : Heap) (lo1 : List Loc) (ls1 : Array Slot), LI E β a0 o1 o2 (n + 1) H1 → va_S (gA0 E) E.2.1.heap H1 lo1 → lv_has ls1 8 [(5, .int (nI (7 * n))), (0, .ref b), (1, .ref a0), (2, .ref (β 19)), (3, .ref o1), (4, .ref o2)] → W p_ l e_ room_1 s m args below meth c H1 lo1 (cells + 16) (slots + 3000) Q (F0 m 2472 ls1 [])) : W p_ l e_ room_1 s m args below meth c H lo cells slots Q (F0 m 1917 ls []) := by
  have hx := hC.2.2.1
  have hb := hC.2.2.2.1
  obtain ⟨α, ξ, M, N, μ, K, dp, th, f1, f2, hRB, rfl, hR, h1, h2, hK, hN2⟩ := hI
  refine lv_aload_n hx hb dL_law_1917 rfl (lv_at hl 2 rfl) ?_
  refine lv_aload_n hx hb dL_law_1918 rfl (lv_at hl 1 rfl) ?_
  refine lv_iload hx hb dL_law_1919 (lv_at hl 0 rfl) ?_
  refine lv_iconst (v := 1) hx hb dL_law_1921 (by decide) ?_
  refine g_iadd1 hx hb dL_law_1922 ?_
  refine g_sld (q := ((7 * n) + 1)) hC hX hbl hS (by omega) (by omega) dL_law_1923 ?_
  refine lv_aload_n hx hb dL_law_1924 rfl (lv_at hl 4 rfl) ?_
  refine g_cWi (k2 := cells + 1) (n2 := slots + 6) (g_runSH (n := 3) (rest := []) hC (w_sumByPapers hE (α := α) (ξ := ξ) (M := M) (N := N) (B := lB β o1 o2) (xs ((7 * n) + 1)) hK.hpw (o := o1) (f0 := f1) (Or.inr (Or.inl rfl)) hst.2.2.1) k_0 k_913 (by decide +kernel) k_911 k_912 ⟨hRB, h1⟩ rfl hl.1 dL_law_1925 ⟨Nat.le_of_ble_eq_true rfl, Nat.le_of_ble_eq_true rfl⟩ ⟨by show cells + 0 + 1 ≤ 601024; omega, by show slots + 0 + 6 ≤ 7293034; omega⟩ rfl (Nat.le_of_ble_eq_true rfl)) hS (fun q h => h.elim (fun h => h.1) (fun h => by rw [h]; exact hst.2.2.1)) (by show cells + 0 + 1 = cells + 1; omega) (by show slots + 0 + 6 = slots + 6; omega) (fun r1_ H lo h hz_ hk_ hS => ?_)
  obtain ⟨hr1, α1, M1, g1, hRB1, hm1, ha1, h1n, hv1⟩ := h
  obtain ⟨hR, h2⟩ := hst.x hR h2 hk_
  have h1 := h1n
  obtain ⟨kc, hkc⟩ : ∃ kc, kc = kPow (K 2) (xs ((7 * n) + 1)) := ⟨_, rfl⟩
  have hkx := (lk_sum hK (xs ((7 * n) + 1))).1
  rw [← hkc] at hkx
  rw [hkx] at hr1 hv1 hRB1 hm1
  subst hr1
  have hk5 : kc ≤ 4 := by rw [hkc]; unfold kPow; exact (cif_le (by decide) (by decide))
  refine lv_istore (lv' := [(6, .int (nI kc)), (5, .int (nI (7 * n))), (0, .ref b), (1, .ref (α 3 0)), (2, .ref (β 19)), (3, .ref o1), (4, .ref o2)]) hx hb dL_law_1928 hl (by decide) rfl (fun ls hl => ?_)
  refine lv_aload_n hx hb dL_law_1930 rfl (lv_at hl 4 rfl) ?_
  refine lv_aload_n hx hb dL_law_1931 rfl (lv_at hl 2 rfl) ?_
  refine lv_iload hx hb dL_law_1932 (lv_at hl 1 rfl) ?_
  refine lv_iconst (v := 1) hx hb dL_law_1934 (by decide) ?_
  refine g_iadd1 hx hb dL_law_1935 ?_
  refine g_sld (q := ((7 * n) + 1)) hC hX hbl hS (by omega) (by omega) dL_law_1936 ?_
  refine g_cWi (k2 := cells + 1) (n2 := slots + 6) (g_runV (rest := []) hC (c_X5_sumByPapers hE (β := β) (μ := μ) (K := K) (dp := dp) (th := th) hK.mi (xs ((7 * n) + 1))) Y_X5_sumByPapers k_1252 I_X5_sumByPapers V_X5_sumByPapers hR.obj rfl hR rfl hl.1 dL_law_1937 ⟨Nat.le_of_ble_eq_true rfl, Nat.le_of_ble_eq_true rfl⟩ ⟨by show cells + 1 + 0 ≤ 601024; omega, by show slots + 6 + 0 ≤ 7293034; omega⟩ rfl (Nat.le_of_ble_eq_true rfl)) hS (fun q ⟨k, hk, e⟩ => by rw [e]; exact (hst.2.1 k hk).2.2) (by show cells + 1 + 0 = cells + 1; omega) (by show slots + 6 + 0 = slots + 6; omega) (fun r2_ H lo h hz_ hk_ hS => ?_)
  obtain ⟨dp1, hR, hv2⟩ := h
  rw [← hkc] at hR hv2
  obtain ⟨hRB1, h1, h2⟩ := hst.m hRB1 h1 h2 hz_ hk_
  refine lv_istore (lv' := [(7, .int r2_), (6, .int (nI kc)), (5, .int (nI (7 * n))), (0, .ref b), (1, .ref (α 3 0)), (2, .ref (β 19)), (3, .ref o1), (4, .ref o2)]) hx hb dL_law_1940 hl (by decide) rfl (fun ls hl => ?_)
  refine lv_aload_n hx hb dL_law_1942 rfl (lv_at hl 5 rfl) ?_
  refine g_cRi (k2 := cells + 1) (n2 := slots + 6) (g_runV (rest := []) hC (c_X5_thrown hE (β := β) (dp := dp1) (th := nI kc)) Y_X5_thrown k_1076 I_X5_thrown V_X5_thrown hR.obj rfl hR rfl hl.1 dL_law_1943 ⟨Nat.le_of_ble_eq_true rfl, Nat.le_of_ble_eq_true rfl⟩ ⟨by show cells + 1 + 0 ≤ 601024; omega, by show slots + 6 + 0 ≤ 7293034; omega⟩ rfl (Nat.le_of_ble_eq_true rfl)) (by show cells + 1 + 0 = cells + 1; omega) (by show slots + 6 + 0 = slots + 6; omega) g_no (fun r3_ h => ?_)
  obtain rfl := h
  refine lv_iload hx hb dL_law_1946 (lv_at hl 1 rfl) ?_
  refine lv_icmp_eq (tgt := 1953) hx hb dL_law_1948 (by decide) (fun c1_ => ?_) (fun c1_ => ?_)
  · refine lv_iload hx hb dL_law_1953 (lv_at hl 1 rfl) ?_
    refine lv_if_ne (tgt := 1970) hx hb dL_law_1955 (by decide) (fun c2_ => ?_) (fun c2_ => ?_)
    · have q3_ : ¬ kc = 0 := fun z => c2_ (congrArg nI z)
      refine lv_goto (tgt := 2472) hx hb dL_law_1970 (by decide) ?_
      exact W.widen (k := cells + 16) (n := slots + 3000) (by omega) (by omega) (kk H lo ls (LI.fin (M := M) hRB1 ha1 hm1 hR h1 h2 hK (fun hc => hK) (by omega) (by first | (show N 2 + 1 ≤ n + 1; omega) | (show N 2 ≤ n + 1; omega))) hS (lv_sub hl [2, 3, 4, 5, 6, 7] rfl))
    · have q3_ : kc = 0 := (nI_eq (by omega) (by omega)).mp c2_
      have hq0 : kc = 0 := (nI_eq (by omega) (by omega)).mp c2_
      refine lv_aload_n hx hb dL_law_1958 rfl (lv_at hl 6 rfl) ?_
      refine lv_iconst (v := 0) hx hb dL_law_1959 (by decide) ?_
      obtain ⟨rx, hvx, hg1⟩ := hv1 hq0
      have hvb := hv2 hq0
      have hEq : g1 0 = (r2_).toInt64 := by rw [hg1, hvb, (lk_sumByPapers hK (by omega) (xs ((7 * n) + 1)) rx).2 (hkc.symm.trans hq0) hvx]
      refine g_lald (n := 1) (j := 0) hC h1 (by decide) (by decide) dL_law_1960 ?_
      refine lv_iload hx hb dL_law_1961 (lv_at hl 0 rfl) ?_
      refine lv_i2l (v := (r2_).toInt64) hx hb dL_law_1963 rfl ?_
      refine g_lcmp hx hb hEq dL_law_1964 ?_
      refine lv_if_eq (tgt := 1970) hx hb dL_law_1965 (by decide) (fun c4_ => ?_) (fun c4_ => ?_)
      · refine lv_goto (tgt := 2472) hx hb dL_law_1970 (by decide) ?_
        exact W.widen (k := cells + 16) (n := slots + 3000) (by omega) (by omega) (kk H lo ls (LI.fin (M := M) hRB1 ha1 hm1 hR h1 h2 hK (fun hc => hK) (by omega) (by first | (show N 2 + 1 ≤ n + 1; omega) | (show N 2 ≤ n + 1; omega))) hS (lv_sub hl [2, 3, 4, 5, 6, 7] rfl))
      · exact absurd (by decide) c4_
  · exact absurd rfl c1_
set_option maxHeartbeats 4000000 in
set_option maxRecDepth 100000 in
theorem q_stands {p_ : Program} {l : Launch} {e_ : Env} {s : State} {m : MethodId} {args : Array Value} {below : List Frame} {meth : Method} {c : Code} {Q : State → Prop} {E : gV} (hE : gOK l E) {β : Nat → Nat} {a0 o1 o2 b L : Nat} {xs : Nat → Int32} (hst : lS E β o1 o2) (hL : L ≤ 3584) (hX : va_X b L xs s E.2.1.heap) (hbl : b < E.2.1.heap.size) (hC : gC l E p_ s m meth c RL cL_law 8) {n cells slots : Nat} {H : Heap} {lo : List Loc} {ls : Array Slot} (hn : n < 512) (hi : 7 * n + 7 ≤ L) (hc1 : cells + 16 ≤ 601024) (hc2 : slots + 3000 ≤ 7293034) (hI : LI E β a0 o1 o2 n H) (hS : va_S (gA0 E) E.2.1.heap H lo) (hl : lv_has ls 8 [(5, .int (nI (7 * n))), (0, .ref b), (1, .ref a0), (2, .ref (β 19)), (3, .ref o1), (4, .ref o2)])
    (kk : ∀ (H1 : Heap) (lo1 : List Loc) (ls1 : Array Slot), LI E β a0 o1 o2 (n + 1) H1 → va_S (gA0 E) E.2.1.heap H1 lo1 → lv_has ls1 8 [(5, .int (nI (7 * n))), (0, .ref b), (1, .ref a0), (2, .ref (β 19)), (3, .ref o1), (4, .ref o2)] → W p_ l e_ room_1 s m args below meth c H1 lo1 (cells + 16) (slots + 3000) Q (F0 m 2472 ls1 [])) : W p_ l e_ room_1 s m args below meth c H lo cells slots Q (F0 m 1973 ls []) := by
  have hx := hC.2.2.1
  have hb := hC.2.2.2.1
  obtain ⟨α, ξ, M, N, μ, K, dp, th, f1, f2, hRB, rfl, hR, h1, h2, hK, hN2⟩ := hI
  refine lv_aload_n hx hb dL_law_1973 rfl (lv_at hl 2 rfl) ?_
  refine lv_aload_n hx hb dL_law_1974 rfl (lv_at hl 1 rfl) ?_
  refine lv_iload hx hb dL_law_1975 (lv_at hl 0 rfl) ?_
  refine lv_iconst (v := 1) hx hb dL_law_1977 (by decide) ?_
  refine g_iadd1 hx hb dL_law_1978 ?_
  refine g_sld (q := ((7 * n) + 1)) hC hX hbl hS (by omega) (by omega) dL_law_1979 ?_
  refine lv_aload_n hx hb dL_law_1980 rfl (lv_at hl 4 rfl) ?_
  refine g_cWi (k2 := cells + 1) (n2 := slots + 6) (g_runSH (n := 3) (rest := []) hC (w_stands hE (α := α) (ξ := ξ) (M := M) (N := N) (B := lB β o1 o2) (xs ((7 * n) + 1)) (o := o1) (f0 := f1) (Or.inr (Or.inl rfl)) hst.2.2.1) k_0 k_925 (by decide +kernel) k_923 k_924 ⟨hRB, h1⟩ rfl hl.1 dL_law_1981 ⟨Nat.le_of_ble_eq_true rfl, Nat.le_of_ble_eq_true rfl⟩ ⟨by show cells + 0 + 1 ≤ 601024; omega, by show slots + 0 + 6 ≤ 7293034; omega⟩ rfl (Nat.le_of_ble_eq_true rfl)) hS (fun q h => h.elim (fun h => h.1) (fun h => by rw [h]; exact hst.2.2.1)) (by show cells + 0 + 1 = cells + 1; omega) (by show slots + 0 + 6 = slots + 6; omega) (fun r1_ H lo h hz_ hk_ hS => ?_)
  obtain ⟨hr1, α1, M1, g1, hRB1, hm1, ha1, h1n, hv1⟩ := h
  obtain ⟨hR, h2⟩ := hst.x hR h2 hk_
  have h1 := h1n
  obtain ⟨kc, hkc⟩ : ∃ kc, kc = kPow (K 2) (xs ((7 * n) + 1)) := ⟨_, rfl⟩
  have hkx := (lk_stands hK (xs ((7 * n) + 1))).1
  rw [← hkc] at hkx
  rw [hkx] at hr1 hv1 hRB1 hm1
  subst hr1
  have hk5 : kc ≤ 4 := by rw [hkc]; unfold kPow; exact (cif_le (by decide) (by decide))
  refine lv_istore (lv' := [(6, .int (nI kc)), (5, .int (nI (7 * n))), (0, .ref b), (1, .ref (α 3 0)), (2, .ref (β 19)), (3, .ref o1), (4, .ref o2)]) hx hb dL_law_1984 hl (by decide) rfl (fun ls hl => ?_)
  refine lv_aload_n hx hb dL_law_1986 rfl (lv_at hl 4 rfl) ?_
  refine lv_aload_n hx hb dL_law_1987 rfl (lv_at hl 2 rfl) ?_
  refine lv_iload hx hb dL_law_1988 (lv_at hl 1 rfl) ?_
  refine lv_iconst (v := 1) hx hb dL_law_1990 (by decide) ?_
  refine g_iadd1 hx hb dL_law_1991 ?_
  refine g_sld (q := ((7 * n) + 1)) hC hX hbl hS (by omega) (by omega) dL_law_1992 ?_
  refine g_cWi (k2 := cells + 1) (n2 := slots + 6) (g_runV (rest := []) hC (c_X5_stands hE (β := β) (μ := μ) (K := K) (dp := dp) (th := th) hK.mi (xs ((7 * n) + 1))) Y_X5_stands k_1257 I_X5_stands V_X5_stands hR.obj rfl hR rfl hl.1 dL_law_1993 ⟨Nat.le_of_ble_eq_true rfl, Nat.le_of_ble_eq_true rfl⟩ ⟨by show cells + 1 + 0 ≤ 601024; omega, by show slots + 6 + 0 ≤ 7293034; omega⟩ rfl (Nat.le_of_ble_eq_true rfl)) hS (fun q ⟨k, hk, e⟩ => by rw [e]; exact (hst.2.1 k hk).2.2) (by show cells + 1 + 0 = cells + 1; omega) (by show slots + 6 + 0 = slots + 6; omega) (fun r2_ H lo h hz_ hk_ hS => ?_)
  obtain ⟨⟨dp1, hR, hv2⟩, -⟩ := h
  rw [← hkc] at hR hv2
  obtain ⟨hRB1, h1, h2⟩ := hst.m hRB1 h1 h2 hz_ hk_
  refine lv_istore (lv' := [(7, .int r2_), (6, .int (nI kc)), (5, .int (nI (7 * n))), (0, .ref b), (1, .ref (α 3 0)), (2, .ref (β 19)), (3, .ref o1), (4, .ref o2)]) hx hb dL_law_1996 hl (by decide) rfl (fun ls hl => ?_)
  refine lv_aload_n hx hb dL_law_1998 rfl (lv_at hl 5 rfl) ?_
  refine g_cRi (k2 := cells + 1) (n2 := slots + 6) (g_runV (rest := []) hC (c_X5_thrown hE (β := β) (dp := dp1) (th := nI kc)) Y_X5_thrown k_1076 I_X5_thrown V_X5_thrown hR.obj rfl hR rfl hl.1 dL_law_1999 ⟨Nat.le_of_ble_eq_true rfl, Nat.le_of_ble_eq_true rfl⟩ ⟨by show cells + 1 + 0 ≤ 601024; omega, by show slots + 6 + 0 ≤ 7293034; omega⟩ rfl (Nat.le_of_ble_eq_true rfl)) (by show cells + 1 + 0 = cells + 1; omega) (by show slots + 6 + 0 = slots + 6; omega) g_no (fun r3_ h => ?_)
  obtain rfl := h
  refine lv_iload hx hb dL_law_2002 (lv_at hl 1 rfl) ?_
  refine lv_icmp_eq (tgt := 2009) hx hb dL_law_2004 (by decide) (fun c1_ => ?_) (fun c1_ => ?_)
  · refine lv_iload hx hb dL_law_2009 (lv_at hl 1 rfl) ?_
    refine lv_if_ne (tgt := 2033) hx hb dL_law_2011 (by decide) (fun c2_ => ?_) (fun c2_ => ?_)
    · have q3_ : ¬ kc = 0 := fun z => c2_ (congrArg nI z)
      refine lv_goto (tgt := 2472) hx hb dL_law_2033 (by decide) ?_
      exact W.widen (k := cells + 16) (n := slots + 3000) (by omega) (by omega) (kk H lo ls (LI.fin (M := M) hRB1 ha1 hm1 hR h1 h2 hK (fun hc => hK) (by omega) (by first | (show N 2 + 1 ≤ n + 1; omega) | (show N 2 ≤ n + 1; omega))) hS (lv_sub hl [2, 3, 4, 5, 6, 7] rfl))
    · have q3_ : kc = 0 := (nI_eq (by omega) (by omega)).mp c2_
      have hq0 : kc = 0 := (nI_eq (by omega) (by omega)).mp c2_
      refine lv_aload_n hx hb dL_law_2014 rfl (lv_at hl 6 rfl) ?_
      refine lv_iconst (v := 0) hx hb dL_law_2015 (by decide) ?_
      obtain ⟨rx, hvx, hg1⟩ := hv1 hq0
      have hvb := hv2 hq0
      have hEq : g1 0 = (if r2_ = 0 then 0 else 1) := by rw [hg1, bz_eq hvx hvb ((lk_stands hK (xs ((7 * n) + 1))).2 (hkc.symm.trans hq0))]
      refine g_lald (n := 1) (j := 0) hC h1 (by decide) (by decide) dL_law_2016 ?_
      refine lv_iload hx hb dL_law_2017 (lv_at hl 0 rfl) ?_
      refine lv_if_eq (tgt := 2026) hx hb dL_law_2019 (by decide) (fun c4_ => ?_) (fun c4_ => ?_)
      · refine lv_lconst (v := 0) hx hb dL_law_2026 (by decide) ?_
        refine g_lcmp hx hb (hEq.trans (if_pos c4_)) dL_law_2027 ?_
        refine lv_if_eq (tgt := 2033) hx hb dL_law_2028 (by decide) (fun c6_ => ?_) (fun c6_ => ?_)
        · refine lv_goto (tgt := 2472) hx hb dL_law_2033 (by decide) ?_
          exact W.widen (k := cells + 16) (n := slots + 3000) (by omega) (by omega) (kk H lo ls (LI.fin (M := M) hRB1 ha1 hm1 hR h1 h2 hK (fun hc => hK) (by omega) (by first | (show N 2 + 1 ≤ n + 1; omega) | (show N 2 ≤ n + 1; omega))) hS (lv_sub hl [2, 3, 4, 5, 6, 7] rfl))
        · exact absurd (by decide) c6_
      · refine lv_lconst (v := 1) hx hb dL_law_2022 (by decide) ?_
        refine lv_goto (tgt := 2027) hx hb dL_law_2023 (by decide) ?_
        refine g_lcmp hx hb (hEq.trans (if_neg c4_)) dL_law_2027 ?_
        refine lv_if_eq (tgt := 2033) hx hb dL_law_2028 (by decide) (fun c7_ => ?_) (fun c7_ => ?_)
        · refine lv_goto (tgt := 2472) hx hb dL_law_2033 (by decide) ?_
          exact W.widen (k := cells + 16) (n := slots + 3000) (by omega) (by omega) (kk H lo ls (LI.fin (M := M) hRB1 ha1 hm1 hR h1 h2 hK (fun hc => hK) (by omega) (by first | (show N 2 + 1 ≤ n + 1; omega) | (show N 2 ≤ n + 1; omega))) hS (lv_sub hl [2, 3, 4, 5, 6, 7] rfl))
        · exact absurd (by decide) c7_
  · exact absurd rfl c1_
set_option maxHeartbeats 4000000 in
set_option maxRecDepth 100000 in
theorem q_standsByPapers {p_ : Program} {l : Launch} {e_ : Env} {s : State} {m : MethodId} {args : Array Value} {below : List Frame} {meth : Method} {c : Code} {Q : State → Prop} {E : gV} (hE : gOK l E) {β : Nat → Nat} {a0 o1 o2 b L : Nat} {xs : Nat → Int32} (hst : lS E β o1 o2) (hL : L ≤ 3584) (hX : va_X b L xs s E.2.1.heap) (hbl : b < E.2.1.heap.size) (hC : gC l E p_ s m meth c RL cL_law 8) {n cells slots : Nat} {H : Heap} {lo : List Loc} {ls : Array Slot} (hn : n < 512) (hi : 7 * n + 7 ≤ L) (hc1 : cells + 16 ≤ 601024) (hc2 : slots + 3000 ≤ 7293034) (hI : LI E β a0 o1 o2 n H) (hS : va_S (gA0 E) E.2.1.heap H lo) (hl : lv_has ls 8 [(5, .int (nI (7 * n))), (0, .ref b), (1, .ref a0), (2, .ref (β 19)), (3, .ref o1), (4, .ref o2)])
    (kk : ∀ (H1 : Heap) (lo1 : List Loc) (ls1 : Array Slot), LI E β a0 o1 o2 (n + 1) H1 → va_S (gA0 E) E.2.1.heap H1 lo1 → lv_has ls1 8 [(5, .int (nI (7 * n))), (0, .ref b), (1, .ref a0), (2, .ref (β 19)), (3, .ref o1), (4, .ref o2)] → W p_ l e_ room_1 s m args below meth c H1 lo1 (cells + 16) (slots + 3000) Q (F0 m 2472 ls1 [])) : W p_ l e_ room_1 s m args below meth c H lo cells slots Q (F0 m 2036 ls []) := by
  have hx := hC.2.2.1
  have hb := hC.2.2.2.1
  obtain ⟨α, ξ, M, N, μ, K, dp, th, f1, f2, hRB, rfl, hR, h1, h2, hK, hN2⟩ := hI
  refine lv_aload_n hx hb dL_law_2036 rfl (lv_at hl 2 rfl) ?_
  refine lv_aload_n hx hb dL_law_2037 rfl (lv_at hl 1 rfl) ?_
  refine lv_iload hx hb dL_law_2038 (lv_at hl 0 rfl) ?_
  refine lv_iconst (v := 1) hx hb dL_law_2040 (by decide) ?_
  refine g_iadd1 hx hb dL_law_2041 ?_
  refine g_sld (q := ((7 * n) + 1)) hC hX hbl hS (by omega) (by omega) dL_law_2042 ?_
  refine lv_aload_n hx hb dL_law_2043 rfl (lv_at hl 4 rfl) ?_
  refine g_cWi (k2 := cells + 1) (n2 := slots + 6) (g_runSH (n := 3) (rest := []) hC (w_standsByPapers hE (α := α) (ξ := ξ) (M := M) (N := N) (B := lB β o1 o2) (xs ((7 * n) + 1)) hK.hpw hK.hpr (o := o1) (f0 := f1) (Or.inr (Or.inl rfl)) hst.2.2.1) k_0 k_932 (by decide +kernel) k_930 k_931 ⟨hRB, h1⟩ rfl hl.1 dL_law_2044 ⟨Nat.le_of_ble_eq_true rfl, Nat.le_of_ble_eq_true rfl⟩ ⟨by show cells + 0 + 1 ≤ 601024; omega, by show slots + 0 + 6 ≤ 7293034; omega⟩ rfl (Nat.le_of_ble_eq_true rfl)) hS (fun q h => h.elim (fun h => h.1) (fun h => by rw [h]; exact hst.2.2.1)) (by show cells + 0 + 1 = cells + 1; omega) (by show slots + 0 + 6 = slots + 6; omega) (fun r1_ H lo h hz_ hk_ hS => ?_)
  obtain ⟨hr1, α1, M1, g1, hRB1, hm1, ha1, h1n, hv1⟩ := h
  obtain ⟨hR, h2⟩ := hst.x hR h2 hk_
  have h1 := h1n
  obtain ⟨kc, hkc⟩ : ∃ kc, kc = kPow (K 2) (xs ((7 * n) + 1)) := ⟨_, rfl⟩
  have hkx := (lk_stands hK (xs ((7 * n) + 1))).1
  rw [← hkc] at hkx
  rw [hkx] at hr1 hv1 hRB1 hm1
  subst hr1
  have hk5 : kc ≤ 4 := by rw [hkc]; unfold kPow; exact (cif_le (by decide) (by decide))
  refine lv_istore (lv' := [(6, .int (nI kc)), (5, .int (nI (7 * n))), (0, .ref b), (1, .ref (α 3 0)), (2, .ref (β 19)), (3, .ref o1), (4, .ref o2)]) hx hb dL_law_2047 hl (by decide) rfl (fun ls hl => ?_)
  refine lv_aload_n hx hb dL_law_2049 rfl (lv_at hl 4 rfl) ?_
  refine lv_aload_n hx hb dL_law_2050 rfl (lv_at hl 2 rfl) ?_
  refine lv_iload hx hb dL_law_2051 (lv_at hl 1 rfl) ?_
  refine lv_iconst (v := 1) hx hb dL_law_2053 (by decide) ?_
  refine g_iadd1 hx hb dL_law_2054 ?_
  refine g_sld (q := ((7 * n) + 1)) hC hX hbl hS (by omega) (by omega) dL_law_2055 ?_
  refine g_cWi (k2 := cells + 1) (n2 := slots + 6) (g_runV (rest := []) hC (c_X5_standsByPapers hE (β := β) (μ := μ) (K := K) (dp := dp) (th := th) hK.mi (xs ((7 * n) + 1))) Y_X5_standsByPapers k_1265 I_X5_standsByPapers V_X5_standsByPapers hR.obj rfl hR rfl hl.1 dL_law_2056 ⟨Nat.le_of_ble_eq_true rfl, Nat.le_of_ble_eq_true rfl⟩ ⟨by show cells + 1 + 0 ≤ 601024; omega, by show slots + 6 + 0 ≤ 7293034; omega⟩ rfl (Nat.le_of_ble_eq_true rfl)) hS (fun q ⟨k, hk, e⟩ => by rw [e]; exact (hst.2.1 k hk).2.2) (by show cells + 1 + 0 = cells + 1; omega) (by show slots + 6 + 0 = slots + 6; omega) (fun r2_ H lo h hz_ hk_ hS => ?_)
  obtain ⟨dp1, hR, hv2⟩ := h
  rw [← hkc] at hR hv2
  obtain ⟨hRB1, h1, h2⟩ := hst.m hRB1 h1 h2 hz_ hk_
  refine lv_istore (lv' := [(7, .int r2_), (6, .int (nI kc)), (5, .int (nI (7 * n))), (0, .ref b), (1, .ref (α 3 0)), (2, .ref (β 19)), (3, .ref o1), (4, .ref o2)]) hx hb dL_law_2059 hl (by decide) rfl (fun ls hl => ?_)
  refine lv_aload_n hx hb dL_law_2061 rfl (lv_at hl 5 rfl) ?_
  refine g_cRi (k2 := cells + 1) (n2 := slots + 6) (g_runV (rest := []) hC (c_X5_thrown hE (β := β) (dp := dp1) (th := nI kc)) Y_X5_thrown k_1076 I_X5_thrown V_X5_thrown hR.obj rfl hR rfl hl.1 dL_law_2062 ⟨Nat.le_of_ble_eq_true rfl, Nat.le_of_ble_eq_true rfl⟩ ⟨by show cells + 1 + 0 ≤ 601024; omega, by show slots + 6 + 0 ≤ 7293034; omega⟩ rfl (Nat.le_of_ble_eq_true rfl)) (by show cells + 1 + 0 = cells + 1; omega) (by show slots + 6 + 0 = slots + 6; omega) g_no (fun r3_ h => ?_)
  obtain rfl := h
  refine lv_iload hx hb dL_law_2065 (lv_at hl 1 rfl) ?_
  refine lv_icmp_eq (tgt := 2072) hx hb dL_law_2067 (by decide) (fun c1_ => ?_) (fun c1_ => ?_)
  · refine lv_iload hx hb dL_law_2072 (lv_at hl 1 rfl) ?_
    refine lv_if_ne (tgt := 2096) hx hb dL_law_2074 (by decide) (fun c2_ => ?_) (fun c2_ => ?_)
    · have q3_ : ¬ kc = 0 := fun z => c2_ (congrArg nI z)
      refine lv_goto (tgt := 2472) hx hb dL_law_2096 (by decide) ?_
      exact W.widen (k := cells + 16) (n := slots + 3000) (by omega) (by omega) (kk H lo ls (LI.fin (M := M) hRB1 ha1 hm1 hR h1 h2 hK (fun hc => hK) (by omega) (by first | (show N 2 + 1 ≤ n + 1; omega) | (show N 2 ≤ n + 1; omega))) hS (lv_sub hl [2, 3, 4, 5, 6, 7] rfl))
    · have q3_ : kc = 0 := (nI_eq (by omega) (by omega)).mp c2_
      have hq0 : kc = 0 := (nI_eq (by omega) (by omega)).mp c2_
      refine lv_aload_n hx hb dL_law_2077 rfl (lv_at hl 6 rfl) ?_
      refine lv_iconst (v := 0) hx hb dL_law_2078 (by decide) ?_
      obtain ⟨rx, hvx, hg1⟩ := hv1 hq0
      have hvb := hv2 hq0
      have hEq : g1 0 = (if r2_ = 0 then 0 else 1) := by rw [hg1, bz_eq ((lk_standsByPapers hK (by omega) (xs ((7 * n) + 1)) rx).2 (hkc.symm.trans hq0) hvx) hvb Iff.rfl]
      refine g_lald (n := 1) (j := 0) hC h1 (by decide) (by decide) dL_law_2079 ?_
      refine lv_iload hx hb dL_law_2080 (lv_at hl 0 rfl) ?_
      refine lv_if_eq (tgt := 2089) hx hb dL_law_2082 (by decide) (fun c4_ => ?_) (fun c4_ => ?_)
      · refine lv_lconst (v := 0) hx hb dL_law_2089 (by decide) ?_
        refine g_lcmp hx hb (hEq.trans (if_pos c4_)) dL_law_2090 ?_
        refine lv_if_eq (tgt := 2096) hx hb dL_law_2091 (by decide) (fun c6_ => ?_) (fun c6_ => ?_)
        · refine lv_goto (tgt := 2472) hx hb dL_law_2096 (by decide) ?_
          exact W.widen (k := cells + 16) (n := slots + 3000) (by omega) (by omega) (kk H lo ls (LI.fin (M := M) hRB1 ha1 hm1 hR h1 h2 hK (fun hc => hK) (by omega) (by first | (show N 2 + 1 ≤ n + 1; omega) | (show N 2 ≤ n + 1; omega))) hS (lv_sub hl [2, 3, 4, 5, 6, 7] rfl))
        · exact absurd (by decide) c6_
      · refine lv_lconst (v := 1) hx hb dL_law_2085 (by decide) ?_
        refine lv_goto (tgt := 2090) hx hb dL_law_2086 (by decide) ?_
        refine g_lcmp hx hb (hEq.trans (if_neg c4_)) dL_law_2090 ?_
        refine lv_if_eq (tgt := 2096) hx hb dL_law_2091 (by decide) (fun c7_ => ?_) (fun c7_ => ?_)
        · refine lv_goto (tgt := 2472) hx hb dL_law_2096 (by decide) ?_
          exact W.widen (k := cells + 16) (n := slots + 3000) (by omega) (by omega) (kk H lo ls (LI.fin (M := M) hRB1 ha1 hm1 hR h1 h2 hK (fun hc => hK) (by omega) (by first | (show N 2 + 1 ≤ n + 1; omega) | (show N 2 ≤ n + 1; omega))) hS (lv_sub hl [2, 3, 4, 5, 6, 7] rfl))
        · exact absurd (by decide) c7_
  · exact absurd rfl c1_
