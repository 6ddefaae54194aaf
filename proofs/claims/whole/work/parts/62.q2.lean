set_option maxHeartbeats 4000000 in
set_option maxRecDepth 100000 in
theorem q_limit {p_ : Program} {l : Launch} {e_ : Env} {s : State} {m : MethodId} {args : Array Value} {below : List Frame} {meth : Method} {c : Code} {Q : State → Prop} {E : gV} (hE : gOK l E) {β : Nat → Nat} {a0 o1 o2 b L : Nat} {xs : Nat → Int32} (hst : lS E β o1 o2) (hL : L ≤ 3584) (hX : va_X b L xs s E.2.1.heap) (hbl : b < E.2.1.heap.size) (hC : gC l E p_ s m meth c RL cL_law 8) {n cells slots : Nat} {H : Heap} {lo : List Loc} {ls : Array Slot} (hn : n < 512) (hi : 7 * n + 7 ≤ L) (hc1 : cells + 16 ≤ 601024) (hc2 : slots + 3000 ≤ 7293034) (hI : LI E β a0 o1 o2 n H) (hS : va_S (gA0 E) E.2.1.heap H lo) (hl : lv_has ls 8 [(5, .int (nI (7 * n))), (0, .ref b), (1, .ref a0), (2, .ref (β 19)), (3, .ref o1), (4, .ref o2)])
    (kk : ∀ (H1 : Heap) (lo1 : List Loc) (ls1 : Array Slot), LI E β a0 o1 o2 (n + 1) H1 → va_S (gA0 E) E.2.1.heap H1 lo1 → lv_has ls1 8 [(5, .int (nI (7 * n))), (0, .ref b), (1, .ref a0), (2, .ref (β 19)), (3, .ref o1), (4, .ref o2)] → W p_ l e_ room_1 s m args below meth c H1 lo1 (cells + 16) (slots + 3000) Q (F0 m 2472 ls1 [])) : W p_ l e_ room_1 s m args below meth c H lo cells slots Q (F0 m 847 ls []) := by
  have hx := hC.2.2.1
  have hb := hC.2.2.2.1
  obtain ⟨α, ξ, M, N, μ, K, dp, th, f1, f2, hRB, rfl, hR, h1, h2, hK, hN2⟩ := hI
  refine lv_aload_n hx hb dL_law_847 rfl (lv_at hl 2 rfl) ?_
  refine lv_aload_n hx hb dL_law_848 rfl (lv_at hl 1 rfl) ?_
  refine lv_iload hx hb dL_law_849 (lv_at hl 0 rfl) ?_
  refine lv_iconst (v := 1) hx hb dL_law_851 (by decide) ?_
  refine g_iadd1 hx hb dL_law_852 ?_
  refine g_sld (q := ((7 * n) + 1)) hC hX hbl hS (by omega) (by omega) dL_law_853 ?_
  refine lv_aload_n hx hb dL_law_854 rfl (lv_at hl 4 rfl) ?_
  refine g_cWi (k2 := cells + 1) (n2 := slots + 6) (g_runSH (n := 3) (rest := []) hC (w_limit hE (α := α) (ξ := ξ) (M := M) (N := N) (B := lB β o1 o2) (xs ((7 * n) + 1)) (o := o1) (f0 := f1) (Or.inr (Or.inl rfl)) hst.2.2.1) k_0 k_544 (by decide +kernel) k_542 k_543 ⟨hRB, h1⟩ rfl hl.1 dL_law_855 ⟨Nat.le_of_ble_eq_true rfl, Nat.le_of_ble_eq_true rfl⟩ ⟨by show cells + 0 + 1 ≤ 601024; omega, by show slots + 0 + 6 ≤ 7293034; omega⟩ rfl (Nat.le_of_ble_eq_true rfl)) hS (fun q h => h.elim (fun h => h.1) (fun h => by rw [h]; exact hst.2.2.1)) (by show cells + 0 + 1 = cells + 1; omega) (by show slots + 0 + 6 = slots + 6; omega) (fun r1_ H lo h hz_ hk_ hS => ?_)
  obtain ⟨hr1, α1, M1, g1, hRB1, hm1, ha1, h1n, hv1⟩ := h
  obtain ⟨hR, h2⟩ := hst.x hR h2 hk_
  have h1 := h1n
  obtain ⟨kc, hkc⟩ : ∃ kc, kc = kPow (K 1) (xs ((7 * n) + 1)) := ⟨_, rfl⟩
  have hkx := (lk_limit hK (xs ((7 * n) + 1))).1
  rw [← hkc] at hkx
  rw [hkx] at hr1 hv1 hRB1 hm1
  subst hr1
  have hk5 : kc ≤ 4 := by rw [hkc]; unfold kPow; exact (cif_le (by decide) (by decide))
  refine lv_istore (lv' := [(6, .int (nI kc)), (5, .int (nI (7 * n))), (0, .ref b), (1, .ref (α 3 0)), (2, .ref (β 19)), (3, .ref o1), (4, .ref o2)]) hx hb dL_law_858 hl (by decide) rfl (fun ls hl => ?_)
  refine lv_aload_n hx hb dL_law_860 rfl (lv_at hl 4 rfl) ?_
  refine lv_aload_n hx hb dL_law_861 rfl (lv_at hl 2 rfl) ?_
  refine lv_iload hx hb dL_law_862 (lv_at hl 1 rfl) ?_
  refine lv_iconst (v := 1) hx hb dL_law_864 (by decide) ?_
  refine g_iadd1 hx hb dL_law_865 ?_
  refine g_sld (q := ((7 * n) + 1)) hC hX hbl hS (by omega) (by omega) dL_law_866 ?_
  refine g_cWi (k2 := cells + 1) (n2 := slots + 6) (g_runV (rest := []) hC (c_X5_limit hE (β := β) (μ := μ) (K := K) (dp := dp) (th := th) hK.mi (xs ((7 * n) + 1))) Y_X5_limit k_1147 I_X5_limit V_X5_limit hR.obj rfl hR rfl hl.1 dL_law_867 ⟨Nat.le_of_ble_eq_true rfl, Nat.le_of_ble_eq_true rfl⟩ ⟨by show cells + 1 + 0 ≤ 601024; omega, by show slots + 6 + 0 ≤ 7293034; omega⟩ rfl (Nat.le_of_ble_eq_true rfl)) hS (fun q ⟨k, hk, e⟩ => by rw [e]; exact (hst.2.1 k hk).2.2) (by show cells + 1 + 0 = cells + 1; omega) (by show slots + 6 + 0 = slots + 6; omega) (fun r2_ H lo h hz_ hk_ hS => ?_)
  obtain ⟨dp1, hR, hv2⟩ := h
  rw [← hkc] at hR hv2
  obtain ⟨hRB1, h1, h2⟩ := hst.m hRB1 h1 h2 hz_ hk_
  refine lv_istore (lv' := [(7, .int r2_), (6, .int (nI kc)), (5, .int (nI (7 * n))), (0, .ref b), (1, .ref (α 3 0)), (2, .ref (β 19)), (3, .ref o1), (4, .ref o2)]) hx hb dL_law_870 hl (by decide) rfl (fun ls hl => ?_)
  refine lv_aload_n hx hb dL_law_872 rfl (lv_at hl 5 rfl) ?_
  refine g_cRi (k2 := cells + 1) (n2 := slots + 6) (g_runV (rest := []) hC (c_X5_thrown hE (β := β) (dp := dp1) (th := nI kc)) Y_X5_thrown k_1076 I_X5_thrown V_X5_thrown hR.obj rfl hR rfl hl.1 dL_law_873 ⟨Nat.le_of_ble_eq_true rfl, Nat.le_of_ble_eq_true rfl⟩ ⟨by show cells + 1 + 0 ≤ 601024; omega, by show slots + 6 + 0 ≤ 7293034; omega⟩ rfl (Nat.le_of_ble_eq_true rfl)) (by show cells + 1 + 0 = cells + 1; omega) (by show slots + 6 + 0 = slots + 6; omega) g_no (fun r3_ h => ?_)
  obtain rfl := h
  refine lv_iload hx hb dL_law_876 (lv_at hl 1 rfl) ?_
  refine lv_icmp_eq (tgt := 883) hx hb dL_law_878 (by decide) (fun c1_ => ?_) (fun c1_ => ?_)
  · refine lv_iload hx hb dL_law_883 (lv_at hl 1 rfl) ?_
    refine lv_if_ne (tgt := 900) hx hb dL_law_885 (by decide) (fun c2_ => ?_) (fun c2_ => ?_)
    · have q3_ : ¬ kc = 0 := fun z => c2_ (congrArg nI z)
      refine lv_goto (tgt := 2472) hx hb dL_law_900 (by decide) ?_
      exact W.widen (k := cells + 16) (n := slots + 3000) (by omega) (by omega) (kk H lo ls (LI.fin (M := M) hRB1 ha1 hm1 hR h1 h2 hK (fun hc => hK) (by omega) (by first | (show N 2 + 1 ≤ n + 1; omega) | (show N 2 ≤ n + 1; omega))) hS (lv_sub hl [2, 3, 4, 5, 6, 7] rfl))
    · have q3_ : kc = 0 := (nI_eq (by omega) (by omega)).mp c2_
      have hq0 : kc = 0 := (nI_eq (by omega) (by omega)).mp c2_
      refine lv_aload_n hx hb dL_law_888 rfl (lv_at hl 6 rfl) ?_
      refine lv_iconst (v := 0) hx hb dL_law_889 (by decide) ?_
      obtain ⟨rx, hvx, hg1⟩ := hv1 hq0
      have hvb := hv2 hq0
      have hEq : g1 0 = (r2_).toInt64 := by rw [hg1, hvx, hvb, ((lk_limit hK (xs ((7 * n) + 1))).2 (hkc.symm.trans hq0))]
      refine g_lald (n := 1) (j := 0) hC h1 (by decide) (by decide) dL_law_890 ?_
      refine lv_iload hx hb dL_law_891 (lv_at hl 0 rfl) ?_
      refine lv_i2l (v := (r2_).toInt64) hx hb dL_law_893 rfl ?_
      refine g_lcmp hx hb hEq dL_law_894 ?_
      refine lv_if_eq (tgt := 900) hx hb dL_law_895 (by decide) (fun c4_ => ?_) (fun c4_ => ?_)
      · refine lv_goto (tgt := 2472) hx hb dL_law_900 (by decide) ?_
        exact W.widen (k := cells + 16) (n := slots + 3000) (by omega) (by omega) (kk H lo ls (LI.fin (M := M) hRB1 ha1 hm1 hR h1 h2 hK (fun hc => hK) (by omega) (by first | (show N 2 + 1 ≤ n + 1; omega) | (show N 2 ≤ n + 1; omega))) hS (lv_sub hl [2, 3, 4, 5, 6, 7] rfl))
      · exact absurd (by decide) c4_
  · exact absurd rfl c1_
set_option maxHeartbeats 4000000 in
set_option maxRecDepth 100000 in
theorem q_fault {p_ : Program} {l : Launch} {e_ : Env} {s : State} {m : MethodId} {args : Array Value} {below : List Frame} {meth : Method} {c : Code} {Q : State → Prop} {E : gV} (hE : gOK l E) {β : Nat → Nat} {a0 o1 o2 b L : Nat} {xs : Nat → Int32} (hst : lS E β o1 o2) (hL : L ≤ 3584) (hX : va_X b L xs s E.2.1.heap) (hbl : b < E.2.1.heap.size) (hC : gC l E p_ s m meth c RL cL_law 8) {n cells slots : Nat} {H : Heap} {lo : List Loc} {ls : Array Slot} (hn : n < 512) (hi : 7 * n + 7 ≤ L) (hc1 : cells + 16 ≤ 601024) (hc2 : slots + 3000 ≤ 7293034) (hI : LI E β a0 o1 o2 n H) (hS : va_S (gA0 E) E.2.1.heap H lo) (hl : lv_has ls 8 [(5, .int (nI (7 * n))), (0, .ref b), (1, .ref a0), (2, .ref (β 19)), (3, .ref o1), (4, .ref o2)])
    (kk : ∀ (H1 : Heap) (lo1 : List Loc) (ls1 : Array Slot), LI E β a0 o1 o2 (n + 1) H1 → va_S (gA0 E) E.2.1.heap H1 lo1 → lv_has ls1 8 [(5, .int (nI (7 * n))), (0, .ref b), (1, .ref a0), (2, .ref (β 19)), (3, .ref o1), (4, .ref o2)] → W p_ l e_ room_1 s m args below meth c H1 lo1 (cells + 16) (slots + 3000) Q (F0 m 2472 ls1 [])) : W p_ l e_ room_1 s m args below meth c H lo cells slots Q (F0 m 903 ls []) := by
  have hx := hC.2.2.1
  have hb := hC.2.2.2.1
  obtain ⟨α, ξ, M, N, μ, K, dp, th, f1, f2, hRB, rfl, hR, h1, h2, hK, hN2⟩ := hI
  refine lv_aload_n hx hb dL_law_903 rfl (lv_at hl 2 rfl) ?_
  refine lv_aload_n hx hb dL_law_904 rfl (lv_at hl 1 rfl) ?_
  refine lv_iload hx hb dL_law_905 (lv_at hl 0 rfl) ?_
  refine lv_iconst (v := 1) hx hb dL_law_907 (by decide) ?_
  refine g_iadd1 hx hb dL_law_908 ?_
  refine g_sld (q := ((7 * n) + 1)) hC hX hbl hS (by omega) (by omega) dL_law_909 ?_
  refine lv_aload_n hx hb dL_law_910 rfl (lv_at hl 1 rfl) ?_
  refine lv_iload hx hb dL_law_911 (lv_at hl 0 rfl) ?_
  refine lv_iconst (v := 2) hx hb dL_law_913 (by decide) ?_
  refine g_iaddk 2 hx hb dL_law_914 ?_
  refine g_sld (q := ((7 * n) + 2)) hC hX hbl hS (by omega) (by omega) dL_law_915 ?_
  refine lv_aload_n hx hb dL_law_916 rfl (lv_at hl 4 rfl) ?_
  refine g_cWi (k2 := cells + 2) (n2 := slots + 12) (g_runSH (n := 4) (rest := []) hC (w_fault hE (α := α) (ξ := ξ) (M := M) (N := N) (B := lB β o1 o2) (xs ((7 * n) + 1)) (xs ((7 * n) + 2)) (o := o1) (f0 := f1) (Or.inr (Or.inl rfl)) hst.2.2.1) k_0 k_551 (by decide +kernel) k_549 k_550 ⟨hRB, h1⟩ rfl hl.1 dL_law_917 ⟨Nat.le_of_ble_eq_true rfl, Nat.le_of_ble_eq_true rfl⟩ ⟨by show cells + 0 + 2 ≤ 601024; omega, by show slots + 0 + 12 ≤ 7293034; omega⟩ rfl (Nat.le_of_ble_eq_true rfl)) hS (fun q h => h.elim (fun h => h.1) (fun h => by rw [h]; exact hst.2.2.1)) (by show cells + 0 + 2 = cells + 2; omega) (by show slots + 0 + 12 = slots + 12; omega) (fun r1_ H lo h hz_ hk_ hS => ?_)
  obtain ⟨hr1, α1, M1, g1, hRB1, hm1, ha1, h1n, hv1⟩ := h
  obtain ⟨hR, h2⟩ := hst.x hR h2 hk_
  have h1 := h1n
  obtain ⟨kc, hkc⟩ : ∃ kc, kc = kFault (K 1) (xs ((7 * n) + 1)) (xs ((7 * n) + 2)) := ⟨_, rfl⟩
  have hkx := (lk_fault hK (xs ((7 * n) + 1)) (xs ((7 * n) + 2))).1
  rw [← hkc] at hkx
  rw [hkx] at hr1 hv1 hRB1 hm1
  subst hr1
  have hk5 : kc ≤ 4 := by rw [hkc]; unfold kFault; exact (cif_le (by decide) (cif_le (by decide) (by decide)))
  refine lv_istore (lv' := [(6, .int (nI kc)), (5, .int (nI (7 * n))), (0, .ref b), (1, .ref (α 3 0)), (2, .ref (β 19)), (3, .ref o1), (4, .ref o2)]) hx hb dL_law_920 hl (by decide) rfl (fun ls hl => ?_)
  refine lv_aload_n hx hb dL_law_922 rfl (lv_at hl 4 rfl) ?_
  refine lv_aload_n hx hb dL_law_923 rfl (lv_at hl 2 rfl) ?_
  refine lv_iload hx hb dL_law_924 (lv_at hl 1 rfl) ?_
  refine lv_iconst (v := 1) hx hb dL_law_926 (by decide) ?_
  refine g_iadd1 hx hb dL_law_927 ?_
  refine g_sld (q := ((7 * n) + 1)) hC hX hbl hS (by omega) (by omega) dL_law_928 ?_
  refine lv_aload_n hx hb dL_law_929 rfl (lv_at hl 2 rfl) ?_
  refine lv_iload hx hb dL_law_930 (lv_at hl 1 rfl) ?_
  refine lv_iconst (v := 2) hx hb dL_law_932 (by decide) ?_
  refine g_iaddk 2 hx hb dL_law_933 ?_
  refine g_sld (q := ((7 * n) + 2)) hC hX hbl hS (by omega) (by omega) dL_law_934 ?_
  refine g_cWi (k2 := cells + 2) (n2 := slots + 12) (g_runV (rest := []) hC (c_X5_fault hE (β := β) (μ := μ) (K := K) (dp := dp) (th := th) hK.mi (xs ((7 * n) + 1)) (xs ((7 * n) + 2))) Y_X5_fault k_1151 I_X5_fault V_X5_fault hR.obj rfl hR rfl hl.1 dL_law_935 ⟨Nat.le_of_ble_eq_true rfl, Nat.le_of_ble_eq_true rfl⟩ ⟨by show cells + 2 + 0 ≤ 601024; omega, by show slots + 12 + 0 ≤ 7293034; omega⟩ rfl (Nat.le_of_ble_eq_true rfl)) hS (fun q ⟨k, hk, e⟩ => by rw [e]; exact (hst.2.1 k hk).2.2) (by show cells + 2 + 0 = cells + 2; omega) (by show slots + 12 + 0 = slots + 12; omega) (fun r2_ H lo h hz_ hk_ hS => ?_)
  obtain ⟨dp1, hR, hv2⟩ := h
  rw [← hkc] at hR hv2
  obtain ⟨hRB1, h1, h2⟩ := hst.m hRB1 h1 h2 hz_ hk_
  refine lv_istore (lv' := [(7, .int r2_), (6, .int (nI kc)), (5, .int (nI (7 * n))), (0, .ref b), (1, .ref (α 3 0)), (2, .ref (β 19)), (3, .ref o1), (4, .ref o2)]) hx hb dL_law_938 hl (by decide) rfl (fun ls hl => ?_)
  refine lv_aload_n hx hb dL_law_940 rfl (lv_at hl 5 rfl) ?_
  refine g_cRi (k2 := cells + 2) (n2 := slots + 12) (g_runV (rest := []) hC (c_X5_thrown hE (β := β) (dp := dp1) (th := nI kc)) Y_X5_thrown k_1076 I_X5_thrown V_X5_thrown hR.obj rfl hR rfl hl.1 dL_law_941 ⟨Nat.le_of_ble_eq_true rfl, Nat.le_of_ble_eq_true rfl⟩ ⟨by show cells + 2 + 0 ≤ 601024; omega, by show slots + 12 + 0 ≤ 7293034; omega⟩ rfl (Nat.le_of_ble_eq_true rfl)) (by show cells + 2 + 0 = cells + 2; omega) (by show slots + 12 + 0 = slots + 12; omega) g_no (fun r3_ h => ?_)
  obtain rfl := h
  refine lv_iload hx hb dL_law_944 (lv_at hl 1 rfl) ?_
  refine lv_icmp_eq (tgt := 951) hx hb dL_law_946 (by decide) (fun c1_ => ?_) (fun c1_ => ?_)
  · refine lv_iload hx hb dL_law_951 (lv_at hl 1 rfl) ?_
    refine lv_if_ne (tgt := 968) hx hb dL_law_953 (by decide) (fun c2_ => ?_) (fun c2_ => ?_)
    · have q3_ : ¬ kc = 0 := fun z => c2_ (congrArg nI z)
      refine lv_goto (tgt := 2472) hx hb dL_law_968 (by decide) ?_
      exact W.widen (k := cells + 16) (n := slots + 3000) (by omega) (by omega) (kk H lo ls (LI.fin (M := M) hRB1 ha1 hm1 hR h1 h2 hK (fun hc => hK) (by omega) (by first | (show N 2 + 1 ≤ n + 1; omega) | (show N 2 ≤ n + 1; omega))) hS (lv_sub hl [2, 3, 4, 5, 6, 7] rfl))
    · have q3_ : kc = 0 := (nI_eq (by omega) (by omega)).mp c2_
      have hq0 : kc = 0 := (nI_eq (by omega) (by omega)).mp c2_
      refine lv_aload_n hx hb dL_law_956 rfl (lv_at hl 6 rfl) ?_
      refine lv_iconst (v := 0) hx hb dL_law_957 (by decide) ?_
      obtain ⟨rx, hvx, hg1⟩ := hv1 hq0
      have hvb := hv2 hq0
      have hEq : g1 0 = (r2_).toInt64 := by rw [hg1, hvx, hvb, ((lk_fault hK (xs ((7 * n) + 1)) (xs ((7 * n) + 2))).2 (hkc.symm.trans hq0))]
      refine g_lald (n := 1) (j := 0) hC h1 (by decide) (by decide) dL_law_958 ?_
      refine lv_iload hx hb dL_law_959 (lv_at hl 0 rfl) ?_
      refine lv_i2l (v := (r2_).toInt64) hx hb dL_law_961 rfl ?_
      refine g_lcmp hx hb hEq dL_law_962 ?_
      refine lv_if_eq (tgt := 968) hx hb dL_law_963 (by decide) (fun c4_ => ?_) (fun c4_ => ?_)
      · refine lv_goto (tgt := 2472) hx hb dL_law_968 (by decide) ?_
        exact W.widen (k := cells + 16) (n := slots + 3000) (by omega) (by omega) (kk H lo ls (LI.fin (M := M) hRB1 ha1 hm1 hR h1 h2 hK (fun hc => hK) (by omega) (by first | (show N 2 + 1 ≤ n + 1; omega) | (show N 2 ≤ n + 1; omega))) hS (lv_sub hl [2, 3, 4, 5, 6, 7] rfl))
      · exact absurd (by decide) c4_
  · exact absurd rfl c1_
set_option maxHeartbeats 4000000 in
set_option maxRecDepth 100000 in
theorem q_faultDepth {p_ : Program} {l : Launch} {e_ : Env} {s : State} {m : MethodId} {args : Array Value} {below : List Frame} {meth : Method} {c : Code} {Q : State → Prop} {E : gV} (hE : gOK l E) {β : Nat → Nat} {a0 o1 o2 b L : Nat} {xs : Nat → Int32} (hst : lS E β o1 o2) (hL : L ≤ 3584) (hX : va_X b L xs s E.2.1.heap) (hbl : b < E.2.1.heap.size) (hC : gC l E p_ s m meth c RL cL_law 8) {n cells slots : Nat} {H : Heap} {lo : List Loc} {ls : Array Slot} (hn : n < 512) (hi : 7 * n + 7 ≤ L) (hc1 : cells + 16 ≤ 601024) (hc2 : slots + 3000 ≤ 7293034) (hI : LI E β a0 o1 o2 n H) (hS : va_S (gA0 E) E.2.1.heap H lo) (hl : lv_has ls 8 [(5, .int (nI (7 * n))), (0, .ref b), (1, .ref a0), (2, .ref (β 19)), (3, .ref o1), (4, .ref o2)])
    (kk : ∀ (H1 : Heap) (lo1 : List Loc) (ls1 : Array Slot), LI E β a0 o1 o2 (n + 1) H1 → va_S (gA0 E) E.2.1.heap H1 lo1 → lv_has ls1 8 [(5, .int (nI (7 * n))), (0, .ref b), (1, .ref a0), (2, .ref (β 19)), (3, .ref o1), (4, .ref o2)] → W p_ l e_ room_1 s m args below meth c H1 lo1 (cells + 16) (slots + 3000) Q (F0 m 2472 ls1 [])) : W p_ l e_ room_1 s m args below meth c H lo cells slots Q (F0 m 971 ls []) := by
  have hx := hC.2.2.1
  have hb := hC.2.2.2.1
  obtain ⟨α, ξ, M, N, μ, K, dp, th, f1, f2, hRB, rfl, hR, h1, h2, hK, hN2⟩ := hI
  refine lv_aload_n hx hb dL_law_971 rfl (lv_at hl 2 rfl) ?_
  refine lv_aload_n hx hb dL_law_972 rfl (lv_at hl 1 rfl) ?_
  refine lv_iload hx hb dL_law_973 (lv_at hl 0 rfl) ?_
  refine lv_iconst (v := 1) hx hb dL_law_975 (by decide) ?_
  refine g_iadd1 hx hb dL_law_976 ?_
  refine g_sld (q := ((7 * n) + 1)) hC hX hbl hS (by omega) (by omega) dL_law_977 ?_
  refine lv_aload_n hx hb dL_law_978 rfl (lv_at hl 1 rfl) ?_
  refine lv_iload hx hb dL_law_979 (lv_at hl 0 rfl) ?_
  refine lv_iconst (v := 2) hx hb dL_law_981 (by decide) ?_
  refine g_iaddk 2 hx hb dL_law_982 ?_
  refine g_sld (q := ((7 * n) + 2)) hC hX hbl hS (by omega) (by omega) dL_law_983 ?_
  refine lv_aload_n hx hb dL_law_984 rfl (lv_at hl 4 rfl) ?_
  refine g_cWi (k2 := cells + 3) (n2 := slots + 18) (g_runSH (n := 4) (rest := []) hC (w_faultDepth hE (α := α) (ξ := ξ) (M := M) (N := N) (B := lB β o1 o2) (xs ((7 * n) + 1)) (xs ((7 * n) + 2)) (o := o1) (f0 := f1) (Or.inr (Or.inl rfl)) hst.2.2.1) k_0 k_573 (by decide +kernel) k_571 k_572 ⟨hRB, h1⟩ rfl hl.1 dL_law_985 ⟨Nat.le_of_ble_eq_true rfl, Nat.le_of_ble_eq_true rfl⟩ ⟨by show cells + 0 + 3 ≤ 601024; omega, by show slots + 0 + 18 ≤ 7293034; omega⟩ rfl (Nat.le_of_ble_eq_true rfl)) hS (fun q h => h.elim (fun h => h.1) (fun h => by rw [h]; exact hst.2.2.1)) (by show cells + 0 + 3 = cells + 3; omega) (by show slots + 0 + 18 = slots + 18; omega) (fun r1_ H lo h hz_ hk_ hS => ?_)
  obtain ⟨hr1, α1, M1, g1, hRB1, hm1, ha1, h1n, hv1⟩ := h
  obtain ⟨hR, h2⟩ := hst.x hR h2 hk_
  have h1 := h1n
  obtain ⟨kc, hkc⟩ : ∃ kc, kc = kDepth (mv μ) (μ 22 0) (K 1) (xs ((7 * n) + 1)) (xs ((7 * n) + 2)) := ⟨_, rfl⟩
  have hkx := (lk_faultDepth hK (xs ((7 * n) + 1)) (xs ((7 * n) + 2))).1
  rw [← hkc] at hkx
  rw [hkx] at hr1 hv1 hRB1 hm1
  subst hr1
  have hk5 : kc ≤ 4 := by rw [hkc]; unfold kDepth; exact (cif_le (by decide) (cif_le (by decide) (cif_le (by decide) (by decide))))
  refine lv_istore (lv' := [(6, .int (nI kc)), (5, .int (nI (7 * n))), (0, .ref b), (1, .ref (α 3 0)), (2, .ref (β 19)), (3, .ref o1), (4, .ref o2)]) hx hb dL_law_988 hl (by decide) rfl (fun ls hl => ?_)
  refine lv_aload_n hx hb dL_law_990 rfl (lv_at hl 4 rfl) ?_
  refine lv_aload_n hx hb dL_law_991 rfl (lv_at hl 2 rfl) ?_
  refine lv_iload hx hb dL_law_992 (lv_at hl 1 rfl) ?_
  refine lv_iconst (v := 1) hx hb dL_law_994 (by decide) ?_
  refine g_iadd1 hx hb dL_law_995 ?_
  refine g_sld (q := ((7 * n) + 1)) hC hX hbl hS (by omega) (by omega) dL_law_996 ?_
  refine lv_aload_n hx hb dL_law_997 rfl (lv_at hl 2 rfl) ?_
  refine lv_iload hx hb dL_law_998 (lv_at hl 1 rfl) ?_
  refine lv_iconst (v := 2) hx hb dL_law_1000 (by decide) ?_
  refine g_iaddk 2 hx hb dL_law_1001 ?_
  refine g_sld (q := ((7 * n) + 2)) hC hX hbl hS (by omega) (by omega) dL_law_1002 ?_
  refine g_cWi (k2 := cells + 3) (n2 := slots + 18) (g_runV (rest := []) hC (c_X5_faultDepth hE (β := β) (μ := μ) (K := K) (dp := dp) (th := th) hK.mi (xs ((7 * n) + 1)) (xs ((7 * n) + 2))) Y_X5_faultDepth k_1163 I_X5_faultDepth V_X5_faultDepth hR.obj rfl hR rfl hl.1 dL_law_1003 ⟨Nat.le_of_ble_eq_true rfl, Nat.le_of_ble_eq_true rfl⟩ ⟨by show cells + 3 + 0 ≤ 601024; omega, by show slots + 18 + 0 ≤ 7293034; omega⟩ rfl (Nat.le_of_ble_eq_true rfl)) hS (fun q ⟨k, hk, e⟩ => by rw [e]; exact (hst.2.1 k hk).2.2) (by show cells + 3 + 0 = cells + 3; omega) (by show slots + 18 + 0 = slots + 18; omega) (fun r2_ H lo h hz_ hk_ hS => ?_)
  obtain ⟨dp1, hR, hv2⟩ := h
  rw [← hkc] at hR hv2
  obtain ⟨hRB1, h1, h2⟩ := hst.m hRB1 h1 h2 hz_ hk_
  refine lv_istore (lv' := [(7, .int r2_), (6, .int (nI kc)), (5, .int (nI (7 * n))), (0, .ref b), (1, .ref (α 3 0)), (2, .ref (β 19)), (3, .ref o1), (4, .ref o2)]) hx hb dL_law_1006 hl (by decide) rfl (fun ls hl => ?_)
  refine lv_aload_n hx hb dL_law_1008 rfl (lv_at hl 5 rfl) ?_
  refine g_cRi (k2 := cells + 3) (n2 := slots + 18) (g_runV (rest := []) hC (c_X5_thrown hE (β := β) (dp := dp1) (th := nI kc)) Y_X5_thrown k_1076 I_X5_thrown V_X5_thrown hR.obj rfl hR rfl hl.1 dL_law_1009 ⟨Nat.le_of_ble_eq_true rfl, Nat.le_of_ble_eq_true rfl⟩ ⟨by show cells + 3 + 0 ≤ 601024; omega, by show slots + 18 + 0 ≤ 7293034; omega⟩ rfl (Nat.le_of_ble_eq_true rfl)) (by show cells + 3 + 0 = cells + 3; omega) (by show slots + 18 + 0 = slots + 18; omega) g_no (fun r3_ h => ?_)
  obtain rfl := h
  refine lv_iload hx hb dL_law_1012 (lv_at hl 1 rfl) ?_
  refine lv_icmp_eq (tgt := 1019) hx hb dL_law_1014 (by decide) (fun c1_ => ?_) (fun c1_ => ?_)
  · refine lv_iload hx hb dL_law_1019 (lv_at hl 1 rfl) ?_
    refine lv_if_ne (tgt := 1036) hx hb dL_law_1021 (by decide) (fun c2_ => ?_) (fun c2_ => ?_)
    · have q3_ : ¬ kc = 0 := fun z => c2_ (congrArg nI z)
      refine lv_goto (tgt := 2472) hx hb dL_law_1036 (by decide) ?_
      exact W.widen (k := cells + 16) (n := slots + 3000) (by omega) (by omega) (kk H lo ls (LI.fin (M := M) hRB1 ha1 hm1 hR h1 h2 hK (fun hc => hK) (by omega) (by first | (show N 2 + 1 ≤ n + 1; omega) | (show N 2 ≤ n + 1; omega))) hS (lv_sub hl [2, 3, 4, 5, 6, 7] rfl))
    · have q3_ : kc = 0 := (nI_eq (by omega) (by omega)).mp c2_
      have hq0 : kc = 0 := (nI_eq (by omega) (by omega)).mp c2_
      refine lv_aload_n hx hb dL_law_1024 rfl (lv_at hl 6 rfl) ?_
      refine lv_iconst (v := 0) hx hb dL_law_1025 (by decide) ?_
      obtain ⟨rx, hvx, hg1⟩ := hv1 hq0
      have hvb := hv2 hq0
      have hEq : g1 0 = (r2_).toInt64 := by rw [hg1, hvx, hvb, ((lk_faultDepth hK (xs ((7 * n) + 1)) (xs ((7 * n) + 2))).2 (hkc.symm.trans hq0))]
      refine g_lald (n := 1) (j := 0) hC h1 (by decide) (by decide) dL_law_1026 ?_
      refine lv_iload hx hb dL_law_1027 (lv_at hl 0 rfl) ?_
      refine lv_i2l (v := (r2_).toInt64) hx hb dL_law_1029 rfl ?_
      refine g_lcmp hx hb hEq dL_law_1030 ?_
      refine lv_if_eq (tgt := 1036) hx hb dL_law_1031 (by decide) (fun c4_ => ?_) (fun c4_ => ?_)
      · refine lv_goto (tgt := 2472) hx hb dL_law_1036 (by decide) ?_
        exact W.widen (k := cells + 16) (n := slots + 3000) (by omega) (by omega) (kk H lo ls (LI.fin (M := M) hRB1 ha1 hm1 hR h1 h2 hK (fun hc => hK) (by omega) (by first | (show N 2 + 1 ≤ n + 1; omega) | (show N 2 ≤ n + 1; omega))) hS (lv_sub hl [2, 3, 4, 5, 6, 7] rfl))
      · exact absurd (by decide) c4_
  · exact absurd rfl c1_
set_option maxHeartbeats 4000000 in
set_option maxRecDepth 100000 in
theorem q_reach {p_ : Program} {l : Launch} {e_ : Env} {s : State} {m : MethodId} {args : Array Value} {below : List Frame} {meth : Method} {c : Code} {Q : State → Prop} {E : gV} (hE : gOK l E) {β : Nat → Nat} {a0 o1 o2 b L : Nat} {xs : Nat → Int32} (hst : lS E β o1 o2) (hL : L ≤ 3584) (hX : va_X b L xs s E.2.1.heap) (hbl : b < E.2.1.heap.size) (hC : gC l E p_ s m meth c RL cL_law 8) {n cells slots : Nat} {H : Heap} {lo : List Loc} {ls : Array Slot} (hn : n < 512) (hi : 7 * n + 7 ≤ L) (hc1 : cells + 16 ≤ 601024) (hc2 : slots + 3000 ≤ 7293034) (hI : LI E β a0 o1 o2 n H) (hS : va_S (gA0 E) E.2.1.heap H lo) (hl : lv_has ls 8 [(5, .int (nI (7 * n))), (0, .ref b), (1, .ref a0), (2, .ref (β 19)), (3, .ref o1), (4, .ref o2)])
    (kk : ∀ (H1 : Heap) (lo1 : List Loc) (ls1 : Array Slot), LI E β a0 o1 o2 (n + 1) H1 → va_S (gA0 E) E.2.1.heap H1 lo1 → lv_has ls1 8 [(5, .int (nI (7 * n))), (0, .ref b), (1, .ref a0), (2, .ref (β 19)), (3, .ref o1), (4, .ref o2)] → W p_ l e_ room_1 s m args below meth c H1 lo1 (cells + 16) (slots + 3000) Q (F0 m 2472 ls1 [])) : W p_ l e_ room_1 s m args below meth c H lo cells slots Q (F0 m 1039 ls []) := by
  have hx := hC.2.2.1
  have hb := hC.2.2.2.1
  obtain ⟨α, ξ, M, N, μ, K, dp, th, f1, f2, hRB, rfl, hR, h1, h2, hK, hN2⟩ := hI
  refine lv_aload_n hx hb dL_law_1039 rfl (lv_at hl 2 rfl) ?_
  refine lv_aload_n hx hb dL_law_1040 rfl (lv_at hl 1 rfl) ?_
  refine lv_iload hx hb dL_law_1041 (lv_at hl 0 rfl) ?_
  refine lv_iconst (v := 1) hx hb dL_law_1043 (by decide) ?_
  refine g_iadd1 hx hb dL_law_1044 ?_
  refine g_sld (q := ((7 * n) + 1)) hC hX hbl hS (by omega) (by omega) dL_law_1045 ?_
  refine lv_aload_n hx hb dL_law_1046 rfl (lv_at hl 4 rfl) ?_
  refine g_cWi (k2 := cells + 1) (n2 := slots + 6) (g_runSH (n := 3) (rest := []) hC (w_reach hE (α := α) (ξ := ξ) (M := M) (N := N) (B := lB β o1 o2) (xs ((7 * n) + 1)) (o := o1) (f0 := f1) (Or.inr (Or.inl rfl)) hst.2.2.1) k_0 k_601 (by decide +kernel) k_599 k_600 ⟨hRB, h1⟩ rfl hl.1 dL_law_1047 ⟨Nat.le_of_ble_eq_true rfl, Nat.le_of_ble_eq_true rfl⟩ ⟨by show cells + 0 + 1 ≤ 601024; omega, by show slots + 0 + 6 ≤ 7293034; omega⟩ rfl (Nat.le_of_ble_eq_true rfl)) hS (fun q h => h.elim (fun h => h.1) (fun h => by rw [h]; exact hst.2.2.1)) (by show cells + 0 + 1 = cells + 1; omega) (by show slots + 0 + 6 = slots + 6; omega) (fun r1_ H lo h hz_ hk_ hS => ?_)
  obtain ⟨hr1, α1, M1, g1, hRB1, hm1, ha1, h1n, hv1⟩ := h
  obtain ⟨hR, h2⟩ := hst.x hR h2 hk_
  have h1 := h1n
  obtain ⟨kc, hkc⟩ : ∃ kc, kc = kPow (K 1) (xs ((7 * n) + 1)) := ⟨_, rfl⟩
  have hkx := (lk_reach hK (xs ((7 * n) + 1))).1
  rw [← hkc] at hkx
  rw [hkx] at hr1 hv1 hRB1 hm1
  subst hr1
  have hk5 : kc ≤ 4 := by rw [hkc]; unfold kPow; exact (cif_le (by decide) (by decide))
  refine lv_istore (lv' := [(6, .int (nI kc)), (5, .int (nI (7 * n))), (0, .ref b), (1, .ref (α 3 0)), (2, .ref (β 19)), (3, .ref o1), (4, .ref o2)]) hx hb dL_law_1050 hl (by decide) rfl (fun ls hl => ?_)
  refine lv_aload_n hx hb dL_law_1052 rfl (lv_at hl 4 rfl) ?_
  refine lv_aload_n hx hb dL_law_1053 rfl (lv_at hl 2 rfl) ?_
  refine lv_iload hx hb dL_law_1054 (lv_at hl 1 rfl) ?_
  refine lv_iconst (v := 1) hx hb dL_law_1056 (by decide) ?_
  refine g_iadd1 hx hb dL_law_1057 ?_
  refine g_sld (q := ((7 * n) + 1)) hC hX hbl hS (by omega) (by omega) dL_law_1058 ?_
  refine g_cWi (k2 := cells + 1) (n2 := slots + 6) (g_runV (rest := []) hC (c_X5_reach hE (β := β) (μ := μ) (K := K) (dp := dp) (th := th) hK.mi (xs ((7 * n) + 1))) Y_X5_reach k_1167 I_X5_reach V_X5_reach hR.obj rfl hR rfl hl.1 dL_law_1059 ⟨Nat.le_of_ble_eq_true rfl, Nat.le_of_ble_eq_true rfl⟩ ⟨by show cells + 1 + 0 ≤ 601024; omega, by show slots + 6 + 0 ≤ 7293034; omega⟩ rfl (Nat.le_of_ble_eq_true rfl)) hS (fun q ⟨k, hk, e⟩ => by rw [e]; exact (hst.2.1 k hk).2.2) (by show cells + 1 + 0 = cells + 1; omega) (by show slots + 6 + 0 = slots + 6; omega) (fun r2_ H lo h hz_ hk_ hS => ?_)
  obtain ⟨dp1, hR, hv2⟩ := h
  rw [← hkc] at hR hv2
  obtain ⟨hRB1, h1, h2⟩ := hst.m hRB1 h1 h2 hz_ hk_
  refine lv_istore (lv' := [(7, .int r2_), (6, .int (nI kc)), (5, .int (nI (7 * n))), (0, .ref b), (1, .ref (α 3 0)), (2, .ref (β 19)), (3, .ref o1), (4, .ref o2)]) hx hb dL_law_1062 hl (by decide) rfl (fun ls hl => ?_)
  refine lv_aload_n hx hb dL_law_1064 rfl (lv_at hl 5 rfl) ?_
  refine g_cRi (k2 := cells + 1) (n2 := slots + 6) (g_runV (rest := []) hC (c_X5_thrown hE (β := β) (dp := dp1) (th := nI kc)) Y_X5_thrown k_1076 I_X5_thrown V_X5_thrown hR.obj rfl hR rfl hl.1 dL_law_1065 ⟨Nat.le_of_ble_eq_true rfl, Nat.le_of_ble_eq_true rfl⟩ ⟨by show cells + 1 + 0 ≤ 601024; omega, by show slots + 6 + 0 ≤ 7293034; omega⟩ rfl (Nat.le_of_ble_eq_true rfl)) (by show cells + 1 + 0 = cells + 1; omega) (by show slots + 6 + 0 = slots + 6; omega) g_no (fun r3_ h => ?_)
  obtain rfl := h
  refine lv_iload hx hb dL_law_1068 (lv_at hl 1 rfl) ?_
  refine lv_icmp_eq (tgt := 1075) hx hb dL_law_1070 (by decide) (fun c1_ => ?_) (fun c1_ => ?_)
  · refine lv_iload hx hb dL_law_1075 (lv_at hl 1 rfl) ?_
    refine lv_if_ne (tgt := 1092) hx hb dL_law_1077 (by decide) (fun c2_ => ?_) (fun c2_ => ?_)
    · have q3_ : ¬ kc = 0 := fun z => c2_ (congrArg nI z)
      refine lv_goto (tgt := 2472) hx hb dL_law_1092 (by decide) ?_
      exact W.widen (k := cells + 16) (n := slots + 3000) (by omega) (by omega) (kk H lo ls (LI.fin (M := M) hRB1 ha1 hm1 hR h1 h2 hK (fun hc => hK) (by omega) (by first | (show N 2 + 1 ≤ n + 1; omega) | (show N 2 ≤ n + 1; omega))) hS (lv_sub hl [2, 3, 4, 5, 6, 7] rfl))
    · have q3_ : kc = 0 := (nI_eq (by omega) (by omega)).mp c2_
      have hq0 : kc = 0 := (nI_eq (by omega) (by omega)).mp c2_
      refine lv_aload_n hx hb dL_law_1080 rfl (lv_at hl 6 rfl) ?_
      refine lv_iconst (v := 0) hx hb dL_law_1081 (by decide) ?_
      obtain ⟨rx, hvx, hg1⟩ := hv1 hq0
      have hvb := hv2 hq0
      have hEq : g1 0 = (r2_).toInt64 := by rw [hg1, hvx, hvb, ((lk_reach hK (xs ((7 * n) + 1))).2 (hkc.symm.trans hq0))]
      refine g_lald (n := 1) (j := 0) hC h1 (by decide) (by decide) dL_law_1082 ?_
      refine lv_iload hx hb dL_law_1083 (lv_at hl 0 rfl) ?_
      refine lv_i2l (v := (r2_).toInt64) hx hb dL_law_1085 rfl ?_
      refine g_lcmp hx hb hEq dL_law_1086 ?_
      refine lv_if_eq (tgt := 1092) hx hb dL_law_1087 (by decide) (fun c4_ => ?_) (fun c4_ => ?_)
      · refine lv_goto (tgt := 2472) hx hb dL_law_1092 (by decide) ?_
        exact W.widen (k := cells + 16) (n := slots + 3000) (by omega) (by omega) (kk H lo ls (LI.fin (M := M) hRB1 ha1 hm1 hR h1 h2 hK (fun hc => hK) (by omega) (by first | (show N 2 + 1 ≤ n + 1; omega) | (show N 2 ≤ n + 1; omega))) hS (lv_sub hl [2, 3, 4, 5, 6, 7] rfl))
      · exact absurd (by decide) c4_
  · exact absurd rfl c1_
set_option maxHeartbeats 4000000 in
set_option maxRecDepth 100000 in
theorem q_canSign {p_ : Program} {l : Launch} {e_ : Env} {s : State} {m : MethodId} {args : Array Value} {below : List Frame} {meth : Method} {c : Code} {Q : State → Prop} {E : gV} (hE : gOK l E) {β : Nat → Nat} {a0 o1 o2 b L : Nat} {xs : Nat → Int32} (hst : lS E β o1 o2) (hL : L ≤ 3584) (hX : va_X b L xs s E.2.1.heap) (hbl : b < E.2.1.heap.size) (hC : gC l E p_ s m meth c RL cL_law 8) {n cells slots : Nat} {H : Heap} {lo : List Loc} {ls : Array Slot} (hn : n < 512) (hi : 7 * n + 7 ≤ L) (hc1 : cells + 16 ≤ 601024) (hc2 : slots + 3000 ≤ 7293034) (hI : LI E β a0 o1 o2 n H) (hS : va_S (gA0 E) E.2.1.heap H lo) (hl : lv_has ls 8 [(5, .int (nI (7 * n))), (0, .ref b), (1, .ref a0), (2, .ref (β 19)), (3, .ref o1), (4, .ref o2)])
    (kk : ∀ (H1 : Heap) (lo1 : List Loc) (ls1 : Array Slot), LI E β a0 o1 o2 (n + 1) H1 → va_S (gA0 E) E.2.1.heap H1 lo1 → lv_has ls1 8 [(5, .int (nI (7 * n))), (0, .ref b), (1, .ref a0), (2, .ref (β 19)), (3, .ref o1), (4, .ref o2)] → W p_ l e_ room_1 s m args below meth c H1 lo1 (cells + 16) (slots + 3000) Q (F0 m 2472 ls1 [])) : W p_ l e_ room_1 s m args below meth c H lo cells slots Q (F0 m 1095 ls []) := by
  have hx := hC.2.2.1
  have hb := hC.2.2.2.1
  obtain ⟨α, ξ, M, N, μ, K, dp, th, f1, f2, hRB, rfl, hR, h1, h2, hK, hN2⟩ := hI
  refine lv_aload_n hx hb dL_law_1095 rfl (lv_at hl 2 rfl) ?_
  refine lv_aload_n hx hb dL_law_1096 rfl (lv_at hl 1 rfl) ?_
  refine lv_iload hx hb dL_law_1097 (lv_at hl 0 rfl) ?_
  refine lv_iconst (v := 1) hx hb dL_law_1099 (by decide) ?_
  refine g_iadd1 hx hb dL_law_1100 ?_
  refine g_sld (q := ((7 * n) + 1)) hC hX hbl hS (by omega) (by omega) dL_law_1101 ?_
  refine lv_aload_n hx hb dL_law_1102 rfl (lv_at hl 1 rfl) ?_
  refine lv_iload hx hb dL_law_1103 (lv_at hl 0 rfl) ?_
  refine lv_iconst (v := 2) hx hb dL_law_1105 (by decide) ?_
  refine g_iaddk 2 hx hb dL_law_1106 ?_
  refine g_sld (q := ((7 * n) + 2)) hC hX hbl hS (by omega) (by omega) dL_law_1107 ?_
  refine lv_aload_n hx hb dL_law_1108 rfl (lv_at hl 1 rfl) ?_
  refine lv_iload hx hb dL_law_1109 (lv_at hl 0 rfl) ?_
  refine lv_iconst (v := 3) hx hb dL_law_1111 (by decide) ?_
  refine g_iaddk 3 hx hb dL_law_1112 ?_
  refine g_sld (q := ((7 * n) + 3)) hC hX hbl hS (by omega) (by omega) dL_law_1113 ?_
  refine lv_aload_n hx hb dL_law_1114 rfl (lv_at hl 4 rfl) ?_
  refine g_cWi (k2 := cells + 3) (n2 := slots + 18) (g_runSH (n := 5) (rest := []) hC (w_canSign hE (α := α) (ξ := ξ) (M := M) (N := N) (B := lB β o1 o2) (xs ((7 * n) + 1)) (xs ((7 * n) + 2)) (xs ((7 * n) + 3)) (o := o1) (f0 := f1) (Or.inr (Or.inl rfl)) hst.2.2.1) k_0 k_614 (by decide +kernel) k_612 k_613 ⟨hRB, h1⟩ rfl hl.1 dL_law_1115 ⟨Nat.le_of_ble_eq_true rfl, Nat.le_of_ble_eq_true rfl⟩ ⟨by show cells + 0 + 3 ≤ 601024; omega, by show slots + 0 + 18 ≤ 7293034; omega⟩ rfl (Nat.le_of_ble_eq_true rfl)) hS (fun q h => h.elim (fun h => h.1) (fun h => by rw [h]; exact hst.2.2.1)) (by show cells + 0 + 3 = cells + 3; omega) (by show slots + 0 + 18 = slots + 18; omega) (fun r1_ H lo h hz_ hk_ hS => ?_)
  obtain ⟨hr1, α1, M1, g1, hRB1, hm1, ha1, h1n, hv1⟩ := h
  obtain ⟨hR, h2⟩ := hst.x hR h2 hk_
  have h1 := h1n
  obtain ⟨kc, hkc⟩ : ∃ kc, kc = kCan (K 0) (xs ((7 * n) + 1)) (xs ((7 * n) + 2)) (xs ((7 * n) + 3)) := ⟨_, rfl⟩
  have hkx := (lk_canSign hK (xs ((7 * n) + 1)) (xs ((7 * n) + 2)) (xs ((7 * n) + 3))).1
  rw [← hkc] at hkx
  rw [hkx] at hr1 hv1 hRB1 hm1
  subst hr1
  have hk5 : kc ≤ 4 := by rw [hkc]; unfold kCan; exact (cif_le (by decide) (cif_le (by decide) (by decide)))
  refine lv_istore (lv' := [(6, .int (nI kc)), (5, .int (nI (7 * n))), (0, .ref b), (1, .ref (α 3 0)), (2, .ref (β 19)), (3, .ref o1), (4, .ref o2)]) hx hb dL_law_1118 hl (by decide) rfl (fun ls hl => ?_)
  refine lv_aload_n hx hb dL_law_1120 rfl (lv_at hl 4 rfl) ?_
  refine lv_aload_n hx hb dL_law_1121 rfl (lv_at hl 2 rfl) ?_
  refine lv_iload hx hb dL_law_1122 (lv_at hl 1 rfl) ?_
  refine lv_iconst (v := 1) hx hb dL_law_1124 (by decide) ?_
  refine g_iadd1 hx hb dL_law_1125 ?_
  refine g_sld (q := ((7 * n) + 1)) hC hX hbl hS (by omega) (by omega) dL_law_1126 ?_
  refine lv_aload_n hx hb dL_law_1127 rfl (lv_at hl 2 rfl) ?_
  refine lv_iload hx hb dL_law_1128 (lv_at hl 1 rfl) ?_
  refine lv_iconst (v := 2) hx hb dL_law_1130 (by decide) ?_
  refine g_iaddk 2 hx hb dL_law_1131 ?_
  refine g_sld (q := ((7 * n) + 2)) hC hX hbl hS (by omega) (by omega) dL_law_1132 ?_
  refine lv_aload_n hx hb dL_law_1133 rfl (lv_at hl 2 rfl) ?_
  refine lv_iload hx hb dL_law_1134 (lv_at hl 1 rfl) ?_
  refine lv_iconst (v := 3) hx hb dL_law_1136 (by decide) ?_
  refine g_iaddk 3 hx hb dL_law_1137 ?_
  refine g_sld (q := ((7 * n) + 3)) hC hX hbl hS (by omega) (by omega) dL_law_1138 ?_
  refine g_cWi (k2 := cells + 3) (n2 := slots + 18) (g_runV (rest := []) hC (c_X5_canSign hE (β := β) (μ := μ) (K := K) (dp := dp) (th := th) hK.mi (xs ((7 * n) + 1)) (xs ((7 * n) + 2)) (xs ((7 * n) + 3))) Y_X5_canSign k_1172 I_X5_canSign V_X5_canSign hR.obj rfl hR rfl hl.1 dL_law_1139 ⟨Nat.le_of_ble_eq_true rfl, Nat.le_of_ble_eq_true rfl⟩ ⟨by show cells + 3 + 0 ≤ 601024; omega, by show slots + 18 + 0 ≤ 7293034; omega⟩ rfl (Nat.le_of_ble_eq_true rfl)) hS (fun q ⟨k, hk, e⟩ => by rw [e]; exact (hst.2.1 k hk).2.2) (by show cells + 3 + 0 = cells + 3; omega) (by show slots + 18 + 0 = slots + 18; omega) (fun r2_ H lo h hz_ hk_ hS => ?_)
  obtain ⟨dp1, hR, hv2⟩ := h
  rw [← hkc] at hR hv2
  obtain ⟨hRB1, h1, h2⟩ := hst.m hRB1 h1 h2 hz_ hk_
  refine lv_istore (lv' := [(7, .int r2_), (6, .int (nI kc)), (5, .int (nI (7 * n))), (0, .ref b), (1, .ref (α 3 0)), (2, .ref (β 19)), (3, .ref o1), (4, .ref o2)]) hx hb dL_law_1142 hl (by decide) rfl (fun ls hl => ?_)
  refine lv_aload_n hx hb dL_law_1144 rfl (lv_at hl 5 rfl) ?_
  refine g_cRi (k2 := cells + 3) (n2 := slots + 18) (g_runV (rest := []) hC (c_X5_thrown hE (β := β) (dp := dp1) (th := nI kc)) Y_X5_thrown k_1076 I_X5_thrown V_X5_thrown hR.obj rfl hR rfl hl.1 dL_law_1145 ⟨Nat.le_of_ble_eq_true rfl, Nat.le_of_ble_eq_true rfl⟩ ⟨by show cells + 3 + 0 ≤ 601024; omega, by show slots + 18 + 0 ≤ 7293034; omega⟩ rfl (Nat.le_of_ble_eq_true rfl)) (by show cells + 3 + 0 = cells + 3; omega) (by show slots + 18 + 0 = slots + 18; omega) g_no (fun r3_ h => ?_)
  obtain rfl := h
  refine lv_iload hx hb dL_law_1148 (lv_at hl 1 rfl) ?_
  refine lv_icmp_eq (tgt := 1155) hx hb dL_law_1150 (by decide) (fun c1_ => ?_) (fun c1_ => ?_)
  · refine lv_iload hx hb dL_law_1155 (lv_at hl 1 rfl) ?_
    refine lv_if_ne (tgt := 1179) hx hb dL_law_1157 (by decide) (fun c2_ => ?_) (fun c2_ => ?_)
    · have q3_ : ¬ kc = 0 := fun z => c2_ (congrArg nI z)
      refine lv_goto (tgt := 2472) hx hb dL_law_1179 (by decide) ?_
      exact W.widen (k := cells + 16) (n := slots + 3000) (by omega) (by omega) (kk H lo ls (LI.fin (M := M) hRB1 ha1 hm1 hR h1 h2 hK (fun hc => hK) (by omega) (by first | (show N 2 + 1 ≤ n + 1; omega) | (show N 2 ≤ n + 1; omega))) hS (lv_sub hl [2, 3, 4, 5, 6, 7] rfl))
    · have q3_ : kc = 0 := (nI_eq (by omega) (by omega)).mp c2_
      have hq0 : kc = 0 := (nI_eq (by omega) (by omega)).mp c2_
      refine lv_aload_n hx hb dL_law_1160 rfl (lv_at hl 6 rfl) ?_
      refine lv_iconst (v := 0) hx hb dL_law_1161 (by decide) ?_
      obtain ⟨rx, hvx, hg1⟩ := hv1 hq0
      have hvb := hv2 hq0
      have hEq : g1 0 = (if r2_ = 0 then 0 else 1) := by rw [hg1, bz_eq hvx hvb ((lk_canSign hK (xs ((7 * n) + 1)) (xs ((7 * n) + 2)) (xs ((7 * n) + 3))).2 (hkc.symm.trans hq0))]
      refine g_lald (n := 1) (j := 0) hC h1 (by decide) (by decide) dL_law_1162 ?_
      refine lv_iload hx hb dL_law_1163 (lv_at hl 0 rfl) ?_
      refine lv_if_eq (tgt := 1172) hx hb dL_law_1165 (by decide) (fun c4_ => ?_) (fun c4_ => ?_)
      · refine lv_lconst (v := 0) hx hb dL_law_1172 (by decide) ?_
        refine g_lcmp hx hb (hEq.trans (if_pos c4_)) dL_law_1173 ?_
        refine lv_if_eq (tgt := 1179) hx hb dL_law_1174 (by decide) (fun c6_ => ?_) (fun c6_ => ?_)
        · refine lv_goto (tgt := 2472) hx hb dL_law_1179 (by decide) ?_
          exact W.widen (k := cells + 16) (n := slots + 3000) (by omega) (by omega) (kk H lo ls (LI.fin (M := M) hRB1 ha1 hm1 hR h1 h2 hK (fun hc => hK) (by omega) (by first | (show N 2 + 1 ≤ n + 1; omega) | (show N 2 ≤ n + 1; omega))) hS (lv_sub hl [2, 3, 4, 5, 6, 7] rfl))
        · exact absurd (by decide) c6_
      · refine lv_lconst (v := 1) hx hb dL_law_1168 (by decide) ?_
        refine lv_goto (tgt := 1173) hx hb dL_law_1169 (by decide) ?_
        refine g_lcmp hx hb (hEq.trans (if_neg c4_)) dL_law_1173 ?_
        refine lv_if_eq (tgt := 1179) hx hb dL_law_1174 (by decide) (fun c7_ => ?_) (fun c7_ => ?_)
        · refine lv_goto (tgt := 2472) hx hb dL_law_1179 (by decide) ?_
          exact W.widen (k := cells + 16) (n := slots + 3000) (by omega) (by omega) (kk H lo ls (LI.fin (M := M) hRB1 ha1 hm1 hR h1 h2 hK (fun hc => hK) (by omega) (by first | (show N 2 + 1 ≤ n + 1; omega) | (show N 2 ≤ n + 1; omega))) hS (lv_sub hl [2, 3, 4, 5, 6, 7] rfl))
        · exact absurd (by decide) c7_
  · exact absurd rfl c1_
set_option maxHeartbeats 4000000 in
set_option maxRecDepth 100000 in
theorem q_canSignTogether {p_ : Program} {l : Launch} {e_ : Env} {s : State} {m : MethodId} {args : Array Value} {below : List Frame} {meth : Method} {c : Code} {Q : State → Prop} {E : gV} (hE : gOK l E) {β : Nat → Nat} {a0 o1 o2 b L : Nat} {xs : Nat → Int32} (hst : lS E β o1 o2) (hL : L ≤ 3584) (hX : va_X b L xs s E.2.1.heap) (hbl : b < E.2.1.heap.size) (hC : gC l E p_ s m meth c RL cL_law 8) {n cells slots : Nat} {H : Heap} {lo : List Loc} {ls : Array Slot} (hn : n < 512) (hi : 7 * n + 7 ≤ L) (hc1 : cells + 16 ≤ 601024) (hc2 : slots + 3000 ≤ 7293034) (hI : LI E β a0 o1 o2 n H) (hS : va_S (gA0 E) E.2.1.heap H lo) (hl : lv_has ls 8 [(5, .int (nI (7 * n))), (0, .ref b), (1, .ref a0), (2, .ref (β 19)), (3, .ref o1), (4, .ref o2)])
    (kk : ∀ (H1 : Heap) (lo1 : List Loc) (ls1 : Array Slot), LI E β a0 o1 o2 (n + 1) H1 → va_S (gA0 E) E.2.1.heap H1 lo1 → lv_has ls1 8 [(5, .int (nI (7 * n))), (0, .ref b), (1, .ref a0), (2, .ref (β 19)), (3, .ref o1), (4, .ref o2)] → W p_ l e_ room_1 s m args below meth c H1 lo1 (cells + 16) (slots + 3000) Q (F0 m 2472 ls1 [])) : W p_ l e_ room_1 s m args below meth c H lo cells slots Q (F0 m 1182 ls []) := by
  have hx := hC.2.2.1
  have hb := hC.2.2.2.1
  obtain ⟨α, ξ, M, N, μ, K, dp, th, f1, f2, hRB, rfl, hR, h1, h2, hK, hN2⟩ := hI
  refine lv_aload_n hx hb dL_law_1182 rfl (lv_at hl 2 rfl) ?_
  refine lv_aload_n hx hb dL_law_1183 rfl (lv_at hl 1 rfl) ?_
  refine lv_iload hx hb dL_law_1184 (lv_at hl 0 rfl) ?_
  refine lv_iconst (v := 1) hx hb dL_law_1186 (by decide) ?_
  refine g_iadd1 hx hb dL_law_1187 ?_
  refine g_sld (q := ((7 * n) + 1)) hC hX hbl hS (by omega) (by omega) dL_law_1188 ?_
  refine lv_aload_n hx hb dL_law_1189 rfl (lv_at hl 1 rfl) ?_
  refine lv_iload hx hb dL_law_1190 (lv_at hl 0 rfl) ?_
  refine lv_iconst (v := 2) hx hb dL_law_1192 (by decide) ?_
  refine g_iaddk 2 hx hb dL_law_1193 ?_
  refine g_sld (q := ((7 * n) + 2)) hC hX hbl hS (by omega) (by omega) dL_law_1194 ?_
  refine lv_aload_n hx hb dL_law_1195 rfl (lv_at hl 1 rfl) ?_
  refine lv_iload hx hb dL_law_1196 (lv_at hl 0 rfl) ?_
  refine lv_iconst (v := 3) hx hb dL_law_1198 (by decide) ?_
  refine g_iaddk 3 hx hb dL_law_1199 ?_
  refine g_sld (q := ((7 * n) + 3)) hC hX hbl hS (by omega) (by omega) dL_law_1200 ?_
  refine lv_aload_n hx hb dL_law_1201 rfl (lv_at hl 1 rfl) ?_
  refine lv_iload hx hb dL_law_1202 (lv_at hl 0 rfl) ?_
  refine lv_iconst (v := 4) hx hb dL_law_1204 (by decide) ?_
  refine g_iaddk 4 hx hb dL_law_1205 ?_
  refine g_sld (q := ((7 * n) + 4)) hC hX hbl hS (by omega) (by omega) dL_law_1206 ?_
  refine lv_aload_n hx hb dL_law_1207 rfl (lv_at hl 4 rfl) ?_
  refine g_cWi (k2 := cells + 5) (n2 := slots + 30) (g_runSH (n := 6) (rest := []) hC (w_canSignTogether hE (α := α) (ξ := ξ) (M := M) (N := N) (B := lB β o1 o2) (xs ((7 * n) + 1)) (xs ((7 * n) + 2)) (xs ((7 * n) + 3)) (xs ((7 * n) + 4)) (o := o1) (f0 := f1) (Or.inr (Or.inl rfl)) hst.2.2.1) k_0 k_632 (by decide +kernel) k_630 k_631 ⟨hRB, h1⟩ rfl hl.1 dL_law_1208 ⟨Nat.le_of_ble_eq_true rfl, Nat.le_of_ble_eq_true rfl⟩ ⟨by show cells + 0 + 5 ≤ 601024; omega, by show slots + 0 + 30 ≤ 7293034; omega⟩ rfl (Nat.le_of_ble_eq_true rfl)) hS (fun q h => h.elim (fun h => h.1) (fun h => by rw [h]; exact hst.2.2.1)) (by show cells + 0 + 5 = cells + 5; omega) (by show slots + 0 + 30 = slots + 30; omega) (fun r1_ H lo h hz_ hk_ hS => ?_)
  obtain ⟨hr1, α1, M1, g1, hRB1, hm1, ha1, h1n, hv1⟩ := h
  obtain ⟨hR, h2⟩ := hst.x hR h2 hk_
  have h1 := h1n
  obtain ⟨kc, hkc⟩ : ∃ kc, kc = kTog (K 0) (xs ((7 * n) + 1)) (xs ((7 * n) + 2)) (xs ((7 * n) + 3)) (xs ((7 * n) + 4)) := ⟨_, rfl⟩
  have hkx := (lk_canSignTogether hK (xs ((7 * n) + 1)) (xs ((7 * n) + 2)) (xs ((7 * n) + 3)) (xs ((7 * n) + 4))).1
  rw [← hkc] at hkx
  rw [hkx] at hr1 hv1 hRB1 hm1
  subst hr1
  have hk5 : kc ≤ 4 := by rw [hkc]; unfold kTog; exact (cif_le (by decide) (cif_le (by decide) (cif_le (by decide) (by decide))))
  refine lv_istore (lv' := [(6, .int (nI kc)), (5, .int (nI (7 * n))), (0, .ref b), (1, .ref (α 3 0)), (2, .ref (β 19)), (3, .ref o1), (4, .ref o2)]) hx hb dL_law_1211 hl (by decide) rfl (fun ls hl => ?_)
  refine lv_aload_n hx hb dL_law_1213 rfl (lv_at hl 4 rfl) ?_
  refine lv_aload_n hx hb dL_law_1214 rfl (lv_at hl 2 rfl) ?_
  refine lv_iload hx hb dL_law_1215 (lv_at hl 1 rfl) ?_
  refine lv_iconst (v := 1) hx hb dL_law_1217 (by decide) ?_
  refine g_iadd1 hx hb dL_law_1218 ?_
  refine g_sld (q := ((7 * n) + 1)) hC hX hbl hS (by omega) (by omega) dL_law_1219 ?_
  refine lv_aload_n hx hb dL_law_1220 rfl (lv_at hl 2 rfl) ?_
  refine lv_iload hx hb dL_law_1221 (lv_at hl 1 rfl) ?_
  refine lv_iconst (v := 2) hx hb dL_law_1223 (by decide) ?_
  refine g_iaddk 2 hx hb dL_law_1224 ?_
  refine g_sld (q := ((7 * n) + 2)) hC hX hbl hS (by omega) (by omega) dL_law_1225 ?_
  refine lv_aload_n hx hb dL_law_1226 rfl (lv_at hl 2 rfl) ?_
  refine lv_iload hx hb dL_law_1227 (lv_at hl 1 rfl) ?_
  refine lv_iconst (v := 3) hx hb dL_law_1229 (by decide) ?_
  refine g_iaddk 3 hx hb dL_law_1230 ?_
  refine g_sld (q := ((7 * n) + 3)) hC hX hbl hS (by omega) (by omega) dL_law_1231 ?_
  refine lv_aload_n hx hb dL_law_1232 rfl (lv_at hl 2 rfl) ?_
  refine lv_iload hx hb dL_law_1233 (lv_at hl 1 rfl) ?_
  refine lv_iconst (v := 4) hx hb dL_law_1235 (by decide) ?_
  refine g_iaddk 4 hx hb dL_law_1236 ?_
  refine g_sld (q := ((7 * n) + 4)) hC hX hbl hS (by omega) (by omega) dL_law_1237 ?_
  refine g_cWi (k2 := cells + 5) (n2 := slots + 30) (g_runV (rest := []) hC (c_X5_canSignTogether hE (β := β) (μ := μ) (K := K) (dp := dp) (th := th) hK.mi (xs ((7 * n) + 1)) (xs ((7 * n) + 2)) (xs ((7 * n) + 3)) (xs ((7 * n) + 4))) Y_X5_canSignTogether k_1184 I_X5_canSignTogether V_X5_canSignTogether hR.obj rfl hR rfl hl.1 dL_law_1238 ⟨Nat.le_of_ble_eq_true rfl, Nat.le_of_ble_eq_true rfl⟩ ⟨by show cells + 5 + 0 ≤ 601024; omega, by show slots + 30 + 0 ≤ 7293034; omega⟩ rfl (Nat.le_of_ble_eq_true rfl)) hS (fun q ⟨k, hk, e⟩ => by rw [e]; exact (hst.2.1 k hk).2.2) (by show cells + 5 + 0 = cells + 5; omega) (by show slots + 30 + 0 = slots + 30; omega) (fun r2_ H lo h hz_ hk_ hS => ?_)
  obtain ⟨dp1, hR, hv2⟩ := h
  rw [← hkc] at hR hv2
  obtain ⟨hRB1, h1, h2⟩ := hst.m hRB1 h1 h2 hz_ hk_
  refine lv_istore (lv' := [(7, .int r2_), (6, .int (nI kc)), (5, .int (nI (7 * n))), (0, .ref b), (1, .ref (α 3 0)), (2, .ref (β 19)), (3, .ref o1), (4, .ref o2)]) hx hb dL_law_1241 hl (by decide) rfl (fun ls hl => ?_)
  refine lv_aload_n hx hb dL_law_1243 rfl (lv_at hl 5 rfl) ?_
  refine g_cRi (k2 := cells + 5) (n2 := slots + 30) (g_runV (rest := []) hC (c_X5_thrown hE (β := β) (dp := dp1) (th := nI kc)) Y_X5_thrown k_1076 I_X5_thrown V_X5_thrown hR.obj rfl hR rfl hl.1 dL_law_1244 ⟨Nat.le_of_ble_eq_true rfl, Nat.le_of_ble_eq_true rfl⟩ ⟨by show cells + 5 + 0 ≤ 601024; omega, by show slots + 30 + 0 ≤ 7293034; omega⟩ rfl (Nat.le_of_ble_eq_true rfl)) (by show cells + 5 + 0 = cells + 5; omega) (by show slots + 30 + 0 = slots + 30; omega) g_no (fun r3_ h => ?_)
  obtain rfl := h
  refine lv_iload hx hb dL_law_1247 (lv_at hl 1 rfl) ?_
  refine lv_icmp_eq (tgt := 1254) hx hb dL_law_1249 (by decide) (fun c1_ => ?_) (fun c1_ => ?_)
  · refine lv_iload hx hb dL_law_1254 (lv_at hl 1 rfl) ?_
    refine lv_if_ne (tgt := 1278) hx hb dL_law_1256 (by decide) (fun c2_ => ?_) (fun c2_ => ?_)
    · have q3_ : ¬ kc = 0 := fun z => c2_ (congrArg nI z)
      refine lv_goto (tgt := 2472) hx hb dL_law_1278 (by decide) ?_
      exact W.widen (k := cells + 16) (n := slots + 3000) (by omega) (by omega) (kk H lo ls (LI.fin (M := M) hRB1 ha1 hm1 hR h1 h2 hK (fun hc => hK) (by omega) (by first | (show N 2 + 1 ≤ n + 1; omega) | (show N 2 ≤ n + 1; omega))) hS (lv_sub hl [2, 3, 4, 5, 6, 7] rfl))
    · have q3_ : kc = 0 := (nI_eq (by omega) (by omega)).mp c2_
      have hq0 : kc = 0 := (nI_eq (by omega) (by omega)).mp c2_
      refine lv_aload_n hx hb dL_law_1259 rfl (lv_at hl 6 rfl) ?_
      refine lv_iconst (v := 0) hx hb dL_law_1260 (by decide) ?_
      obtain ⟨rx, hvx, hg1⟩ := hv1 hq0
      have hvb := hv2 hq0
      have hEq : g1 0 = (if r2_ = 0 then 0 else 1) := by rw [hg1, bz_eq hvx hvb ((lk_canSignTogether hK (xs ((7 * n) + 1)) (xs ((7 * n) + 2)) (xs ((7 * n) + 3)) (xs ((7 * n) + 4))).2 (hkc.symm.trans hq0))]
      refine g_lald (n := 1) (j := 0) hC h1 (by decide) (by decide) dL_law_1261 ?_
      refine lv_iload hx hb dL_law_1262 (lv_at hl 0 rfl) ?_
      refine lv_if_eq (tgt := 1271) hx hb dL_law_1264 (by decide) (fun c4_ => ?_) (fun c4_ => ?_)
      · refine lv_lconst (v := 0) hx hb dL_law_1271 (by decide) ?_
        refine g_lcmp hx hb (hEq.trans (if_pos c4_)) dL_law_1272 ?_
        refine lv_if_eq (tgt := 1278) hx hb dL_law_1273 (by decide) (fun c6_ => ?_) (fun c6_ => ?_)
        · refine lv_goto (tgt := 2472) hx hb dL_law_1278 (by decide) ?_
          exact W.widen (k := cells + 16) (n := slots + 3000) (by omega) (by omega) (kk H lo ls (LI.fin (M := M) hRB1 ha1 hm1 hR h1 h2 hK (fun hc => hK) (by omega) (by first | (show N 2 + 1 ≤ n + 1; omega) | (show N 2 ≤ n + 1; omega))) hS (lv_sub hl [2, 3, 4, 5, 6, 7] rfl))
        · exact absurd (by decide) c6_
      · refine lv_lconst (v := 1) hx hb dL_law_1267 (by decide) ?_
        refine lv_goto (tgt := 1272) hx hb dL_law_1268 (by decide) ?_
        refine g_lcmp hx hb (hEq.trans (if_neg c4_)) dL_law_1272 ?_
        refine lv_if_eq (tgt := 1278) hx hb dL_law_1273 (by decide) (fun c7_ => ?_) (fun c7_ => ?_)
        · refine lv_goto (tgt := 2472) hx hb dL_law_1278 (by decide) ?_
          exact W.widen (k := cells + 16) (n := slots + 3000) (by omega) (by omega) (kk H lo ls (LI.fin (M := M) hRB1 ha1 hm1 hR h1 h2 hK (fun hc => hK) (by omega) (by first | (show N 2 + 1 ≤ n + 1; omega) | (show N 2 ≤ n + 1; omega))) hS (lv_sub hl [2, 3, 4, 5, 6, 7] rfl))
        · exact absurd (by decide) c7_
  · exact absurd rfl c1_
set_option maxHeartbeats 4000000 in
set_option maxRecDepth 100000 in
theorem q_signers {p_ : Program} {l : Launch} {e_ : Env} {s : State} {m : MethodId} {args : Array Value} {below : List Frame} {meth : Method} {c : Code} {Q : State → Prop} {E : gV} (hE : gOK l E) {β : Nat → Nat} {a0 o1 o2 b L : Nat} {xs : Nat → Int32} (hst : lS E β o1 o2) (hL : L ≤ 3584) (hX : va_X b L xs s E.2.1.heap) (hbl : b < E.2.1.heap.size) (hC : gC l E p_ s m meth c RL cL_law 8) {n cells slots : Nat} {H : Heap} {lo : List Loc} {ls : Array Slot} (hn : n < 512) (hi : 7 * n + 7 ≤ L) (hc1 : cells + 16 ≤ 601024) (hc2 : slots + 3000 ≤ 7293034) (hI : LI E β a0 o1 o2 n H) (hS : va_S (gA0 E) E.2.1.heap H lo) (hl : lv_has ls 8 [(5, .int (nI (7 * n))), (0, .ref b), (1, .ref a0), (2, .ref (β 19)), (3, .ref o1), (4, .ref o2)])
    (kk : ∀ (H1 : Heap) (lo1 : List Loc) (ls1 : Array Slot), LI E β a0 o1 o2 (n + 1) H1 → va_S (gA0 E) E.2.1.heap H1 lo1 → lv_has ls1 8 [(5, .int (nI (7 * n))), (0, .ref b), (1, .ref a0), (2, .ref (β 19)), (3, .ref o1), (4, .ref o2)] → W p_ l e_ room_1 s m args below meth c H1 lo1 (cells + 16) (slots + 3000) Q (F0 m 2472 ls1 [])) : W p_ l e_ room_1 s m args below meth c H lo cells slots Q (F0 m 1281 ls []) := by
  have hx := hC.2.2.1
  have hb := hC.2.2.2.1
  obtain ⟨α, ξ, M, N, μ, K, dp, th, f1, f2, hRB, rfl, hR, h1, h2, hK, hN2⟩ := hI
  refine lv_aload_n hx hb dL_law_1281 rfl (lv_at hl 2 rfl) ?_
  refine lv_aload_n hx hb dL_law_1282 rfl (lv_at hl 1 rfl) ?_
  refine lv_iload hx hb dL_law_1283 (lv_at hl 0 rfl) ?_
  refine lv_iconst (v := 1) hx hb dL_law_1285 (by decide) ?_
  refine g_iadd1 hx hb dL_law_1286 ?_
  refine g_sld (q := ((7 * n) + 1)) hC hX hbl hS (by omega) (by omega) dL_law_1287 ?_
  refine lv_aload_n hx hb dL_law_1288 rfl (lv_at hl 1 rfl) ?_
  refine lv_iload hx hb dL_law_1289 (lv_at hl 0 rfl) ?_
  refine lv_iconst (v := 2) hx hb dL_law_1291 (by decide) ?_
  refine g_iaddk 2 hx hb dL_law_1292 ?_
  refine g_sld (q := ((7 * n) + 2)) hC hX hbl hS (by omega) (by omega) dL_law_1293 ?_
  refine lv_aload_n hx hb dL_law_1294 rfl (lv_at hl 4 rfl) ?_
  refine g_cWi (k2 := cells + 2) (n2 := slots + 12) (g_runSH (n := 4) (rest := []) hC (w_signers hE (α := α) (ξ := ξ) (M := M) (N := N) (B := lB β o1 o2) (xs ((7 * n) + 1)) (xs ((7 * n) + 2)) (o := o1) (f0 := f1) (Or.inr (Or.inl rfl)) hst.2.2.1) k_0 k_647 (by decide +kernel) k_645 k_646 ⟨hRB, h1⟩ rfl hl.1 dL_law_1295 ⟨Nat.le_of_ble_eq_true rfl, Nat.le_of_ble_eq_true rfl⟩ ⟨by show cells + 0 + 2 ≤ 601024; omega, by show slots + 0 + 12 ≤ 7293034; omega⟩ rfl (Nat.le_of_ble_eq_true rfl)) hS (fun q h => h.elim (fun h => h.1) (fun h => by rw [h]; exact hst.2.2.1)) (by show cells + 0 + 2 = cells + 2; omega) (by show slots + 0 + 12 = slots + 12; omega) (fun r1_ H lo h hz_ hk_ hS => ?_)
  obtain ⟨hr1, α1, M1, g1, hRB1, hm1, ha1, h1n, hv1⟩ := h
  obtain ⟨hR, h2⟩ := hst.x hR h2 hk_
  have h1 := h1n
  obtain ⟨kc, hkc⟩ : ∃ kc, kc = kAsk (xs ((7 * n) + 1)) (xs ((7 * n) + 2)) := ⟨_, rfl⟩
  have hkx : kAsk (xs ((7 * n) + 1)) (xs ((7 * n) + 2)) = kAsk (xs ((7 * n) + 1)) (xs ((7 * n) + 2)) := rfl
  rw [← hkc] at hkx
  rw [← hkc] at hr1 hv1 hRB1 hm1
  subst hr1
  have hk5 : kc ≤ 4 := by rw [hkc]; unfold kAsk; exact (cif_le (by decide) (by decide))
  refine lv_istore (lv' := [(6, .int (nI kc)), (5, .int (nI (7 * n))), (0, .ref b), (1, .ref (α 3 0)), (2, .ref (β 19)), (3, .ref o1), (4, .ref o2)]) hx hb dL_law_1298 hl (by decide) rfl (fun ls hl => ?_)
  refine lv_aload_n hx hb dL_law_1300 rfl (lv_at hl 4 rfl) ?_
  refine lv_aload_n hx hb dL_law_1301 rfl (lv_at hl 2 rfl) ?_
  refine lv_iload hx hb dL_law_1302 (lv_at hl 1 rfl) ?_
  refine lv_iconst (v := 1) hx hb dL_law_1304 (by decide) ?_
  refine g_iadd1 hx hb dL_law_1305 ?_
  refine g_sld (q := ((7 * n) + 1)) hC hX hbl hS (by omega) (by omega) dL_law_1306 ?_
  refine lv_aload_n hx hb dL_law_1307 rfl (lv_at hl 2 rfl) ?_
  refine lv_iload hx hb dL_law_1308 (lv_at hl 1 rfl) ?_
  refine lv_iconst (v := 2) hx hb dL_law_1310 (by decide) ?_
  refine g_iaddk 2 hx hb dL_law_1311 ?_
  refine g_sld (q := ((7 * n) + 2)) hC hX hbl hS (by omega) (by omega) dL_law_1312 ?_
  refine g_cWi (k2 := cells + 2) (n2 := slots + 12) (g_runV (rest := []) hC (c_X5_signers hE (β := β) (μ := μ) (K := K) (dp := dp) (th := th) hK.mi (xs ((7 * n) + 1)) (xs ((7 * n) + 2))) Y_X5_signers k_1192 I_X5_signers V_X5_signers hR.obj rfl hR rfl hl.1 dL_law_1313 ⟨Nat.le_of_ble_eq_true rfl, Nat.le_of_ble_eq_true rfl⟩ ⟨by show cells + 2 + 0 ≤ 601024; omega, by show slots + 12 + 0 ≤ 7293034; omega⟩ rfl (Nat.le_of_ble_eq_true rfl)) hS (fun q ⟨k, hk, e⟩ => by rw [e]; exact (hst.2.1 k hk).2.2) (by show cells + 2 + 0 = cells + 2; omega) (by show slots + 12 + 0 = slots + 12; omega) (fun r2_ H lo h hz_ hk_ hS => ?_)
  obtain ⟨dp1, hR, hv2⟩ := h
  rw [← hkc] at hR hv2
  obtain ⟨hRB1, h1, h2⟩ := hst.m hRB1 h1 h2 hz_ hk_
  refine lv_istore (lv' := [(7, .int r2_), (6, .int (nI kc)), (5, .int (nI (7 * n))), (0, .ref b), (1, .ref (α 3 0)), (2, .ref (β 19)), (3, .ref o1), (4, .ref o2)]) hx hb dL_law_1316 hl (by decide) rfl (fun ls hl => ?_)
  refine lv_aload_n hx hb dL_law_1318 rfl (lv_at hl 5 rfl) ?_
  refine g_cRi (k2 := cells + 2) (n2 := slots + 12) (g_runV (rest := []) hC (c_X5_thrown hE (β := β) (dp := dp1) (th := nI kc)) Y_X5_thrown k_1076 I_X5_thrown V_X5_thrown hR.obj rfl hR rfl hl.1 dL_law_1319 ⟨Nat.le_of_ble_eq_true rfl, Nat.le_of_ble_eq_true rfl⟩ ⟨by show cells + 2 + 0 ≤ 601024; omega, by show slots + 12 + 0 ≤ 7293034; omega⟩ rfl (Nat.le_of_ble_eq_true rfl)) (by show cells + 2 + 0 = cells + 2; omega) (by show slots + 12 + 0 = slots + 12; omega) g_no (fun r3_ h => ?_)
  obtain rfl := h
  refine lv_iload hx hb dL_law_1322 (lv_at hl 1 rfl) ?_
  refine lv_icmp_eq (tgt := 1329) hx hb dL_law_1324 (by decide) (fun c1_ => ?_) (fun c1_ => ?_)
  · refine lv_iload hx hb dL_law_1329 (lv_at hl 1 rfl) ?_
    refine lv_if_ne (tgt := 1346) hx hb dL_law_1331 (by decide) (fun c2_ => ?_) (fun c2_ => ?_)
    · have q3_ : ¬ kc = 0 := fun z => c2_ (congrArg nI z)
      refine lv_goto (tgt := 2472) hx hb dL_law_1346 (by decide) ?_
      exact W.widen (k := cells + 16) (n := slots + 3000) (by omega) (by omega) (kk H lo ls (LI.fin (M := M) hRB1 ha1 hm1 hR h1 h2 hK (fun hc => hK) (by omega) (by first | (show N 2 + 1 ≤ n + 1; omega) | (show N 2 ≤ n + 1; omega))) hS (lv_sub hl [2, 3, 4, 5, 6, 7] rfl))
    · have q3_ : kc = 0 := (nI_eq (by omega) (by omega)).mp c2_
      have hq0 : kc = 0 := (nI_eq (by omega) (by omega)).mp c2_
      refine lv_aload_n hx hb dL_law_1334 rfl (lv_at hl 6 rfl) ?_
      refine lv_iconst (v := 0) hx hb dL_law_1335 (by decide) ?_
      obtain ⟨rx, hvx, hg1⟩ := hv1 hq0
      have hvb := hv2 hq0
      have hEq : g1 0 = (r2_).toInt64 := by rw [hg1, hvx, hvb, (lk_signers hK (xs ((7 * n) + 1)) (xs ((7 * n) + 2)))]
      refine g_lald (n := 1) (j := 0) hC h1 (by decide) (by decide) dL_law_1336 ?_
      refine lv_iload hx hb dL_law_1337 (lv_at hl 0 rfl) ?_
      refine lv_i2l (v := (r2_).toInt64) hx hb dL_law_1339 rfl ?_
      refine g_lcmp hx hb hEq dL_law_1340 ?_
      refine lv_if_eq (tgt := 1346) hx hb dL_law_1341 (by decide) (fun c4_ => ?_) (fun c4_ => ?_)
      · refine lv_goto (tgt := 2472) hx hb dL_law_1346 (by decide) ?_
        exact W.widen (k := cells + 16) (n := slots + 3000) (by omega) (by omega) (kk H lo ls (LI.fin (M := M) hRB1 ha1 hm1 hR h1 h2 hK (fun hc => hK) (by omega) (by first | (show N 2 + 1 ≤ n + 1; omega) | (show N 2 ≤ n + 1; omega))) hS (lv_sub hl [2, 3, 4, 5, 6, 7] rfl))
      · exact absurd (by decide) c4_
  · exact absurd rfl c1_
set_option maxHeartbeats 4000000 in
set_option maxRecDepth 100000 in
theorem q_pairs {p_ : Program} {l : Launch} {e_ : Env} {s : State} {m : MethodId} {args : Array Value} {below : List Frame} {meth : Method} {c : Code} {Q : State → Prop} {E : gV} (hE : gOK l E) {β : Nat → Nat} {a0 o1 o2 b L : Nat} {xs : Nat → Int32} (hst : lS E β o1 o2) (hL : L ≤ 3584) (hX : va_X b L xs s E.2.1.heap) (hbl : b < E.2.1.heap.size) (hC : gC l E p_ s m meth c RL cL_law 8) {n cells slots : Nat} {H : Heap} {lo : List Loc} {ls : Array Slot} (hn : n < 512) (hi : 7 * n + 7 ≤ L) (hc1 : cells + 16 ≤ 601024) (hc2 : slots + 3000 ≤ 7293034) (hI : LI E β a0 o1 o2 n H) (hS : va_S (gA0 E) E.2.1.heap H lo) (hl : lv_has ls 8 [(5, .int (nI (7 * n))), (0, .ref b), (1, .ref a0), (2, .ref (β 19)), (3, .ref o1), (4, .ref o2)])
    (kk : ∀ (H1 : Heap) (lo1 : List Loc) (ls1 : Array Slot), LI E β a0 o1 o2 (n + 1) H1 → va_S (gA0 E) E.2.1.heap H1 lo1 → lv_has ls1 8 [(5, .int (nI (7 * n))), (0, .ref b), (1, .ref a0), (2, .ref (β 19)), (3, .ref o1), (4, .ref o2)] → W p_ l e_ room_1 s m args below meth c H1 lo1 (cells + 16) (slots + 3000) Q (F0 m 2472 ls1 [])) : W p_ l e_ room_1 s m args below meth c H lo cells slots Q (F0 m 1349 ls []) := by
  have hx := hC.2.2.1
  have hb := hC.2.2.2.1
  obtain ⟨α, ξ, M, N, μ, K, dp, th, f1, f2, hRB, rfl, hR, h1, h2, hK, hN2⟩ := hI
  refine lv_aload_n hx hb dL_law_1349 rfl (lv_at hl 2 rfl) ?_
  refine lv_aload_n hx hb dL_law_1350 rfl (lv_at hl 1 rfl) ?_
  refine lv_iload hx hb dL_law_1351 (lv_at hl 0 rfl) ?_
  refine lv_iconst (v := 1) hx hb dL_law_1353 (by decide) ?_
  refine g_iadd1 hx hb dL_law_1354 ?_
  refine g_sld (q := ((7 * n) + 1)) hC hX hbl hS (by omega) (by omega) dL_law_1355 ?_
  refine lv_aload_n hx hb dL_law_1356 rfl (lv_at hl 1 rfl) ?_
  refine lv_iload hx hb dL_law_1357 (lv_at hl 0 rfl) ?_
  refine lv_iconst (v := 2) hx hb dL_law_1359 (by decide) ?_
  refine g_iaddk 2 hx hb dL_law_1360 ?_
  refine g_sld (q := ((7 * n) + 2)) hC hX hbl hS (by omega) (by omega) dL_law_1361 ?_
  refine lv_aload_n hx hb dL_law_1362 rfl (lv_at hl 4 rfl) ?_
  refine g_cWi (k2 := cells + 2) (n2 := slots + 12) (g_runSH (n := 4) (rest := []) hC (w_pairs hE (α := α) (ξ := ξ) (M := M) (N := N) (B := lB β o1 o2) (xs ((7 * n) + 1)) (xs ((7 * n) + 2)) (o := o1) (f0 := f1) (Or.inr (Or.inl rfl)) hst.2.2.1) k_0 k_654 (by decide +kernel) k_652 k_653 ⟨hRB, h1⟩ rfl hl.1 dL_law_1363 ⟨Nat.le_of_ble_eq_true rfl, Nat.le_of_ble_eq_true rfl⟩ ⟨by show cells + 0 + 2 ≤ 601024; omega, by show slots + 0 + 12 ≤ 7293034; omega⟩ rfl (Nat.le_of_ble_eq_true rfl)) hS (fun q h => h.elim (fun h => h.1) (fun h => by rw [h]; exact hst.2.2.1)) (by show cells + 0 + 2 = cells + 2; omega) (by show slots + 0 + 12 = slots + 12; omega) (fun r1_ H lo h hz_ hk_ hS => ?_)
  obtain ⟨hr1, α1, M1, g1, hRB1, hm1, ha1, h1n, hv1⟩ := h
  obtain ⟨hR, h2⟩ := hst.x hR h2 hk_
  have h1 := h1n
  obtain ⟨kc, hkc⟩ : ∃ kc, kc = kAsk (xs ((7 * n) + 1)) (xs ((7 * n) + 2)) := ⟨_, rfl⟩
  have hkx : kAsk (xs ((7 * n) + 1)) (xs ((7 * n) + 2)) = kAsk (xs ((7 * n) + 1)) (xs ((7 * n) + 2)) := rfl
  rw [← hkc] at hkx
  rw [← hkc] at hr1 hv1 hRB1 hm1
  subst hr1
  have hk5 : kc ≤ 4 := by rw [hkc]; unfold kAsk; exact (cif_le (by decide) (by decide))
  refine lv_istore (lv' := [(6, .int (nI kc)), (5, .int (nI (7 * n))), (0, .ref b), (1, .ref (α 3 0)), (2, .ref (β 19)), (3, .ref o1), (4, .ref o2)]) hx hb dL_law_1366 hl (by decide) rfl (fun ls hl => ?_)
  refine lv_aload_n hx hb dL_law_1368 rfl (lv_at hl 4 rfl) ?_
  refine lv_aload_n hx hb dL_law_1369 rfl (lv_at hl 2 rfl) ?_
  refine lv_iload hx hb dL_law_1370 (lv_at hl 1 rfl) ?_
  refine lv_iconst (v := 1) hx hb dL_law_1372 (by decide) ?_
  refine g_iadd1 hx hb dL_law_1373 ?_
  refine g_sld (q := ((7 * n) + 1)) hC hX hbl hS (by omega) (by omega) dL_law_1374 ?_
  refine lv_aload_n hx hb dL_law_1375 rfl (lv_at hl 2 rfl) ?_
  refine lv_iload hx hb dL_law_1376 (lv_at hl 1 rfl) ?_
  refine lv_iconst (v := 2) hx hb dL_law_1378 (by decide) ?_
  refine g_iaddk 2 hx hb dL_law_1379 ?_
  refine g_sld (q := ((7 * n) + 2)) hC hX hbl hS (by omega) (by omega) dL_law_1380 ?_
  refine g_cWi (k2 := cells + 2) (n2 := slots + 12) (g_runV (rest := []) hC (c_X5_pairs hE (β := β) (μ := μ) (K := K) (dp := dp) (th := th) hK.mi (xs ((7 * n) + 1)) (xs ((7 * n) + 2))) Y_X5_pairs k_1196 I_X5_pairs V_X5_pairs hR.obj rfl hR rfl hl.1 dL_law_1381 ⟨Nat.le_of_ble_eq_true rfl, Nat.le_of_ble_eq_true rfl⟩ ⟨by show cells + 2 + 0 ≤ 601024; omega, by show slots + 12 + 0 ≤ 7293034; omega⟩ rfl (Nat.le_of_ble_eq_true rfl)) hS (fun q ⟨k, hk, e⟩ => by rw [e]; exact (hst.2.1 k hk).2.2) (by show cells + 2 + 0 = cells + 2; omega) (by show slots + 12 + 0 = slots + 12; omega) (fun r2_ H lo h hz_ hk_ hS => ?_)
  obtain ⟨dp1, hR, hv2⟩ := h
  rw [← hkc] at hR hv2
  obtain ⟨hRB1, h1, h2⟩ := hst.m hRB1 h1 h2 hz_ hk_
  refine lv_istore (lv' := [(7, .int r2_), (6, .int (nI kc)), (5, .int (nI (7 * n))), (0, .ref b), (1, .ref (α 3 0)), (2, .ref (β 19)), (3, .ref o1), (4, .ref o2)]) hx hb dL_law_1384 hl (by decide) rfl (fun ls hl => ?_)
  refine lv_aload_n hx hb dL_law_1386 rfl (lv_at hl 5 rfl) ?_
  refine g_cRi (k2 := cells + 2) (n2 := slots + 12) (g_runV (rest := []) hC (c_X5_thrown hE (β := β) (dp := dp1) (th := nI kc)) Y_X5_thrown k_1076 I_X5_thrown V_X5_thrown hR.obj rfl hR rfl hl.1 dL_law_1387 ⟨Nat.le_of_ble_eq_true rfl, Nat.le_of_ble_eq_true rfl⟩ ⟨by show cells + 2 + 0 ≤ 601024; omega, by show slots + 12 + 0 ≤ 7293034; omega⟩ rfl (Nat.le_of_ble_eq_true rfl)) (by show cells + 2 + 0 = cells + 2; omega) (by show slots + 12 + 0 = slots + 12; omega) g_no (fun r3_ h => ?_)
  obtain rfl := h
  refine lv_iload hx hb dL_law_1390 (lv_at hl 1 rfl) ?_
  refine lv_icmp_eq (tgt := 1397) hx hb dL_law_1392 (by decide) (fun c1_ => ?_) (fun c1_ => ?_)
  · refine lv_iload hx hb dL_law_1397 (lv_at hl 1 rfl) ?_
    refine lv_if_ne (tgt := 1414) hx hb dL_law_1399 (by decide) (fun c2_ => ?_) (fun c2_ => ?_)
    · have q3_ : ¬ kc = 0 := fun z => c2_ (congrArg nI z)
      refine lv_goto (tgt := 2472) hx hb dL_law_1414 (by decide) ?_
      exact W.widen (k := cells + 16) (n := slots + 3000) (by omega) (by omega) (kk H lo ls (LI.fin (M := M) hRB1 ha1 hm1 hR h1 h2 hK (fun hc => hK) (by omega) (by first | (show N 2 + 1 ≤ n + 1; omega) | (show N 2 ≤ n + 1; omega))) hS (lv_sub hl [2, 3, 4, 5, 6, 7] rfl))
    · have q3_ : kc = 0 := (nI_eq (by omega) (by omega)).mp c2_
      have hq0 : kc = 0 := (nI_eq (by omega) (by omega)).mp c2_
      refine lv_aload_n hx hb dL_law_1402 rfl (lv_at hl 6 rfl) ?_
      refine lv_iconst (v := 0) hx hb dL_law_1403 (by decide) ?_
      obtain ⟨rx, hvx, hg1⟩ := hv1 hq0
      have hvb := hv2 hq0
      have hEq : g1 0 = (r2_).toInt64 := by rw [hg1, hvx, hvb, (lk_pairs hK (xs ((7 * n) + 1)) (xs ((7 * n) + 2)))]
      refine g_lald (n := 1) (j := 0) hC h1 (by decide) (by decide) dL_law_1404 ?_
      refine lv_iload hx hb dL_law_1405 (lv_at hl 0 rfl) ?_
      refine lv_i2l (v := (r2_).toInt64) hx hb dL_law_1407 rfl ?_
      refine g_lcmp hx hb hEq dL_law_1408 ?_
      refine lv_if_eq (tgt := 1414) hx hb dL_law_1409 (by decide) (fun c4_ => ?_) (fun c4_ => ?_)
      · refine lv_goto (tgt := 2472) hx hb dL_law_1414 (by decide) ?_
        exact W.widen (k := cells + 16) (n := slots + 3000) (by omega) (by omega) (kk H lo ls (LI.fin (M := M) hRB1 ha1 hm1 hR h1 h2 hK (fun hc => hK) (by omega) (by first | (show N 2 + 1 ≤ n + 1; omega) | (show N 2 ≤ n + 1; omega))) hS (lv_sub hl [2, 3, 4, 5, 6, 7] rfl))
      · exact absurd (by decide) c4_
  · exact absurd rfl c1_
set_option maxHeartbeats 4000000 in
set_option maxRecDepth 100000 in
theorem q_pairsByTrying {p_ : Program} {l : Launch} {e_ : Env} {s : State} {m : MethodId} {args : Array Value} {below : List Frame} {meth : Method} {c : Code} {Q : State → Prop} {E : gV} (hE : gOK l E) {β : Nat → Nat} {a0 o1 o2 b L : Nat} {xs : Nat → Int32} (hst : lS E β o1 o2) (hL : L ≤ 3584) (hX : va_X b L xs s E.2.1.heap) (hbl : b < E.2.1.heap.size) (hC : gC l E p_ s m meth c RL cL_law 8) {n cells slots : Nat} {H : Heap} {lo : List Loc} {ls : Array Slot} (hn : n < 512) (hi : 7 * n + 7 ≤ L) (hc1 : cells + 16 ≤ 601024) (hc2 : slots + 3000 ≤ 7293034) (hI : LI E β a0 o1 o2 n H) (hS : va_S (gA0 E) E.2.1.heap H lo) (hl : lv_has ls 8 [(5, .int (nI (7 * n))), (0, .ref b), (1, .ref a0), (2, .ref (β 19)), (3, .ref o1), (4, .ref o2)])
    (kk : ∀ (H1 : Heap) (lo1 : List Loc) (ls1 : Array Slot), LI E β a0 o1 o2 (n + 1) H1 → va_S (gA0 E) E.2.1.heap H1 lo1 → lv_has ls1 8 [(5, .int (nI (7 * n))), (0, .ref b), (1, .ref a0), (2, .ref (β 19)), (3, .ref o1), (4, .ref o2)] → W p_ l e_ room_1 s m args below meth c H1 lo1 (cells + 16) (slots + 3000) Q (F0 m 2472 ls1 [])) : W p_ l e_ room_1 s m args below meth c H lo cells slots Q (F0 m 1417 ls []) := by
  have hx := hC.2.2.1
  have hb := hC.2.2.2.1
  obtain ⟨α, ξ, M, N, μ, K, dp, th, f1, f2, hRB, rfl, hR, h1, h2, hK, hN2⟩ := hI
  refine lv_aload_n hx hb dL_law_1417 rfl (lv_at hl 2 rfl) ?_
  refine lv_aload_n hx hb dL_law_1418 rfl (lv_at hl 1 rfl) ?_
  refine lv_iload hx hb dL_law_1419 (lv_at hl 0 rfl) ?_
  refine lv_iconst (v := 1) hx hb dL_law_1421 (by decide) ?_
  refine g_iadd1 hx hb dL_law_1422 ?_
  refine g_sld (q := ((7 * n) + 1)) hC hX hbl hS (by omega) (by omega) dL_law_1423 ?_
  refine lv_aload_n hx hb dL_law_1424 rfl (lv_at hl 1 rfl) ?_
  refine lv_iload hx hb dL_law_1425 (lv_at hl 0 rfl) ?_
  refine lv_iconst (v := 2) hx hb dL_law_1427 (by decide) ?_
  refine g_iaddk 2 hx hb dL_law_1428 ?_
  refine g_sld (q := ((7 * n) + 2)) hC hX hbl hS (by omega) (by omega) dL_law_1429 ?_
  refine lv_aload_n hx hb dL_law_1430 rfl (lv_at hl 4 rfl) ?_
  refine g_cWi (k2 := cells + 2) (n2 := slots + 12) (g_runSH (n := 4) (rest := []) hC (w_pairsByTrying hE (α := α) (ξ := ξ) (M := M) (N := N) (B := lB β o1 o2) (xs ((7 * n) + 1)) (xs ((7 * n) + 2)) (o := o1) (f0 := f1) (Or.inr (Or.inl rfl)) hst.2.2.1) k_0 k_664 (by decide +kernel) k_662 k_663 ⟨hRB, h1⟩ rfl hl.1 dL_law_1431 ⟨Nat.le_of_ble_eq_true rfl, Nat.le_of_ble_eq_true rfl⟩ ⟨by show cells + 0 + 2 ≤ 601024; omega, by show slots + 0 + 12 ≤ 7293034; omega⟩ rfl (Nat.le_of_ble_eq_true rfl)) hS (fun q h => h.elim (fun h => h.1) (fun h => by rw [h]; exact hst.2.2.1)) (by show cells + 0 + 2 = cells + 2; omega) (by show slots + 0 + 12 = slots + 12; omega) (fun r1_ H lo h hz_ hk_ hS => ?_)
  obtain ⟨hr1, α1, M1, g1, hRB1, hm1, ha1, h1n, hv1⟩ := h
  obtain ⟨hR, h2⟩ := hst.x hR h2 hk_
  have h1 := h1n
  obtain ⟨kc, hkc⟩ : ∃ kc, kc = kAsk (xs ((7 * n) + 1)) (xs ((7 * n) + 2)) := ⟨_, rfl⟩
  have hkx : kAsk (xs ((7 * n) + 1)) (xs ((7 * n) + 2)) = kAsk (xs ((7 * n) + 1)) (xs ((7 * n) + 2)) := rfl
  rw [← hkc] at hkx
  rw [← hkc] at hr1 hv1 hRB1 hm1
  subst hr1
  have hk5 : kc ≤ 4 := by rw [hkc]; unfold kAsk; exact (cif_le (by decide) (by decide))
  refine lv_istore (lv' := [(6, .int (nI kc)), (5, .int (nI (7 * n))), (0, .ref b), (1, .ref (α 3 0)), (2, .ref (β 19)), (3, .ref o1), (4, .ref o2)]) hx hb dL_law_1434 hl (by decide) rfl (fun ls hl => ?_)
  refine lv_aload_n hx hb dL_law_1436 rfl (lv_at hl 4 rfl) ?_
  refine lv_aload_n hx hb dL_law_1437 rfl (lv_at hl 2 rfl) ?_
  refine lv_iload hx hb dL_law_1438 (lv_at hl 1 rfl) ?_
  refine lv_iconst (v := 1) hx hb dL_law_1440 (by decide) ?_
  refine g_iadd1 hx hb dL_law_1441 ?_
  refine g_sld (q := ((7 * n) + 1)) hC hX hbl hS (by omega) (by omega) dL_law_1442 ?_
  refine lv_aload_n hx hb dL_law_1443 rfl (lv_at hl 2 rfl) ?_
  refine lv_iload hx hb dL_law_1444 (lv_at hl 1 rfl) ?_
  refine lv_iconst (v := 2) hx hb dL_law_1446 (by decide) ?_
  refine g_iaddk 2 hx hb dL_law_1447 ?_
  refine g_sld (q := ((7 * n) + 2)) hC hX hbl hS (by omega) (by omega) dL_law_1448 ?_
  refine g_cWi (k2 := cells + 2) (n2 := slots + 12) (g_runV (rest := []) hC (c_X5_pairsByTrying hE (β := β) (μ := μ) (K := K) (dp := dp) (th := th) hK.mi (xs ((7 * n) + 1)) (xs ((7 * n) + 2))) Y_X5_pairsByTrying k_1200 I_X5_pairsByTrying V_X5_pairsByTrying hR.obj rfl hR rfl hl.1 dL_law_1449 ⟨Nat.le_of_ble_eq_true rfl, Nat.le_of_ble_eq_true rfl⟩ ⟨by show cells + 2 + 0 ≤ 601024; omega, by show slots + 12 + 0 ≤ 7293034; omega⟩ rfl (Nat.le_of_ble_eq_true rfl)) hS (fun q ⟨k, hk, e⟩ => by rw [e]; exact (hst.2.1 k hk).2.2) (by show cells + 2 + 0 = cells + 2; omega) (by show slots + 12 + 0 = slots + 12; omega) (fun r2_ H lo h hz_ hk_ hS => ?_)
  obtain ⟨dp1, hR, hv2⟩ := h
  rw [← hkc] at hR hv2
  obtain ⟨hRB1, h1, h2⟩ := hst.m hRB1 h1 h2 hz_ hk_
  refine lv_istore (lv' := [(7, .int r2_), (6, .int (nI kc)), (5, .int (nI (7 * n))), (0, .ref b), (1, .ref (α 3 0)), (2, .ref (β 19)), (3, .ref o1), (4, .ref o2)]) hx hb dL_law_1452 hl (by decide) rfl (fun ls hl => ?_)
  refine lv_aload_n hx hb dL_law_1454 rfl (lv_at hl 5 rfl) ?_
  refine g_cRi (k2 := cells + 2) (n2 := slots + 12) (g_runV (rest := []) hC (c_X5_thrown hE (β := β) (dp := dp1) (th := nI kc)) Y_X5_thrown k_1076 I_X5_thrown V_X5_thrown hR.obj rfl hR rfl hl.1 dL_law_1455 ⟨Nat.le_of_ble_eq_true rfl, Nat.le_of_ble_eq_true rfl⟩ ⟨by show cells + 2 + 0 ≤ 601024; omega, by show slots + 12 + 0 ≤ 7293034; omega⟩ rfl (Nat.le_of_ble_eq_true rfl)) (by show cells + 2 + 0 = cells + 2; omega) (by show slots + 12 + 0 = slots + 12; omega) g_no (fun r3_ h => ?_)
  obtain rfl := h
  refine lv_iload hx hb dL_law_1458 (lv_at hl 1 rfl) ?_
  refine lv_icmp_eq (tgt := 1465) hx hb dL_law_1460 (by decide) (fun c1_ => ?_) (fun c1_ => ?_)
  · refine lv_iload hx hb dL_law_1465 (lv_at hl 1 rfl) ?_
    refine lv_if_ne (tgt := 1482) hx hb dL_law_1467 (by decide) (fun c2_ => ?_) (fun c2_ => ?_)
    · have q3_ : ¬ kc = 0 := fun z => c2_ (congrArg nI z)
      refine lv_goto (tgt := 2472) hx hb dL_law_1482 (by decide) ?_
      exact W.widen (k := cells + 16) (n := slots + 3000) (by omega) (by omega) (kk H lo ls (LI.fin (M := M) hRB1 ha1 hm1 hR h1 h2 hK (fun hc => hK) (by omega) (by first | (show N 2 + 1 ≤ n + 1; omega) | (show N 2 ≤ n + 1; omega))) hS (lv_sub hl [2, 3, 4, 5, 6, 7] rfl))
    · have q3_ : kc = 0 := (nI_eq (by omega) (by omega)).mp c2_
      have hq0 : kc = 0 := (nI_eq (by omega) (by omega)).mp c2_
      refine lv_aload_n hx hb dL_law_1470 rfl (lv_at hl 6 rfl) ?_
      refine lv_iconst (v := 0) hx hb dL_law_1471 (by decide) ?_
      obtain ⟨rx, hvx, hg1⟩ := hv1 hq0
      have hvb := hv2 hq0
      have hEq : g1 0 = (r2_).toInt64 := by rw [hg1, hvx, hvb, (lk_pairsByTrying hK (xs ((7 * n) + 1)) (xs ((7 * n) + 2)))]
      refine g_lald (n := 1) (j := 0) hC h1 (by decide) (by decide) dL_law_1472 ?_
      refine lv_iload hx hb dL_law_1473 (lv_at hl 0 rfl) ?_
      refine lv_i2l (v := (r2_).toInt64) hx hb dL_law_1475 rfl ?_
      refine g_lcmp hx hb hEq dL_law_1476 ?_
      refine lv_if_eq (tgt := 1482) hx hb dL_law_1477 (by decide) (fun c4_ => ?_) (fun c4_ => ?_)
      · refine lv_goto (tgt := 2472) hx hb dL_law_1482 (by decide) ?_
        exact W.widen (k := cells + 16) (n := slots + 3000) (by omega) (by omega) (kk H lo ls (LI.fin (M := M) hRB1 ha1 hm1 hR h1 h2 hK (fun hc => hK) (by omega) (by first | (show N 2 + 1 ≤ n + 1; omega) | (show N 2 ≤ n + 1; omega))) hS (lv_sub hl [2, 3, 4, 5, 6, 7] rfl))
      · exact absurd (by decide) c4_
  · exact absurd rfl c1_
