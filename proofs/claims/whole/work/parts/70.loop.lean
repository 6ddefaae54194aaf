/-! THE LAW'S LOOP -/
theorem LI.up {E : gV} {β : Nat → Nat} {a0 o1 o2 n : Nat} {H : Heap} (h : LI E β a0 o1 o2 n H) : LI E β a0 o1 o2 (n + 1) H := by
  obtain ⟨α, ξ, M, N, μ, K, dp, th, f1, f2, h1, h2, h3, h4, h5, h6, h7⟩ := h
  exact ⟨α, ξ, M, N, μ, K, dp, th, f1, f2, h1, h2, h3, h4, h5, h6, by omega⟩
set_option maxHeartbeats 4000000 in
set_option maxRecDepth 100000 in
theorem q_step {p_ : Program} {l : Launch} {e_ : Env} {s : State} {m : MethodId} {args : Array Value} {below : List Frame} {meth : Method} {c : Code} {Q : State → Prop} {E : gV} (hE : gOK l E) {β : Nat → Nat} {a0 o1 o2 b L : Nat} {xs : Nat → Int32} (hst : lS E β o1 o2) (hL : L ≤ 3584) (hX : va_X b L xs s E.2.1.heap) (hbl : b < E.2.1.heap.size) (hC : gC l E p_ s m meth c RL cL_law 8) {n cells slots : Nat} {H : Heap} {lo : List Loc} {ls : Array Slot} (hn : n < 512) (hi : 7 * n + 7 ≤ L) (hc1 : cells + 16 ≤ 601024) (hc2 : slots + 3000 ≤ 7293034) (hI : LI E β a0 o1 o2 n H) (hS : va_S (gA0 E) E.2.1.heap H lo) (hl : lv_has ls 8 [(5, .int (nI (7 * n))), (0, .ref b), (1, .ref a0), (2, .ref (β 19)), (3, .ref o1), (4, .ref o2)])
    (kk : ∀ (H1 : Heap) (lo1 : List Loc) (ls1 : Array Slot), LI E β a0 o1 o2 (n + 1) H1 → va_S (gA0 E) E.2.1.heap H1 lo1 → lv_has ls1 8 [(5, .int (nI (7 * n))), (0, .ref b), (1, .ref a0), (2, .ref (β 19)), (3, .ref o1), (4, .ref o2)] → W p_ l e_ room_1 s m args below meth c H1 lo1 (cells + 16) (slots + 3000) Q (F0 m 2472 ls1 [])) : W p_ l e_ room_1 s m args below meth c H lo cells slots Q (F0 m 38 ls []) := by
  have hx := hC.2.2.1
  have hb := hC.2.2.2.1
  refine lv_aload_n hx hb dL_law_38 rfl (lv_at hl 1 rfl) ?_
  refine lv_iload hx hb dL_law_39 (lv_at hl 0 rfl) ?_
  refine g_sld (q := 7 * n) hC hX hbl hS (by omega) (by omega) dL_law_41 ?_
  refine lv_bipush (v := 63) hx hb dL_law_42 (by decide) ?_
  refine lv_iand hx hb dL_law_44 ?_
  obtain ⟨j, hj, ej⟩ := pk_andE (xs (7 * n)) (m := 63) 6 (by decide)
  rw [ej]
  have hj : j < 64 := hj
  have et : (nI j).toInt = (j : Int) := nI_toInt (by omega)
  rcases (by omega : j = 0 ∨ j = 1 ∨ j = 2 ∨ j = 3 ∨ j = 4 ∨ j = 5 ∨ j = 6 ∨ j = 7 ∨ j = 8 ∨ j = 9 ∨ j = 10 ∨ j = 11 ∨ j = 12 ∨ j = 13 ∨ j = 14 ∨ j = 15 ∨ j = 16 ∨ j = 17 ∨ j = 18 ∨ j = 19 ∨ j = 20 ∨ j = 21 ∨ j = 22 ∨ j = 23 ∨ j = 24 ∨ j = 25 ∨ j = 26 ∨ j = 27 ∨ j = 28 ∨ j = 29 ∨ j = 30 ∨ j = 31 ∨ j = 32 ∨ j = 33 ∨ j = 34 ∨ 35 ≤ j) with rfl | rfl | rfl | rfl | rfl | rfl | rfl | rfl | rfl | rfl | rfl | rfl | rfl | rfl | rfl | rfl | rfl | rfl | rfl | rfl | rfl | rfl | rfl | rfl | rfl | rfl | rfl | rfl | rfl | rfl | rfl | rfl | rfl | rfl | rfl | hj35
  · exact lv_tableIn (tgt := 200) (off := 155) hx hb dL_law_45 (by decide) (by decide) (by decide) (by decide) (q_addPerson hE hst hL hX hbl hC hn hi hc1 hc2 hI hS hl kk)
  · exact lv_tableIn (tgt := 244) (off := 199) hx hb dL_law_45 (by decide) (by decide) (by decide) (by decide) (q_leave hE hst hL hX hbl hC hn hi hc1 hc2 hI hS hl kk)
  · exact lv_tableIn (tgt := 312) (off := 267) hx hb dL_law_45 (by decide) (by decide) (by decide) (by decide) (q_comeBack hE hst hL hX hbl hC hn hi hc1 hc2 hI hS hl kk)
  · exact lv_tableIn (tgt := 368) (off := 323) hx hb dL_law_45 (by decide) (by decide) (by decide) (by decide) (q_actsFor hE hst hL hX hbl hC hn hi hc1 hc2 hI hS hl kk)
  · exact lv_tableIn (tgt := 443) (off := 398) hx hb dL_law_45 (by decide) (by decide) (by decide) (by decide) (q_grant hE hst hL hX hbl hC hn hi hc1 hc2 hI hS hl kk)
  · exact lv_tableIn (tgt := 563) (off := 518) hx hb dL_law_45 (by decide) (by decide) (by decide) (by decide) (q_delegate hE hst hL hX hbl hC hn hi hc1 hc2 hI hS hl kk)
  · exact lv_tableIn (tgt := 667) (off := 622) hx hb dL_law_45 (by decide) (by decide) (by decide) (by decide) (q_lower hE hst hL hX hbl hC hn hi hc1 hc2 hI hS hl kk)
  · exact lv_tableIn (tgt := 735) (off := 690) hx hb dL_law_45 (by decide) (by decide) (by decide) (by decide) (q_revoke hE hst hL hX hbl hC hn hi hc1 hc2 hI hS hl kk)
  · exact lv_tableIn (tgt := 791) (off := 746) hx hb dL_law_45 (by decide) (by decide) (by decide) (by decide) (q_source hE hst hL hX hbl hC hn hi hc1 hc2 hI hS hl kk)
  · exact lv_tableIn (tgt := 847) (off := 802) hx hb dL_law_45 (by decide) (by decide) (by decide) (by decide) (q_limit hE hst hL hX hbl hC hn hi hc1 hc2 hI hS hl kk)
  · exact lv_tableIn (tgt := 903) (off := 858) hx hb dL_law_45 (by decide) (by decide) (by decide) (by decide) (q_fault hE hst hL hX hbl hC hn hi hc1 hc2 hI hS hl kk)
  · exact lv_tableIn (tgt := 971) (off := 926) hx hb dL_law_45 (by decide) (by decide) (by decide) (by decide) (q_faultDepth hE hst hL hX hbl hC hn hi hc1 hc2 hI hS hl kk)
  · exact lv_tableIn (tgt := 1039) (off := 994) hx hb dL_law_45 (by decide) (by decide) (by decide) (by decide) (q_reach hE hst hL hX hbl hC hn hi hc1 hc2 hI hS hl kk)
  · exact lv_tableIn (tgt := 1095) (off := 1050) hx hb dL_law_45 (by decide) (by decide) (by decide) (by decide) (q_canSign hE hst hL hX hbl hC hn hi hc1 hc2 hI hS hl kk)
  · exact lv_tableIn (tgt := 1182) (off := 1137) hx hb dL_law_45 (by decide) (by decide) (by decide) (by decide) (q_canSignTogether hE hst hL hX hbl hC hn hi hc1 hc2 hI hS hl kk)
  · exact lv_tableIn (tgt := 1281) (off := 1236) hx hb dL_law_45 (by decide) (by decide) (by decide) (by decide) (q_signers hE hst hL hX hbl hC hn hi hc1 hc2 hI hS hl kk)
  · exact lv_tableIn (tgt := 1349) (off := 1304) hx hb dL_law_45 (by decide) (by decide) (by decide) (by decide) (q_pairs hE hst hL hX hbl hC hn hi hc1 hc2 hI hS hl kk)
  · exact lv_tableIn (tgt := 1417) (off := 1372) hx hb dL_law_45 (by decide) (by decide) (by decide) (by decide) (q_pairsByTrying hE hst hL hX hbl hC hn hi hc1 hc2 hI hS hl kk)
  · exact lv_tableIn (tgt := 1485) (off := 1440) hx hb dL_law_45 (by decide) (by decide) (by decide) (by decide) (q_sign hE hst hL hX hbl hC hn hi hc1 hc2 hI hS hl kk)
  · exact lv_tableIn (tgt := 1577) (off := 1532) hx hb dL_law_45 (by decide) (by decide) (by decide) (by decide) (q_signTogether hE hst hL hX hbl hC hn hi hc1 hc2 hI hS hl kk)
  · exact lv_tableIn (tgt := 1681) (off := 1636) hx hb dL_law_45 (by decide) (by decide) (by decide) (by decide) (q_ratify hE hst hL hX hbl hC hn hi hc1 hc2 hI hS hl kk)
  · exact lv_tableIn (tgt := 1749) (off := 1704) hx hb dL_law_45 (by decide) (by decide) (by decide) (by decide) (q_annul hE hst hL hX hbl hC hn hi hc1 hc2 hI hS hl kk)
  · exact lv_tableIn (tgt := 1805) (off := 1760) hx hb dL_law_45 (by decide) (by decide) (by decide) (by decide) (q_status hE hst hL hX hbl hC hn hi hc1 hc2 hI hS hl kk)
  · exact lv_tableIn (tgt := 1861) (off := 1816) hx hb dL_law_45 (by decide) (by decide) (by decide) (by decide) (q_sum hE hst hL hX hbl hC hn hi hc1 hc2 hI hS hl kk)
  · exact lv_tableIn (tgt := 1917) (off := 1872) hx hb dL_law_45 (by decide) (by decide) (by decide) (by decide) (q_sumByPapers hE hst hL hX hbl hC hn hi hc1 hc2 hI hS hl kk)
  · exact lv_tableIn (tgt := 1973) (off := 1928) hx hb dL_law_45 (by decide) (by decide) (by decide) (by decide) (q_stands hE hst hL hX hbl hC hn hi hc1 hc2 hI hS hl kk)
  · exact lv_tableIn (tgt := 2036) (off := 1991) hx hb dL_law_45 (by decide) (by decide) (by decide) (by decide) (q_standsByPapers hE hst hL hX hbl hC hn hi hc1 hc2 hI hS hl kk)
  · exact lv_tableIn (tgt := 2099) (off := 2054) hx hb dL_law_45 (by decide) (by decide) (by decide) (by decide) (q_lack hE hst hL hX hbl hC hn hi hc1 hc2 hI hS hl kk)
  · exact lv_tableIn (tgt := 2155) (off := 2110) hx hb dL_law_45 (by decide) (by decide) (by decide) (by decide) (q_lackPower hE hst hL hX hbl hC hn hi hc1 hc2 hI hS hl kk)
  · exact lv_tableIn (tgt := 2211) (off := 2166) hx hb dL_law_45 (by decide) (by decide) (by decide) (by decide) (q_lackDepth hE hst hL hX hbl hC hn hi hc1 hc2 hI hS hl kk)
  · exact lv_tableIn (tgt := 2267) (off := 2222) hx hb dL_law_45 (by decide) (by decide) (by decide) (by decide) (q_setWindow hE hst hL hX hbl hC hn hi hc1 hc2 hI hS hl kk)
  · exact lv_tableIn (tgt := 2323) (off := 2278) hx hb dL_law_45 (by decide) (by decide) (by decide) (by decide) (q_pass hE hst hL hX hbl hC hn hi hc1 hc2 hI hS hl kk)
  · exact lv_tableIn (tgt := 2379) (off := 2334) hx hb dL_law_45 (by decide) (by decide) (by decide) (by decide) (q_today hE hst hL hX hbl hC hn hi hc1 hc2 hI hS hl kk)
  · exact lv_tableIn (tgt := 2392) (off := 2347) hx hb dL_law_45 (by decide) (by decide) (by decide) (by decide) (q_bound hE hst hL hX hbl hC hn hi hc1 hc2 hI hS hl kk)
  · exact lv_tableIn (tgt := 2406) (off := 2361) hx hb dL_law_45 (by decide) (by decide) (by decide) (by decide) (q_standingShare hE hst hL hX hbl hC hn hi hc1 hc2 hI hS hl kk)
  · refine lv_tableOut (tgt := 2472) hx hb dL_law_45 (Or.inr (by rw [et]; omega)) (by decide) ?_
    exact W.widen (k := cells + 16) (n := slots + 3000) (by omega) (by omega) (kk H lo ls hI.up hS hl)
set_option maxHeartbeats 4000000 in
set_option maxRecDepth 100000 in
theorem q_loop {p_ : Program} {l : Launch} {e_ : Env} {s : State} {m : MethodId} {args : Array Value} {below : List Frame} {meth : Method} {c : Code} {Q : State → Prop} {E : gV} (hE : gOK l E) {β : Nat → Nat} {a0 o1 o2 b L : Nat} {xs : Nat → Int32} (hst : lS E β o1 o2) (hL : L ≤ 3584) (hX : va_X b L xs s E.2.1.heap) (hbl : b < E.2.1.heap.size) (hC : gC l E p_ s m meth c RL cL_law 8)
    (fin : ∀ (H1 : Heap) (lo1 : List Loc) (ls1 : Array Slot) (cells slots : Nat), cells ≤ 601024 → slots ≤ 7293034 → va_S (gA0 E) E.2.1.heap H1 lo1 → ls1.size = 8 → W p_ l e_ room_1 s m args below meth c H1 lo1 cells slots Q (F0 m 2478 ls1 [])) :
    ∀ (d n cells slots : Nat) (H : Heap) (lo : List Loc) (ls : Array Slot), n + d = 512 → cells + 16 * d ≤ 601024 → slots + 3000 * d ≤ 7293034 → LI E β a0 o1 o2 n H → va_S (gA0 E) E.2.1.heap H lo → lv_has ls 8 [(5, .int (nI (7 * n))), (0, .ref b), (1, .ref a0), (2, .ref (β 19)), (3, .ref o1), (4, .ref o2)] → W p_ l e_ room_1 s m args below meth c H lo cells slots Q (F0 m 28 ls []) := by
  have hx := hC.2.2.1
  have hb := hC.2.2.2.1
  intro d
  induction d with
  | zero =>
    intro n cells slots H lo ls hn hc1 hc2 hI hS hl
    refine lv_iload hx hb dL_law_28 (lv_at hl 0 rfl) ?_
    refine lv_aload_n hx hb dL_law_30 rfl (lv_at hl 1 rfl) ?_
    refine va_slen hx hb hX hbl (Nat.not_le.mpr hbl) hS dL_law_31 ?_
    refine lv_bipush (v := 7) hx hb dL_law_32 (by decide) ?_
    refine lv_isub hx hb dL_law_34 ?_
    have e7 : (Int32.ofNat L - 7).toInt = (L : Int) - 7 := pk_sub_toInt (a := L) (b := 7) (by omega) (by omega)
    have ei : (nI (7 * n)).toInt = ((7 * n : Nat) : Int) := nI_toInt (by omega)
    refine lv_icmp_gt (tgt := 2478) hx hb dL_law_35 (by decide) (fun cg => ?_) (fun cg => ?_)
    · exact fin H lo ls cells slots (by omega) (by omega) hS hl.1
    · exfalso
      have c2 := Int32.not_lt.mp cg
      rw [Int32.le_iff_toInt_le, e7, ei] at c2
      omega
  | succ d ih =>
    intro n cells slots H lo ls hn hc1 hc2 hI hS hl
    refine lv_iload hx hb dL_law_28 (lv_at hl 0 rfl) ?_
    refine lv_aload_n hx hb dL_law_30 rfl (lv_at hl 1 rfl) ?_
    refine va_slen hx hb hX hbl (Nat.not_le.mpr hbl) hS dL_law_31 ?_
    refine lv_bipush (v := 7) hx hb dL_law_32 (by decide) ?_
    refine lv_isub hx hb dL_law_34 ?_
    have e7 : (Int32.ofNat L - 7).toInt = (L : Int) - 7 := pk_sub_toInt (a := L) (b := 7) (by omega) (by omega)
    have ei : (nI (7 * n)).toInt = ((7 * n : Nat) : Int) := nI_toInt (by omega)
    refine lv_icmp_gt (tgt := 2478) hx hb dL_law_35 (by decide) (fun cg => ?_) (fun cg => ?_)
    · exact fin H lo ls cells slots (by omega) (by omega) hS hl.1
    · have c2 := Int32.not_lt.mp cg
      rw [Int32.le_iff_toInt_le, e7, ei] at c2
      refine q_step hE hst hL hX hbl hC (n := n) (by omega) (by omega) (by omega) (by omega) hI hS hl (fun H lo ls hI hS hl => ?_)
      refine lv_iinc (v := nI (7 * (n + 1))) (lv' := [(5, .int (nI (7 * (n + 1)))), (0, .ref b), (1, .ref a0), (2, .ref (β 19)), (3, .ref o1), (4, .ref o2)]) hx hb dL_law_2472 hl (k := 0) rfl (by rw [show 7 * (n + 1) = 7 * n + 7 by omega, ← nI_add]; rfl) (by decide) rfl (fun ls hl => ?_)
      refine lv_goto (tgt := 28) hx hb dL_law_2475 (by decide) ?_
      exact ih (n + 1) (cells + 16) (slots + 3000) H lo ls (by omega) (by omega) (by omega) hI hS hl
