/-! THE START -/
theorem arr_K {args : Array Value} {s : State} {ty : FieldType} (harr : (Cond.arrayClass ty).before args s = true) (hob : ∀ C, ty ≠ .object C) : ∃ cA : ClassId, ArrOfT s cA ty ∧ va_RA s cA ty := by
  obtain ⟨cA, kA, comp, h1, h2, h3⟩ := Cond.arrayClass_spec (first := s) (o := none) (s := s) (idx := []) harr
  refine ⟨cA, fun n z => ⟨fun k h => (by cases h), kA, h2, comp, h3⟩, ?_⟩
  cases ty <;> first | exact h1 | exact absurd rfl (hob _)
theorem arr_O {args : Array Value} {s : State} (harr : (Cond.arrayOver (.object "java/lang/Object")).before args s = true) : ∃ cA : ClassId, ArrOfT s cA (.object "java/lang/Object") ∧ va_RA s cA (.object "java/lang/Object") := by
  obtain ⟨comp, cA, kA, h1, -, h2, h3, h4⟩ := Cond.arrayOver_spec (first := s) (o := none) (s := s) (idx := []) harr
  exact ⟨cA, fun n z => ⟨fun k h => (by cases h), kA, h2, comp, h3⟩, kA, comp, h2, h3, h1, h4⟩
theorem start_K {b : Nat} {s : State} (hts : ∀ w ∈ lw_tbl, w.before #[Value.ref b] s = true) : ∃ (D : va_G) (y : Nat → ClassId), va_K D vwCl (gT y) s := by
  obtain ⟨c0, i0, h0⟩ := u_known (C := RJx4a65c) (T := TJx4a65c) (N := 3) (n := 3) hts uJ_in (hts _ k_186)
  obtain ⟨c1, i1, h1⟩ := u_known (C := RX0) (T := TX0) (N := 16) (n := 16) hts u0_in (hts _ k_295)
  obtain ⟨c2, i2, h2⟩ := u_known (C := RX1) (T := TX1) (N := 6) (n := 6) hts u1_in (hts _ k_412)
  obtain ⟨c3, i3, h3⟩ := u_known (C := RX2) (T := TX2) (N := 3) (n := 3) hts u2_in (hts _ k_146)
  obtain ⟨c4, i4, h4⟩ := u_known (C := RX3) (T := TX3) (N := 7) (n := 7) hts u3_in (hts _ k_783)
  obtain ⟨c5, i5, h5⟩ := u_known (C := RX4) (T := TX4) (N := 6) (n := 6) hts u4_in (hts _ k_39)
  obtain ⟨y0, g0⟩ := arr_K (ty := .int) (hts _ k_724) (fun C h => by cases h)
  obtain ⟨y1, g1⟩ := arr_K (ty := .boolean) (hts _ k_725) (fun C h => by cases h)
  obtain ⟨y3, g3⟩ := arr_O (hts _ k_230)
  refine ⟨(fun k => if k = 0 then c0 else if k = 1 then c1 else if k = 2 then c2 else if k = 3 then c3 else if k = 4 then c4 else c5, fun k => if k = 0 then i0 else if k = 1 then i1 else if k = 2 then i2 else if k = 3 then i3 else if k = 4 then i4 else i5), fun k => if k = 0 then y0 else if k = 1 then y1 else if k = 2 then y0 else y3, fun k q hq => ?_, fun k q hq => ?_⟩
  · match k, hq with
    | 0, hq => cases hq; exact h0
    | 1, hq => cases hq; exact h1
    | 2, hq => cases hq; exact h2
    | 3, hq => cases hq; exact h3
    | 4, hq => cases hq; exact h4
    | 5, hq => cases hq; exact h5
    | k + 6, hq => simp at hq
  · match k, hq with
    | 0, hq => cases hq; exact g0
    | 1, hq => cases hq; exact g1
    | 2, hq => cases hq; exact g0
    | 3, hq => cases hq; exact g3
    | k + 4, hq => simp [gT] at hq
set_option maxHeartbeats 4000000 in
set_option maxRecDepth 100000 in
theorem whole_start {p : Program} {e : Env} {s : State} {m : MethodId} {below : List Frame} {meth : Method} {c : Code} (l : Launch) (hflags : l.flags = flags0) {b L : Nat} {xs : Nat → Int32} (hL : L ≤ 260) (C0 : lw_At p s m meth c b L xs) : W p l e room_1 s m #[Value.ref b] below meth c s.heap [] 0 0 (lw_Z below #[Value.ref b] s) (entryFrame m ([Value.ref b] : List Value).toArray 8) := by
  obtain ⟨hx, hb, hr, hml, hown, hts, hX, hbl, hlocks, hgv⟩ := id C0
  obtain ⟨D, y, hKn⟩ := start_K hts
  obtain ⟨E, eE⟩ : ∃ E : gV, E = (b, s, D, y) := ⟨_, rfl⟩
  have hfl : l.stackTraces = false := by unfold Launch.stackTraces; rw [hflags]; decide
  have hE : gOK l E := by rw [eE]; exact ⟨hfl, hts, hgv, hKn⟩
  have eS : E.2.1 = s := by rw [eE]
  have hC : gC l E p s m meth c RL cL_law 8 := ⟨hE, by rw [eS]; exact State.WarmedH.refl s, hx, hb, hml, hown, hlocks⟩
  have hX : va_X b L xs E.2.1 E.2.1.heap := by rw [eS]; exact hX
  have hbl : b < E.2.1.heap.size := by rw [eS]; exact hbl
  have hL : L < 2 ^ 31 := by omega
  have hS : va_S (gA0 E) s.heap s.heap [] := va_S.rf
  have hAl : ∀ q, s.heap.size ≤ q → gA0 E q := fun q hq => by show E.2.1.heap.size ≤ q; rw [eS]; exact hq
  have hF : gFz E s.heap := fun q _ => by rw [eS]
  have hl := lv_entry ([.ref b]) (n := 8) (Nat.le_of_ble_eq_true rfl)
  rw [lg_entry_eq]
  generalize (lg_sl ([.ref b]) ++ List.replicate (8 - (lg_sl ([.ref b])).length) Slot.unset).toArray = ls at hl ⊢
  have hl : lv_has ls 8 [(0, .ref b)] := hl
  obtain ⟨nb, hnbe⟩ : ∃ nb, nb = s.heap.size := ⟨_, rfl⟩
  have hnb : E.2.1.heap.size ≤ nb := by rw [eS]; omega
  refine lv_sipush (v := 450) hx hb dL_law_0 (by decide) ?_
  refine g_nwa (n := 450) (q := nb) (atype := .int) (ty := .int) 0 hnbe.symm hC k_724 rfl rfl (fun C h => by cases h) rfl (by decide) (by decide) hS hAl (Nat.le_of_ble_eq_true rfl) (Nat.le_of_ble_eq_true rfl) dL_law_3 (fun H hA hz1 ho1 hS => ?_)
  have hF := hF.kept (fun q hq => ho1 q (by rw [eS] at hq; omega))
  refine lv_astore_n (lv' := [(1, .ref nb), (0, .ref b)]) hx hb dL_law_5 rfl hl (by decide) rfl (fun ls hl => ?_)
  refine lv_aload_n hx hb dL_law_6 rfl (lv_at hl 1 rfl) ?_
  refine lv_aload_n hx hb dL_law_7 rfl (lv_at hl 0 rfl) ?_
  refine g_cWr (k2 := 101) (n2 := 21192) (g_runS (rest := []) hC (c_L_begun hE hX hbl hL hnb) Y_L_begun k_663 S_L_begun ⟨hF, hA⟩ rfl hl.1 dL_law_8 ⟨Nat.le_of_ble_eq_true rfl, Nat.le_of_ble_eq_true rfl⟩ ⟨Nat.le_of_ble_eq_true rfl, Nat.le_of_ble_eq_true rfl⟩ rfl (Nat.le_of_ble_eq_true rfl)) hS (fun _ h => h) rfl rfl (fun oa H lo hJ hz_ hk_ hS => ?_)
  obtain ⟨f, μ, K, ⟨hSI, hA, hN⟩, h2, h1⟩ := hJ
  have hb2 := hN.b2
  have hn3 : 10 < 500 := by omega
  refine lv_astore_n (lv' := [(2, .ref oa), (1, .ref nb), (0, .ref b)]) hx hb dL_law_11 rfl hl (by decide) rfl (fun ls hl => ?_)
  refine lv_aload_n hx hb dL_law_12 rfl (lv_at hl 0 rfl) ?_
  refine lv_ifnull hx hb dL_law_13 ?_
  refine lv_aload_n hx hb dL_law_16 rfl (lv_at hl 0 rfl) ?_
  refine lv_aload_n hx hb dL_law_17 rfl (lv_at hl 1 rfl) ?_
  refine g_cWi (k2 := 102) (n2 := 21198) (g_runS (rest := []) hC (c_L_areFigures hE hN hnb hn3) Y_L_areFigures k_936 S_L_areFigures ⟨hSI, hA⟩ rfl hl.1 dL_law_18 ⟨Nat.le_of_ble_eq_true rfl, Nat.le_of_ble_eq_true rfl⟩ ⟨Nat.le_of_ble_eq_true rfl, Nat.le_of_ble_eq_true rfl⟩ rfl (Nat.le_of_ble_eq_true rfl)) hS (fun _ h => h) rfl rfl (fun r1_ H lo h2_ hz_ hk_ hS => ?_)
  obtain ⟨rfl, hT⟩ := h2_
  refine lv_if_ne (tgt := 26) hx hb dL_law_21 (by decide) (fun c3_ => ?_) (fun c3_ => ?_)
  · refine lv_iconst (v := 0) hx hb dL_law_26 (by decide) ?_
    refine lv_istore_n (lv' := [(3, .int 0), (2, .ref oa), (1, .ref nb), (0, .ref b)]) hx hb dL_law_27 rfl hl (by decide) rfl (fun ls hl => ?_)
    have hS : va_S (gA0 E) E.2.1.heap H lo := by rw [eS]; exact hS
    refine q_loop hE hX hbl hL hnb hC (fun H lo ls cells slots g1 g2 hJ hS hl => ?_) 34 0 90 10 _ _ H lo ls rfl (by omega) (by omega) (Nat.le_of_ble_eq_true rfl) (Nat.le_of_ble_eq_true rfl) ⟨f, μ, K, ⟨hT.1, hT.2, hN⟩, h2, h1⟩ hS (lv_sub hl [3, 2, 1, 0] rfl)
    refine q_tail hE hX hbl hL hnb hC (by omega) (by omega) hJ hS hl (fun H lo ls hS hsz => ?_)
    refine va_forget (fun q hq => ?_) ?_
    · have := hS.2.2 q hq
      rw [← eS]
      exact this
    refine W.widen (show cells + 200 ≤ 600074 by omega) (show slots + 20000 ≤ 7301550 by omega) ?_
    exact lw_ret (d0 := s.drawn) (Drawn.sameBut.refl s.drawn lw_cs) hx hb hr hlocks dL_law_483
  · exact absurd c3_ (by decide)
