/-! THE START -/
theorem arr_K {args : Array Value} {s : State} {ty : FieldType} (harr : (Cond.arrayClass ty).before args s = true) (hob : ∀ C, ty ≠ .object C) : ∃ cA : ClassId, ArrOfT s cA ty ∧ va_RA s cA ty := by
  obtain ⟨cA, kA, comp, h1, h2, h3⟩ := Cond.arrayClass_spec (first := s) (o := none) (s := s) (idx := []) harr
  refine ⟨cA, fun n z => ⟨fun k h => (by cases h), kA, h2, comp, h3⟩, ?_⟩
  cases ty <;> first | exact h1 | exact absurd rfl (hob _)
theorem arr_O {args : Array Value} {s : State} (harr : (Cond.arrayOver (.object "java/lang/Object")).before args s = true) : ∃ cA : ClassId, ArrOfT s cA (.object "java/lang/Object") ∧ va_RA s cA (.object "java/lang/Object") := by
  obtain ⟨comp, cA, kA, h1, -, h2, h3, h4⟩ := Cond.arrayOver_spec (first := s) (o := none) (s := s) (idx := []) harr
  exact ⟨cA, fun n z => ⟨fun k h => (by cases h), kA, h2, comp, h3⟩, kA, comp, h2, h3, h1, h4⟩
theorem start_K {b : Nat} {s : State} (hts : ∀ w ∈ lw_tbl, w.before #[Value.ref b] s = true) : ∃ (D : va_G) (y : Nat → ClassId), va_K D vwCl (gT y) s := by
  obtain ⟨c0, i0, h0⟩ := u_known (C := RJx4a65c) (T := TJx4a65c) (N := 3) (n := 3) hts uJ_in (hts _ k_37)
  obtain ⟨c1, i1, h1⟩ := u_known (C := RX0) (T := TX0) (N := 16) (n := 16) hts u0_in (hts _ k_686)
  obtain ⟨c2, i2, h2⟩ := u_known (C := RX1) (T := TX1) (N := 6) (n := 6) hts u1_in (hts _ k_63)
  obtain ⟨c3, i3, h3⟩ := u_known (C := RX2) (T := TX2) (N := 3) (n := 3) hts u2_in (hts _ k_296)
  obtain ⟨c4, i4, h4⟩ := u_known (C := RX3) (T := TX3) (N := 7) (n := 7) hts u3_in (hts _ k_432)
  obtain ⟨c5, i5, h5⟩ := u_known (C := RX4) (T := TX4) (N := 6) (n := 6) hts u4_in (hts _ k_29)
  obtain ⟨c6, i6, h6⟩ := u_known (C := RX5) (T := TX5) (N := 26) (n := 26) hts u5_in (hts _ k_991)
  obtain ⟨y0, g0⟩ := arr_K (ty := .int) (hts _ k_93) (fun C h => by cases h)
  obtain ⟨y1, g1⟩ := arr_K (ty := .boolean) (hts _ k_94) (fun C h => by cases h)
  obtain ⟨y2, g2⟩ := arr_K (ty := .char) (hts _ k_1075) (fun C h => by cases h)
  obtain ⟨y3, g3⟩ := arr_O (hts _ k_368)
  obtain ⟨y4, g4⟩ := arr_K (ty := .long) (hts _ k_1302) (fun C h => by cases h)
  obtain ⟨y5, g5⟩ := arr_K (ty := .double) (hts _ k_1303) (fun C h => by cases h)
  refine ⟨(fun k => if k = 0 then c0 else if k = 1 then c1 else if k = 2 then c2 else if k = 3 then c3 else if k = 4 then c4 else if k = 5 then c5 else c6, fun k => if k = 0 then i0 else if k = 1 then i1 else if k = 2 then i2 else if k = 3 then i3 else if k = 4 then i4 else if k = 5 then i5 else i6), fun k => if k = 0 then y0 else if k = 1 then y1 else if k = 2 then y2 else if k = 3 then y3 else if k = 4 then y4 else y5, fun k q hq => ?_, fun k q hq => ?_⟩
  · match k, hq with
    | 0, hq => cases hq; exact h0
    | 1, hq => cases hq; exact h1
    | 2, hq => cases hq; exact h2
    | 3, hq => cases hq; exact h3
    | 4, hq => cases hq; exact h4
    | 5, hq => cases hq; exact h5
    | 6, hq => cases hq; exact h6
    | k + 7, hq => simp at hq
  · match k, hq with
    | 0, hq => cases hq; exact g0
    | 1, hq => cases hq; exact g1
    | 2, hq => cases hq; exact g2
    | 3, hq => cases hq; exact g3
    | 4, hq => cases hq; exact g4
    | 5, hq => cases hq; exact g5
    | k + 6, hq => simp [gT] at hq
set_option maxHeartbeats 4000000 in
set_option maxRecDepth 100000 in
theorem whole_start {p : Program} {e : Env} {s : State} {m : MethodId} {below : List Frame} {meth : Method} {c : Code} (l : Launch) (hflags : l.flags = flags0) {b L : Nat} {xs : Nat → Int32} (hL : L ≤ 3584) (C0 : lw_At p s m meth c b L xs) : W p l e room_1 s m #[Value.ref b] below meth c s.heap [] 0 0 (lw_Z below #[Value.ref b] s) (entryFrame m ([Value.ref b] : List Value).toArray 8) := by
  obtain ⟨hx, hb, hr, hml, hown, hts, hX, hbl, hlocks, hgv⟩ := id C0
  obtain ⟨D, y, hKn⟩ := start_K hts
  obtain ⟨E, eE⟩ : ∃ E : gV, E = (b, s, D, y) := ⟨_, rfl⟩
  have hfl : l.stackTraces = false := by unfold Launch.stackTraces; rw [hflags]; decide
  have hE : gOK l E := by rw [eE]; exact ⟨hfl, hts, hgv, hKn⟩
  have eS : E.2.1 = s := by rw [eE]
  have hC : gC l E p s m meth c RL cL_law 8 := ⟨hE, by rw [eS]; exact State.WarmedH.refl s, hx, hb, hml, hown, hlocks⟩
  have hX : va_X b L xs s E.2.1.heap := by rw [eS]; exact hX
  have hbl : b < E.2.1.heap.size := by rw [eS]; exact hbl
  have hS : va_S (gA0 E) s.heap s.heap [] := va_S.rf
  have hAl : ∀ q, s.heap.size ≤ q → gA0 E q := fun q hq => by show E.2.1.heap.size ≤ q; rw [eS]; exact hq
  have hF : gFz E s.heap := fun q _ => by rw [eS]
  have hl := lv_entry ([.ref b]) (n := 8) (Nat.le_of_ble_eq_true rfl)
  rw [lg_entry_eq]
  generalize (lg_sl ([.ref b]) ++ List.replicate (8 - (lg_sl ([.ref b])).length) Slot.unset).toArray = ls at hl ⊢
  have hl : lv_has ls 8 [(0, .ref b)] := hl
  obtain ⟨a, ha⟩ : ∃ a, a = s.heap.size := ⟨_, rfl⟩
  have haE : E.2.1.heap.size ≤ a := by rw [eS]; omega
  refine g_nwo (q := a) (ci := 5) ha.symm hC rfl u4_in tyX4 tyX4_ok k_28 k_29 k_1 bl4_ok hS hAl (Nat.le_of_ble_eq_true rfl) (Nat.le_of_ble_eq_true rfl) dL_law_0 (fun H hO hz1 ho1 hS => ?_)
  refine lv_dup hx hb dL_law_3 rfl ?_
  refine g_cWv (k2 := 14) (n2 := 206) (g_runI (rest := [.ref a]) hC (c_X4_init hE a (a + 1) haE) Y_X4_init k_30 I_X4_init rfl ⟨hF.kept (fun q hq => ho1 q (by omega)), hz1, hO⟩ rfl hl.1 dL_law_4 ⟨Nat.le_of_ble_eq_true rfl, Nat.le_of_ble_eq_true rfl⟩ ⟨Nat.le_of_ble_eq_true rfl, Nat.le_of_ble_eq_true rfl⟩ rfl (Nat.le_of_ble_eq_true rfl)) hS (fun q h => hAl q (by rcases h with h | h <;> omega)) rfl rfl (fun H lo hx_ hz_ hk_ hS => ?_)
  obtain ⟨hz2, t, hR⟩ := hx_
  refine lv_astore_n (lv' := [(1, .ref a), (0, .ref b)]) hx hb dL_law_7 rfl hl (by decide) rfl (fun ls hl => ?_)
  obtain ⟨a2, ha2⟩ : ∃ a2, a2 = a + 14 := ⟨_, rfl⟩
  refine g_nwo (q := a2) (ci := 6) (by omega) hC rfl u5_in tyX5 tyX5_ok k_990 k_991 k_6 bl5_ok hS hAl (Nat.le_of_ble_eq_true rfl) (Nat.le_of_ble_eq_true rfl) dL_law_8 (fun H hO hz3 ho3 hS => ?_)
  have hR := hR.keep (fun q hq => ho3 q (by omega))
  refine lv_dup hx hb dL_law_11 rfl ?_
  refine g_cWv (k2 := 34) (n2 := 632) (g_runI (rest := [.ref a2]) hC (c_X5_init hE a2 (a2 + 1)) Y_X5_init k_992 I_X5_init rfl ⟨hz3, hO⟩ rfl hl.1 dL_law_12 ⟨Nat.le_of_ble_eq_true rfl, Nat.le_of_ble_eq_true rfl⟩ ⟨Nat.le_of_ble_eq_true rfl, Nat.le_of_ble_eq_true rfl⟩ rfl (Nat.le_of_ble_eq_true rfl)) hS (fun q h => hAl q (by rcases h with h | h <;> omega)) rfl rfl (fun H lo hx_ hz_ hk_ hS => ?_)
  obtain ⟨hz4, hM⟩ := hx_
  have hV : ∀ k i, xV nZ k i → k = 3 ∧ i < 14 := fun k i h => by
    rcases h with ⟨-, h⟩ | ⟨h, h1 | ⟨j, -, -, h1⟩⟩
    · exact absurd h (Nat.not_lt_zero i)
    · exact ⟨h, h1⟩
    · exact absurd h1 (Nat.not_lt_zero 0)
  have hlt : ∀ k i, xV nZ k i → aNew a (a + 1) t k i < a2 := fun k i h => by
    obtain ⟨rfl, hi⟩ := hV k i h
    unfold aNew
    simp only [if_true]
    (repeat' split) <;> omega
  have hR : RX E (aNew a (a + 1) t) fZ (fun _ => mZ) nZ H := by
    have hB : RB E (fun q => a2 ≤ q ∧ q < a2 + 1) (aNew a (a + 1) t) fZ (fun _ => mZ) nZ _ := ⟨hR, fun k i v z => by have := hlt k i v; omega, fun q z => by omega⟩
    exact (hB.keepB (fun q z => by rw [eS]; omega) hz_ (fun q h1 h2 => hk_ q h1 (fun z => h2 (by rcases z with z | z <;> omega)))).1
  refine lv_astore_n (lv' := [(2, .ref a2), (1, .ref a), (0, .ref b)]) hx hb dL_law_15 rfl hl (by decide) rfl (fun ls hl => ?_)
  refine lv_iconst (v := 1) hx hb dL_law_16 (by decide) ?_
  obtain ⟨o1, ho1_⟩ : ∃ o1, o1 = H.size := ⟨_, rfl⟩
  refine g_newa (n := 1) (atype := .long) (ty := .long) 4 (a0 := (1, .inr (.inl (fun _ => 0)))) hC k_1302 rfl rfl (fun C h => by cases h) (fun cA => rfl) (by decide) (by decide) hS hAl (Nat.le_of_ble_eq_true rfl) (Nat.le_of_ble_eq_true rfl) dL_law_17 (fun H hO1 hz5 ho5 hS => ?_)
  rw [← ho1_] at hO1 hz5 ho5 ⊢
  have hR := hR.keep (fun q hq => ho5 q (by omega))
  have hM := hM.kept (fun k hk => ho5 _ (by have := hM.lt k hk; omega))
  refine lv_astore_n (lv' := [(3, .ref o1), (2, .ref a2), (1, .ref a), (0, .ref b)]) hx hb dL_law_19 rfl hl (by decide) rfl (fun ls hl => ?_)
  refine lv_iconst (v := 1) hx hb dL_law_20 (by decide) ?_
  obtain ⟨o2, ho2_⟩ : ∃ o2, o2 = H.size := ⟨_, rfl⟩
  refine g_newa (n := 1) (atype := .double) (ty := .double) 5 (a0 := (1, .inr (.inr (.inr (.inl (fun _ => 0)))))) hC k_1303 rfl rfl (fun C h => by cases h) (fun cA => rfl) (by decide) (by decide) hS hAl (Nat.le_of_ble_eq_true rfl) (Nat.le_of_ble_eq_true rfl) dL_law_21 (fun H hO2 hz6 ho6 hS => ?_)
  rw [← ho2_] at hO2 hz6 ho6 ⊢
  have hR := hR.keep (fun q hq => ho6 q (by omega))
  have hM := hM.kept (fun k hk => ho6 _ (by have := hM.lt k hk; omega))
  have hO1 := hO1.kept (ho6 _ (by omega))
  refine lv_astore (lv' := [(4, .ref o2), (3, .ref o1), (2, .ref a2), (1, .ref a), (0, .ref b)]) hx hb dL_law_23 hl (by decide) rfl (fun ls hl => ?_)
  refine lv_iconst (v := 0) hx hb dL_law_25 (by decide) ?_
  refine lv_istore (lv' := [(5, .int 0), (4, .ref o2), (3, .ref o1), (2, .ref a2), (1, .ref a), (0, .ref b)]) hx hb dL_law_26 hl (by decide) rfl (fun ls hl => ?_)
  obtain ⟨β, eβ⟩ : ∃ β : Nat → Nat, β = (fun k => if k = 19 then a2 else a2 + 1 + k) := ⟨_, rfl⟩
  rw [← eβ] at hM
  have hβ : ∀ k, k < 20 → a2 ≤ β k ∧ β k < a2 + 20 := fun k hk => by rw [eβ]; simp only; split <;> omega
  have e19 : β 19 = a2 := by rw [eβ]; rfl
  have hst : lS E β o1 o2 := ⟨by omega, fun k hk => ⟨by have := hβ k hk; omega, by have := hβ k hk; omega, by have := hβ k hk; rw [eS]; omega⟩, by rw [eS]; omega, by rw [eS]; omega⟩
  have hRB : RB E (lB β o1 o2) (aNew a (a + 1) t) fZ (fun _ => mZ) nZ H := ⟨hR, fun k i v z => by
    have h1 := hlt k i v
    rcases z with ⟨k2, hk2, z⟩ | z | z
    · have := hβ k2 hk2; omega
    · omega
    · omega, fun q z => by
    rcases z with ⟨k2, hk2, z⟩ | z | z
    · have := hβ k2 hk2; omega
    · omega
    · omega⟩
  have hI : LI E β a o1 o2 0 H := ⟨_, _, _, _, _, _, _, _, _, _, hRB, rfl, hM, hO1, hO2, lk_new, Nat.le_refl _⟩
  rw [← e19] at hl
  have hS : va_S (gA0 E) E.2.1.heap H lo := by rw [eS]; exact hS
  refine q_loop hE hst hL hX hbl hC (fun H1 lo1 ls1 cells slots h1 h2 hS hsz => ?_) 512 0 _ _ H lo ls (by omega) (Nat.le_of_ble_eq_true rfl) (Nat.le_of_ble_eq_true rfl) hI hS (lv_sub hl [0, 5, 4, 3, 2, 1] rfl)
  refine lv_iconst (v := 1) hx hb dL_law_2478 (by decide) ?_
  refine va_forget (fun q hq => ?_) ?_
  · have := hS.2.2 q hq
    rw [← eS]
    exact this
  refine W.widen h1 h2 ?_
  exact lw_ret (d0 := s.drawn) (Drawn.sameBut.refl s.drawn lw_cs) hx hb hr hlocks dL_law_2479
