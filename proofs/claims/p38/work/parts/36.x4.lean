set_option maxHeartbeats 4000000 in
set_option maxRecDepth 100000 in
theorem c_X4_tell {l : Launch} {E : gV} (hE : gOK l E) {α : Nat → Nat → Nat} {ξ : F2} {M : Nat → F2} {N : Nat → Nat} {B : Nat → Prop} (m1 s1 v1 : Int32) (hn : N 2 < 512) : gM l E yX4_tell cX4_tell 5 none ({ frames := 9, cells := 2, slots := 1003, locals := 231 } : Room) [.ref (α 3 0), .int m1, .int s1, .int v1] (fun H => RB E B α ξ M N H) (gQW (gAB E B) (gWv (fun H => ∃ x t2, RB E B (aAdd α 2 (N 2) x t2) (papX ξ (N 2) m1 s1 v1) (updM M 0 (tk (M 0) m1 s1 v1)) (updN N 2 (N 2 + 1)) H))) (fun _ => False) (gAB E B) := by
  refine gM_body hE (by decide +kernel) (Nat.le_of_ble_eq_true rfl) ?_
  intro p_ e_ s m args below meth c hC ht hr hname hP ls hl
  have hx := hC.2.2.1
  have hb := hC.2.2.2.1
  have hl : lv_has ls 5 [(0, .ref (α 3 0)), (1, .int m1), (2, .int s1), (3, .int v1)] := hl
  have hS : va_S ((gAB E B)) s.heap s.heap [] := va_S.rf
  have hRB : RB E B α ξ M N s.heap := hP
  have hR : RX E α ξ M N s.heap := hRB.1
  have hSr := hR.inv.src (M 0)
  obtain ⟨hN0, hN1, hN2, hN3, -, hHo, hDe⟩ := hR.inv
  have hAl : ∀ q, s.heap.size ≤ q → gAB E B q := fun q hq => hRB.al hq
  obtain ⟨x, hx_⟩ : ∃ x, x = s.heap.size := ⟨_, rfl⟩
  refine g_nwo (q := x) (ci := 3) hx_.symm hC rfl u2_in tyX2 tyX2_ok k_145 k_146 k_17 bl2_ok hS hAl (Nat.le_of_ble_eq_true rfl) (Nat.le_of_ble_eq_true rfl) dX4_tell_0 (fun H hB hz_ ho_ hS => ?_)
  have hxE : E.2.1.heap.size ≤ x := by have := gFz.le hR.frz; omega
  have hxn := hR.notV (x := x) (by omega)
  have hxB : ¬ B x := fun z => by have := hRB.2.2 x z; omega
  have hRB := hRB.keep (by omega) (fun q hq => ho_ q (by omega))
  have hR := hRB.1
  have hxl : x < H.size := by omega
  refine lv_dup hx hb dX4_tell_3 rfl ?_
  refine lv_iload_n hx hb dX4_tell_4 rfl (lv_at hl 1 rfl) ?_
  refine lv_iload_n hx hb dX4_tell_5 rfl (lv_at hl 2 rfl) ?_
  refine lv_iload_n hx hb dX4_tell_6 rfl (lv_at hl 3 rfl) ?_
  refine g_cWv (k2 := 1) (n2 := 3) (g_runI (rest := [.ref x]) hC (c_X2_init hE x m1 s1 v1) Y_X2_init k_147 I_X2_init rfl hB rfl hl.1 dX4_tell_7 ⟨Nat.le_of_ble_eq_true rfl, Nat.le_of_ble_eq_true rfl⟩ ⟨Nat.le_of_ble_eq_true rfl, Nat.le_of_ble_eq_true rfl⟩ rfl (Nat.le_of_ble_eq_true rfl)) hS (fun q h => by rw [h]; exact ⟨hxE, hxB⟩) rfl rfl (fun H lo h2_ hz_ hk_ hS => ?_)
  have hB := h2_
  have hRB := hRB.keepN hxn hxE hz_ (fun q h1 h2 => hk_ q h1 h2)
  have hR := hRB.1
  have hxl : x < H.size := by omega
  refine lv_astore (lv' := [(4, .ref x), (0, .ref (α 3 0)), (1, .int m1), (2, .int s1), (3, .int v1)]) hx hb dX4_tell_10 hl (by decide) rfl (fun ls hl => ?_)
  refine lv_aload_n hx hb dX4_tell_12 rfl (lv_at hl 1 rfl) ?_
  refine g_get (v := .ref (α 3 3)) hC hR.sig (C := RX4) (T := TX4) (N := 6) rfl u4_in 2 (by decide) k_728 rfl dX4_tell_13 ?_
  refine g_cRFi (k2 := 1) (n2 := 3) (g_runF (rest := []) hC (c_Jx4a65c_size_8abf5 hE (α 3 3) (α 3 (14 + 2)) (N 2) (α 2)) Y_Jx4a65c_size_8abf5 k_165 F_Jx4a65c_size_8abf5 (hR.list 2 (by decide)).rcv rfl (hR.list 2 (by decide)) rfl hl.1 dX4_tell_16 ⟨Nat.le_of_ble_eq_true rfl, Nat.le_of_ble_eq_true rfl⟩ ⟨Nat.le_of_ble_eq_true rfl, Nat.le_of_ble_eq_true rfl⟩ rfl (Nat.le_of_ble_eq_true rfl)) rfl rfl g_no (fun r3_ h4_ => ?_)
  obtain rfl := h4_
  refine lv_sipush (v := 512) hx hb dX4_tell_21 (by decide) ?_
  refine lv_icmp_ge (tgt := 39) hx hb dX4_tell_24 (by decide) (fun c5_ => ?_) (fun c5_ => ?_)
  · exact absurd (show 512 ≤ N 2 from le_nI (n := 512) (by omega) (by omega) c5_) (by omega)
  · refine lv_aload_n hx hb dX4_tell_27 rfl (lv_at hl 1 rfl) ?_
    refine g_get (v := .ref (α 3 3)) hC hR.sig (C := RX4) (T := TX4) (N := 6) rfl u4_in 2 (by decide) k_728 rfl dX4_tell_28 ?_
    refine lv_aload hx hb dX4_tell_31 (lv_at hl 0 rfl) ?_
    refine g_cWFi (k2 := 2) (n2 := 1003) (g_runF (rest := []) hC (c_Jx4a65c_add_9ea2d hE (α 3 3) (α 3 16) (N 2) H.size x (α 2) (by have := hR.nle 2 (by decide); omega) (hR.ge 3 3 (xV_3 (by decide))) (fun h0 => hR.ge 3 16 (Or.inr ⟨rfl, Or.inr ⟨2, by decide, rfl, h0⟩⟩)) (fun h0 z => absurd (hR.apart (Or.inr ⟨rfl, Or.inr ⟨2, by decide, rfl, h0⟩⟩) (xV_3 (i := 3) (by decide)) z).2 (by decide)) (fun z => hxn 3 3 (xV_3 (by decide)) z.symm) (fun h0 z => hxn 3 16 (Or.inr ⟨rfl, Or.inr ⟨2, by decide, rfl, h0⟩⟩) z.symm) (fun i hi z => absurd (hR.apart (Or.inl ⟨by decide, hi⟩) (xV_3 (i := 3) (by decide)) z).1 (by decide))) Y_Jx4a65c_add_9ea2d k_175 F_Jx4a65c_add_9ea2d (hR.list 2 (by decide)).rcv rfl ⟨⟨⟨hR.frz, rfl⟩, hR.list 2 (by decide), hR.gO2 2 (by decide)⟩, ⟨_, _, Or.inr (Or.inl rfl), hB⟩⟩ rfl hl.1 dX4_tell_33 ⟨Nat.le_of_ble_eq_true rfl, Nat.le_of_ble_eq_true rfl⟩ ⟨Nat.le_of_ble_eq_true rfl, Nat.le_of_ble_eq_true rfl⟩ rfl (Nat.le_of_ble_eq_true rfl)) hS (hRB.lA 2 (by decide)) rfl rfl (fun r6_ H lo h7_ hz_ hk_ hS => ?_)
    obtain ⟨rfl, t2, ht2, hL2⟩ := h7_
    have hB0 := hB
    have hB := hB.kept (hk_ x hxl (fun z => z.elim (fun z => hxn 3 3 (xV_3 (by decide)) z.symm) (fun z => z.elim (fun z => hxn 3 16 (Or.inr ⟨rfl, Or.inr ⟨2, by decide, rfl, z.1⟩⟩) z.2.symm) (fun z => by omega))))
    have hg2 := hRB.gadd 2 (by decide) hxE hxn hxl ht2 hL2 hk_
    have hRB : RB E B (aAdd α 2 (N 2) x t2) (papX ξ (N 2) m1 s1 v1) M (updN N 2 (N 2 + 1)) H := ⟨hR.addPap hg2 hn hB, hRB.addB (by decide) hxB ht2, fun q z => Nat.lt_of_lt_of_le (hRB.2.2 q z) hz_⟩
    have hR := hRB.1
    refine lv_pop hx hb dX4_tell_38 rfl ?_
    refine lv_aload_n hx hb dX4_tell_39 rfl (lv_at hl 1 rfl) ?_
    refine g_get (v := .ref (α 3 4)) hC hR.sig (C := RX4) (T := TX4) (N := 6) rfl u4_in 3 (by decide) k_729 rfl dX4_tell_40 ?_
    refine lv_aload hx hb dX4_tell_43 (lv_at hl 0 rfl) ?_
    refine g_cWv (k2 := 2) (n2 := 1003) (g_runV (rest := []) hC (c_X1_take hE (q := mq (aAdd α 2 (N 2) x t2) 0) (mm := M 0) (sz := H.size) x m1 s1 v1) Y_X1_take k_240 I_X1_take V_X1_take (hR.mo 0 (by decide)).1 rfl ⟨⟨hR.mo 0 (by decide), rfl⟩, hB⟩ rfl hl.1 dX4_tell_45 ⟨Nat.le_of_ble_eq_true rfl, Nat.le_of_ble_eq_true rfl⟩ ⟨Nat.le_of_ble_eq_true rfl, Nat.le_of_ble_eq_true rfl⟩ rfl (Nat.le_of_ble_eq_true rfl)) hS (hRB.mA 0 (by decide)) rfl rfl (fun H lo h9_ hz_ hk_ hS => ?_)
    have hRB := hRB.setMom 0 (by decide) h9_ hz_ hk_
    exact g_vretW hC hr dX4_tell_48 hS (Nat.le_of_ble_eq_true rfl) (Nat.le_of_ble_eq_true rfl) ⟨x, t2, hRB⟩
set_option maxHeartbeats 4000000 in
set_option maxRecDepth 100000 in
theorem c_X4_keepPower {l : Launch} {E : gV} (hE : gOK l E) {α : Nat → Nat → Nat} {ξ : F2} {M : Nat → F2} {N : Nat → Nat} {B : Nat → Prop} (x : Nat) (hxE : E.2.1.heap.size ≤ x) (hxn : ∀ k i, xV N k i → α k i ≠ x) (hxB : ¬ B x) (v : Nat → Int32) (li : Int32) (hn0 : N 0 < 20) (hn : N 2 < 512) (h1v : ∃ j, j < N 3 ∧ v 1 = nI j) (h2v : v 6 < 0 ∨ ∃ j, j < N 0 ∧ v 6 = nI j) : gM l E yX4_keepPower cX4_keepPower 3 (some .int) ({ frames := 10, cells := 3, slots := 2003, locals := 255 } : Room) [.ref (α 3 0), .ref x, .int li] (fun H => RB E B α ξ M N H ∧ gA E x (.inr (4, [.int (nI (N 0)), .int (v 1), .int (v 2), .int (fBit (v 3)), .int (v 4), .int (v 5), srcV α (v 6)])) H) (gQW (gAB E B) (gWi (fun r H => r = nI (N 0) ∧ ∃ α2, α2 3 0 = α 3 0 ∧ RB E B α2 (papX (powX ξ (N 0) v) (N 2) 0 (nI (N 0)) li) (updM M 0 (tk (M 0) 0 (nI (N 0)) li)) (updN (updN N 0 (N 0 + 1)) 2 (N 2 + 1)) H))) (fun _ => False) (gAB E B) := by
  refine gM_body hE (by decide +kernel) (Nat.le_of_ble_eq_true rfl) ?_
  intro p_ e_ s m args below meth c hC ht hr hname hP ls hl
  have hx := hC.2.2.1
  have hb := hC.2.2.2.1
  have hl : lv_has ls 3 [(0, .ref (α 3 0)), (1, .ref x), (2, .int li)] := hl
  have hS : va_S ((gAB E B)) s.heap s.heap [] := va_S.rf
  obtain ⟨hRB, hB⟩ := hP
  have hR : RX E α ξ M N s.heap := hRB.1
  have hSr := hR.inv.src (M 0)
  obtain ⟨hN0, hN1, hN2, hN3, -, hHo, hDe⟩ := hR.inv
  have hAl : ∀ q, s.heap.size ≤ q → gAB E B q := fun q hq => hRB.al hq
  have hxl := hB.lt
  refine lv_aload_n hx hb dX4_keepPower_0 rfl (lv_at hl 0 rfl) ?_
  refine g_get (v := .ref (α 3 1)) hC hR.sig (C := RX4) (T := TX4) (N := 6) rfl u4_in 0 (by decide) k_726 rfl dX4_keepPower_1 ?_
  refine lv_aload_n hx hb dX4_keepPower_4 rfl (lv_at hl 1 rfl) ?_
  refine g_cWFi (k2 := 1) (n2 := 1000) (g_runF (rest := []) hC (c_Jx4a65c_add_9ea2d hE (α 3 1) (α 3 14) (N 0) s.heap.size x (α 0) (by have := hR.nle 0 (by decide); omega) (hR.ge 3 1 (xV_3 (by decide))) (fun h0 => hR.ge 3 14 (Or.inr ⟨rfl, Or.inr ⟨0, by decide, rfl, h0⟩⟩)) (fun h0 z => absurd (hR.apart (Or.inr ⟨rfl, Or.inr ⟨0, by decide, rfl, h0⟩⟩) (xV_3 (i := 1) (by decide)) z).2 (by decide)) (fun z => hxn 3 1 (xV_3 (by decide)) z.symm) (fun h0 z => hxn 3 14 (Or.inr ⟨rfl, Or.inr ⟨0, by decide, rfl, h0⟩⟩) z.symm) (fun i hi z => absurd (hR.apart (Or.inl ⟨by decide, hi⟩) (xV_3 (i := 1) (by decide)) z).1 (by decide))) Y_Jx4a65c_add_9ea2d k_175 F_Jx4a65c_add_9ea2d (hR.list 0 (by decide)).rcv rfl ⟨⟨⟨hR.frz, rfl⟩, hR.list 0 (by decide), hR.gO2 0 (by decide)⟩, ⟨_, _, Or.inr (Or.inr rfl), hB⟩⟩ rfl hl.1 dX4_keepPower_5 ⟨Nat.le_of_ble_eq_true rfl, Nat.le_of_ble_eq_true rfl⟩ ⟨Nat.le_of_ble_eq_true rfl, Nat.le_of_ble_eq_true rfl⟩ rfl (Nat.le_of_ble_eq_true rfl)) hS (hRB.lA 0 (by decide)) rfl rfl (fun r1_ H lo h2_ hz_ hk_ hS => ?_)
  obtain ⟨rfl, t0, ht0, hL0⟩ := h2_
  have hB0 := hB
  have hB := hB.kept (hk_ x hxl (fun z => z.elim (fun z => hxn 3 1 (xV_3 (by decide)) z.symm) (fun z => z.elim (fun z => hxn 3 14 (Or.inr ⟨rfl, Or.inr ⟨0, by decide, rfl, z.1⟩⟩) z.2.symm) (fun z => by omega))))
  have hg0 := hRB.gadd 0 (by decide) hxE hxn hxl ht0 hL0 hk_
  have hRB : RB E B (aAdd α 0 (N 0) x t0) (powX ξ (N 0) v) M (updN N 0 (N 0 + 1)) H := ⟨hR.addPow hg0 hn0 hB h1v h2v powX_n powX_v, hRB.addB (by decide) hxB ht0, fun q z => Nat.lt_of_lt_of_le (hRB.2.2 q z) hz_⟩
  have hR := hRB.1
  refine lv_pop hx hb dX4_keepPower_10 rfl ?_
  refine lv_aload_n hx hb dX4_keepPower_11 rfl (lv_at hl 0 rfl) ?_
  refine lv_iconst (v := 0) hx hb dX4_keepPower_12 (by decide) ?_
  refine lv_aload_n hx hb dX4_keepPower_13 rfl (lv_at hl 1 rfl) ?_
  refine g_get (v := .int (nI (N 0))) hC hB (C := RX3) (T := TX3) (N := 7) rfl u3_in 0 (by decide) k_790 rfl dX4_keepPower_14 ?_
  refine lv_iload_n hx hb dX4_keepPower_17 rfl (lv_at hl 2 rfl) ?_
  refine g_cWv (k2 := 3) (n2 := 2003) (g_runV (rest := []) hC (c_X4_tell hE (α := aAdd α 0 (N 0) x t0) (ξ := powX ξ (N 0) v) (M := M) (N := updN N 0 (N 0 + 1)) (B := B) 0 (nI (N 0)) li hn) Y_X4_tell k_141 I_X4_tell V_X4_tell hR.sig rfl hRB rfl hl.1 dX4_keepPower_18 ⟨Nat.le_of_ble_eq_true rfl, Nat.le_of_ble_eq_true rfl⟩ ⟨Nat.le_of_ble_eq_true rfl, Nat.le_of_ble_eq_true rfl⟩ rfl (Nat.le_of_ble_eq_true rfl)) hS (fun _ h => h) rfl rfl (fun H lo h4_ _ _ hS => ?_)
  obtain ⟨xT, tT, hRB⟩ := h4_
  have hR := hRB.1
  have hB := hR.pow (i := N 0) (show N 0 < N 0 + 1 by omega)
  rw [aAdd_n (Or.inl (by decide)) (Or.inl (by decide)), aAdd_x (by decide)] at hB
  refine lv_aload_n hx hb dX4_keepPower_21 rfl (lv_at hl 1 rfl) ?_
  refine g_get (v := .int (nI (N 0))) hC hB (C := RX3) (T := TX3) (N := 7) rfl u3_in 0 (by decide) k_790 rfl dX4_keepPower_22 ?_
  exact g_iretW hC hr dX4_keepPower_25 hS (Nat.le_of_ble_eq_true rfl) (Nat.le_of_ble_eq_true rfl) ⟨rfl, aAdd (aAdd α 0 (N 0) x t0) 2 ((updN N 0 (N 0 + 1)) 2) xT tT, rfl, hRB⟩
