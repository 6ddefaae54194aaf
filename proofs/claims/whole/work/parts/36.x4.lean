set_option maxHeartbeats 4000000 in
set_option maxRecDepth 100000 in
theorem c_X4_tell {l : Launch} {E : gV} (hE : gOK l E) {α : Nat → Nat → Nat} {ξ : F2} {M : Nat → F2} {N : Nat → Nat} {B : Nat → Prop} (m1 s1 v1 : Int32) (hn : N 2 < 512) : gM l E yX4_tell cX4_tell 5 none ({ frames := 14, cells := 2, slots := 1003, locals := 271 } : Room) [.ref (α 3 0), .int m1, .int s1, .int v1] (fun H => RB E B α ξ M N H) (gQW (gAB E B) (gWv (fun H => ∃ x t2, RB E B (aAdd α 2 (N 2) x t2) (papX ξ (N 2) m1 s1 v1) (updM M 0 (tk (M 0) m1 s1 v1)) (updN N 2 (N 2 + 1)) H))) (fun _ => False) (gAB E B) := by
  refine gM_body hE (by decide +kernel) (Nat.le_of_ble_eq_true rfl) ?_
  intro p_ e_ s m args below meth c hC ht hr hname hP ls hl
  have hx := hC.2.2.1
  have hb := hC.2.2.2.1
  have hl : lv_has ls 5 [(0, .ref (α 3 0)), (1, .int m1), (2, .int s1), (3, .int v1)] := hl
  have hS : va_S ((gAB E B)) s.heap s.heap [] := va_S.rf
  have hRB : RB E B α ξ M N s.heap := hP
  have hR : RX E α ξ M N s.heap := hRB.1
  have hSr := hR.inv.src (M 0)
  obtain ⟨hN0, hN1, hN2, hN3, -, hHo, hDe⟩ := hR.inv
  have hAl : ∀ q, s.heap.size ≤ q → gAB E B q := fun q hq => hRB.al hq
  obtain ⟨x, hx_⟩ : ∃ x, x = s.heap.size := ⟨_, rfl⟩
  refine g_nwo (q := x) (ci := 3) hx_.symm hC rfl u2_in tyX2 tyX2_ok k_295 k_296 k_13 bl2_ok hS hAl (Nat.le_of_ble_eq_true rfl) (Nat.le_of_ble_eq_true rfl) dX4_tell_0 (fun H hB hz_ ho_ hS => ?_)
  have hxE : E.2.1.heap.size ≤ x := by have := gFz.le hR.frz; omega
  have hxn := hR.notV (x := x) (by omega)
  have hxB : ¬ B x := fun z => by have := hRB.2.2 x z; omega
  have hRB := hRB.keep (by omega) (fun q hq => ho_ q (by omega))
  have hR := hRB.1
  have hxl : x < H.size := by omega
  refine lv_dup hx hb dX4_tell_3 rfl ?_
  refine lv_iload_n hx hb dX4_tell_4 rfl (lv_at hl 1 rfl) ?_
  refine lv_iload_n hx hb dX4_tell_5 rfl (lv_at hl 2 rfl) ?_
  refine lv_iload_n hx hb dX4_tell_6 rfl (lv_at hl 3 rfl) ?_
  refine g_cWv (k2 := 1) (n2 := 3) (g_runI (rest := [.ref x]) hC (c_X2_init hE x m1 s1 v1) Y_X2_init k_297 I_X2_init rfl hB rfl hl.1 dX4_tell_7 ⟨Nat.le_of_ble_eq_true rfl, Nat.le_of_ble_eq_true rfl⟩ ⟨Nat.le_of_ble_eq_true rfl, Nat.le_of_ble_eq_true rfl⟩ rfl (Nat.le_of_ble_eq_true rfl)) hS (fun q h => by rw [h]; exact ⟨hxE, hxB⟩) rfl rfl (fun H lo h2_ hz_ hk_ hS => ?_)
  have hB := h2_
  have hRB := hRB.keepN hxn hxE hz_ (fun q h1 h2 => hk_ q h1 h2)
  have hR := hRB.1
  have hxl : x < H.size := by omega
  refine lv_astore (lv' := [(4, .ref x), (0, .ref (α 3 0)), (1, .int m1), (2, .int s1), (3, .int v1)]) hx hb dX4_tell_10 hl (by decide) rfl (fun ls hl => ?_)
  refine lv_aload_n hx hb dX4_tell_12 rfl (lv_at hl 1 rfl) ?_
  refine g_get (v := .ref (α 3 3)) hC hR.sig (C := RX4) (T := TX4) (N := 6) rfl u4_in 2 (by decide) k_97 rfl dX4_tell_13 ?_
  refine g_cRFi (k2 := 1) (n2 := 3) (g_runF (rest := []) hC (c_Jx4a65c_size_8abf5 hE (α 3 3) (α 3 (14 + 2)) (N 2) (α 2)) Y_Jx4a65c_size_8abf5 k_123 F_Jx4a65c_size_8abf5 (hR.list 2 (by decide)).rcv rfl (hR.list 2 (by decide)) rfl hl.1 dX4_tell_16 ⟨Nat.le_of_ble_eq_true rfl, Nat.le_of_ble_eq_true rfl⟩ ⟨Nat.le_of_ble_eq_true rfl, Nat.le_of_ble_eq_true rfl⟩ rfl (Nat.le_of_ble_eq_true rfl)) rfl rfl g_no (fun r3_ h4_ => ?_)
  obtain rfl := h4_
  refine lv_sipush (v := 512) hx hb dX4_tell_21 (by decide) ?_
  refine lv_icmp_ge (tgt := 39) hx hb dX4_tell_24 (by decide) (fun c5_ => ?_) (fun c5_ => ?_)
  · exact absurd (show 512 ≤ N 2 from le_nI (n := 512) (by omega) (by omega) c5_) (by omega)
  · refine lv_aload_n hx hb dX4_tell_27 rfl (lv_at hl 1 rfl) ?_
    refine g_get (v := .ref (α 3 3)) hC hR.sig (C := RX4) (T := TX4) (N := 6) rfl u4_in 2 (by decide) k_97 rfl dX4_tell_28 ?_
    refine lv_aload hx hb dX4_tell_31 (lv_at hl 0 rfl) ?_
    refine g_cWFi (k2 := 2) (n2 := 1003) (g_runF (rest := []) hC (c_Jx4a65c_add_9ea2d hE (α 3 3) (α 3 16) (N 2) H.size x (α 2) (by have := hR.nle 2 (by decide); omega) (hR.ge 3 3 (xV_3 (by decide))) (fun h0 => hR.ge 3 16 (Or.inr ⟨rfl, Or.inr ⟨2, by decide, rfl, h0⟩⟩)) (fun h0 z => absurd (hR.apart (Or.inr ⟨rfl, Or.inr ⟨2, by decide, rfl, h0⟩⟩) (xV_3 (i := 3) (by decide)) z).2 (by decide)) (fun z => hxn 3 3 (xV_3 (by decide)) z.symm) (fun h0 z => hxn 3 16 (Or.inr ⟨rfl, Or.inr ⟨2, by decide, rfl, h0⟩⟩) z.symm) (fun i hi z => absurd (hR.apart (Or.inl ⟨by decide, hi⟩) (xV_3 (i := 3) (by decide)) z).1 (by decide))) Y_Jx4a65c_add_9ea2d k_315 F_Jx4a65c_add_9ea2d (hR.list 2 (by decide)).rcv rfl ⟨⟨⟨hR.frz, rfl⟩, hR.list 2 (by decide), hR.gO2 2 (by decide)⟩, ⟨_, _, Or.inr (Or.inl rfl), hB⟩⟩ rfl hl.1 dX4_tell_33 ⟨Nat.le_of_ble_eq_true rfl, Nat.le_of_ble_eq_true rfl⟩ ⟨Nat.le_of_ble_eq_true rfl, Nat.le_of_ble_eq_true rfl⟩ rfl (Nat.le_of_ble_eq_true rfl)) hS (hRB.lA 2 (by decide)) rfl rfl (fun r6_ H lo h7_ hz_ hk_ hS => ?_)
    obtain ⟨rfl, t2, ht2, hL2⟩ := h7_
    have hB0 := hB
    have hB := hB.kept (hk_ x hxl (fun z => z.elim (fun z => hxn 3 3 (xV_3 (by decide)) z.symm) (fun z => z.elim (fun z => hxn 3 16 (Or.inr ⟨rfl, Or.inr ⟨2, by decide, rfl, z.1⟩⟩) z.2.symm) (fun z => by omega))))
    have hg2 := hRB.gadd 2 (by decide) hxE hxn hxl ht2 hL2 hk_
    have hRB : RB E B (aAdd α 2 (N 2) x t2) (papX ξ (N 2) m1 s1 v1) M (updN N 2 (N 2 + 1)) H := ⟨hR.addPap hg2 hn hB, hRB.addB (by decide) hxB ht2, fun q z => Nat.lt_of_lt_of_le (hRB.2.2 q z) hz_⟩
    have hR := hRB.1
    refine lv_pop hx hb dX4_tell_38 rfl ?_
    refine lv_aload_n hx hb dX4_tell_39 rfl (lv_at hl 1 rfl) ?_
    refine g_get (v := .ref (α 3 4)) hC hR.sig (C := RX4) (T := TX4) (N := 6) rfl u4_in 3 (by decide) k_98 rfl dX4_tell_40 ?_
    refine lv_aload hx hb dX4_tell_43 (lv_at hl 0 rfl) ?_
    refine g_cWv (k2 := 2) (n2 := 1003) (g_runV (rest := []) hC (c_X1_take hE (q := mq (aAdd α 2 (N 2) x t2) 0) (mm := M 0) (sz := H.size) x m1 s1 v1) Y_X1_take k_378 I_X1_take V_X1_take (hR.mo 0 (by decide)).1 rfl ⟨⟨hR.mo 0 (by decide), rfl⟩, hB⟩ rfl hl.1 dX4_tell_45 ⟨Nat.le_of_ble_eq_true rfl, Nat.le_of_ble_eq_true rfl⟩ ⟨Nat.le_of_ble_eq_true rfl, Nat.le_of_ble_eq_true rfl⟩ rfl (Nat.le_of_ble_eq_true rfl)) hS (hRB.mA 0 (by decide)) rfl rfl (fun H lo h9_ hz_ hk_ hS => ?_)
    have hRB := hRB.setMom 0 (by decide) h9_ hz_ hk_
    exact g_vretW hC hr dX4_tell_48 hS (Nat.le_of_ble_eq_true rfl) (Nat.le_of_ble_eq_true rfl) ⟨x, t2, hRB⟩
