set_option maxHeartbeats 4000000 in
set_option maxRecDepth 100000 in
theorem w_pairs {l : Launch} {E : gV} (hE : gOK l E) {α : Nat → Nat → Nat} {ξ : F2} {M : Nat → F2} {N : Nat → Nat} {B : Nat → Prop} (k0 : Int32) (s0 : Int32) {o : Nat} {f0 : Nat → Int64} (hBo : B o) (hoE : E.2.1.heap.size ≤ o) : gMH l E yL_pairs cL_pairs 5 (some .int) [(0, 10, 13, 21)] ({ frames := 10, cells := 2, slots := 12, locals := 188 } : Room) [.ref (α 3 0), .int k0, .int s0, .ref o] (fun H => RB E B α ξ M N H ∧ gA E o (.inl (E.2.2.2 4, 1, .inr (.inl f0))) H) (gQW (fun q => gAB E B q ∨ q = o) (gWi (fun r H => r = nI (kAsk k0 s0) ∧ wPost E B (α 3 0) o ξ M N (kAsk k0 s0) (ξ) (M 0) (N) (fun z => ∃ r : Int32, (r = fPX (N 3) (fCnt (fun t => ¬ fHas (xv ξ (M 0)) (N 0) (M 0 5 0) (nI t) k0 115 s0) (N 3)) (fCnt (fun t => ¬ fHas (xv ξ (M 0)) (N 0) (M 0 5 0) (nI t) k0 115 s0 ∧ fHas (xv ξ (M 0)) (N 0) (M 0 5 0) (nI t) k0 97 s0) (N 3)) (fCnt (fun t => ¬ fHas (xv ξ (M 0)) (N 0) (M 0 5 0) (nI t) k0 115 s0 ∧ fHas (xv ξ (M 0)) (N 0) (M 0 5 0) (nI t) k0 98 s0) (N 3)) (fCnt (fun t => ¬ fHas (xv ξ (M 0)) (N 0) (M 0 5 0) (nI t) k0 115 s0 ∧ fHas (xv ξ (M 0)) (N 0) (M 0 5 0) (nI t) k0 97 s0 ∧ fHas (xv ξ (M 0)) (N 0) (M 0 5 0) (nI t) k0 98 s0) (N 3))) ∧ z = r.toInt64) H))) (fun _ => False) (fun q => gAB E B q ∨ q = o) := by
  refine gMH_body hE (by decide +kernel) (Nat.le_of_ble_eq_true rfl) k_654 ?_
  intro p_ e_ s m args below meth c hC ht hr hP ls hl
  have hx := hC.2.2.1
  have hb := hC.2.2.2.1
  have hl : lv_has ls 5 [(0, .ref (α 3 0)), (1, .int k0), (2, .int s0), (3, .ref o)] := hl
  obtain ⟨hRB, hO⟩ := hP
  have hR := hRB.1
  have hS : va_S (fun q => gAB E B q ∨ q = o) s.heap s.heap [] := va_S.rf
  refine lv_aload_n hx hb dL_pairs_0 rfl (lv_at hl 3 rfl) ?_
  refine lv_iconst (v := 0) hx hb dL_pairs_1 (by decide) ?_
  refine lv_aload_n hx hb dL_pairs_2 rfl (lv_at hl 0 rfl) ?_
  refine lv_iload_n hx hb dL_pairs_3 rfl (lv_at hl 1 rfl) ?_
  refine lv_iload_n hx hb dL_pairs_4 rfl (lv_at hl 2 rfl) ?_
  refine g_cRi (k2 := 2) (n2 := 12) (g_runV (rest := [.int 0, .ref o]) hC (c_X4_pairs hE (α := α) (ξ := ξ) (M := M) (N := N) k0 s0) Y_X4_pairs k_655 I_X4_pairs V_X4_pairs hRB.1.sig rfl hR rfl hl.1 dL_pairs_5 ⟨Nat.le_of_ble_eq_true rfl, Nat.le_of_ble_eq_true rfl⟩ ⟨Nat.le_of_ble_eq_true rfl, Nat.le_of_ble_eq_true rfl⟩ rfl (Nat.le_of_ble_eq_true rfl)) rfl rfl (fun X ce q H hpx hz_ ho_ hq hv hcl => ?_) (fun r hw => ?_)
  · have hRB := hRB.keep hz_ ho_
    have hO := hO.kept (ho_ o hO.lt)
    have hS : va_S (fun q => gAB E B q ∨ q = o) s.heap H [] := ⟨hz_, fun q h1 _ => ho_ q h1, fun z hz => nomatch hz⟩
    obtain ⟨i_, hi_, hkc_⟩ := hpx
    rcases i_ with _ | i_
    · have hX_ : "java/lang/IllegalArgumentException" = X := Option.some.inj hi_
      subst hX_
      refine vx_catch (own := "SignatoryLaw") (name := "java/lang/IllegalArgumentException") hC.2.2.2.2.2.1 [] ⟨0, 10, 13, 21⟩ [] (by rw [ht]; rfl) (fun z hz => nomatch hz) rfl (by decide) (gw hC.1 hC.2.1 k_238 rfl) (va_Nw.use rfl (va_Nw.warmC hC.2.1 (va_Nw.of rfl (hC.1.2.1 _ k_268)))) hq hv hcl ?_
      refine lv_astore (lv' := [(4, .ref q), (0, .ref (α 3 0)), (1, .int k0), (2, .int s0), (3, .ref o)]) hx hb dL_pairs_13 hl (by decide) rfl (fun ls hl => ?_)
      refine lv_iconst (v := 1) hx hb dL_pairs_15 (by decide) ?_
      exact g_iretW hC hr dL_pairs_16 hS (Nat.le_of_ble_eq_true rfl) (Nat.le_of_ble_eq_true rfl) ⟨by rw [hkc_]; decide, wPost_k (by rw [hkc_]; omega) hRB hO⟩
    · exact absurd (show (none : Option String) = some X from hi_) (by simp)
  · obtain ⟨hk0, hval⟩ := hw
    refine lv_i2l (v := (r).toInt64) hx hb dL_pairs_8 rfl ?_
    refine g_last (n := 1) (j := 0) (x := (r).toInt64) hC hO hS (Or.inr rfl) (by decide) (by decide) dL_pairs_9 (fun H lo hO hz_ ho_ hS => ?_)
    have hRB := hRB.keepO hBo hoE (by omega) ho_
    refine lv_goto (tgt := 17) hx hb dL_pairs_10 (by decide) ?_
    refine lv_iconst (v := 0) hx hb dL_pairs_17 (by decide) ?_
    exact g_iretW hC hr dL_pairs_18 hS (Nat.le_of_ble_eq_true rfl) (Nat.le_of_ble_eq_true rfl) ⟨by rw [hk0]; decide, wPost_0 hk0 hRB rfl rfl hO ⟨_, hval, rfl⟩⟩
set_option maxHeartbeats 4000000 in
set_option maxRecDepth 100000 in
theorem w_pairsByTrying {l : Launch} {E : gV} (hE : gOK l E) {α : Nat → Nat → Nat} {ξ : F2} {M : Nat → F2} {N : Nat → Nat} {B : Nat → Prop} (k0 : Int32) (s0 : Int32) {o : Nat} {f0 : Nat → Int64} (hBo : B o) (hoE : E.2.1.heap.size ≤ o) : gMH l E yL_pairsByTrying cL_pairsByTrying 5 (some .int) [(0, 10, 13, 21)] ({ frames := 10, cells := 2, slots := 12, locals := 185 } : Room) [.ref (α 3 0), .int k0, .int s0, .ref o] (fun H => RB E B α ξ M N H ∧ gA E o (.inl (E.2.2.2 4, 1, .inr (.inl f0))) H) (gQW (fun q => gAB E B q ∨ q = o) (gWi (fun r H => r = nI (kAsk k0 s0) ∧ wPost E B (α 3 0) o ξ M N (kAsk k0 s0) (ξ) (M 0) (N) (fun z => ∃ r : Int32, (r = nI (fTr (fun p o => fTog (xv ξ (M 0)) (N 0) (M 0 5 0) (nI p) (nI o) k0 s0) (N 3) (N 3))) ∧ z = r.toInt64) H))) (fun _ => False) (fun q => gAB E B q ∨ q = o) := by
  refine gMH_body hE (by decide +kernel) (Nat.le_of_ble_eq_true rfl) k_664 ?_
  intro p_ e_ s m args below meth c hC ht hr hP ls hl
  have hx := hC.2.2.1
  have hb := hC.2.2.2.1
  have hl : lv_has ls 5 [(0, .ref (α 3 0)), (1, .int k0), (2, .int s0), (3, .ref o)] := hl
  obtain ⟨hRB, hO⟩ := hP
  have hR := hRB.1
  have hS : va_S (fun q => gAB E B q ∨ q = o) s.heap s.heap [] := va_S.rf
  refine lv_aload_n hx hb dL_pairsByTrying_0 rfl (lv_at hl 3 rfl) ?_
  refine lv_iconst (v := 0) hx hb dL_pairsByTrying_1 (by decide) ?_
  refine lv_aload_n hx hb dL_pairsByTrying_2 rfl (lv_at hl 0 rfl) ?_
  refine lv_iload_n hx hb dL_pairsByTrying_3 rfl (lv_at hl 1 rfl) ?_
  refine lv_iload_n hx hb dL_pairsByTrying_4 rfl (lv_at hl 2 rfl) ?_
  refine g_cRi (k2 := 2) (n2 := 12) (g_runV (rest := [.int 0, .ref o]) hC (c_X4_pairsByTrying hE (α := α) (ξ := ξ) (M := M) (N := N) k0 s0) Y_X4_pairsByTrying k_665 I_X4_pairsByTrying V_X4_pairsByTrying hRB.1.sig rfl hR rfl hl.1 dL_pairsByTrying_5 ⟨Nat.le_of_ble_eq_true rfl, Nat.le_of_ble_eq_true rfl⟩ ⟨Nat.le_of_ble_eq_true rfl, Nat.le_of_ble_eq_true rfl⟩ rfl (Nat.le_of_ble_eq_true rfl)) rfl rfl (fun X ce q H hpx hz_ ho_ hq hv hcl => ?_) (fun r hw => ?_)
  · have hRB := hRB.keep hz_ ho_
    have hO := hO.kept (ho_ o hO.lt)
    have hS : va_S (fun q => gAB E B q ∨ q = o) s.heap H [] := ⟨hz_, fun q h1 _ => ho_ q h1, fun z hz => nomatch hz⟩
    obtain ⟨i_, hi_, hkc_⟩ := hpx
    rcases i_ with _ | i_
    · have hX_ : "java/lang/IllegalArgumentException" = X := Option.some.inj hi_
      subst hX_
      refine vx_catch (own := "SignatoryLaw") (name := "java/lang/IllegalArgumentException") hC.2.2.2.2.2.1 [] ⟨0, 10, 13, 21⟩ [] (by rw [ht]; rfl) (fun z hz => nomatch hz) rfl (by decide) (gw hC.1 hC.2.1 k_238 rfl) (va_Nw.use rfl (va_Nw.warmC hC.2.1 (va_Nw.of rfl (hC.1.2.1 _ k_268)))) hq hv hcl ?_
      refine lv_astore (lv' := [(4, .ref q), (0, .ref (α 3 0)), (1, .int k0), (2, .int s0), (3, .ref o)]) hx hb dL_pairsByTrying_13 hl (by decide) rfl (fun ls hl => ?_)
      refine lv_iconst (v := 1) hx hb dL_pairsByTrying_15 (by decide) ?_
      exact g_iretW hC hr dL_pairsByTrying_16 hS (Nat.le_of_ble_eq_true rfl) (Nat.le_of_ble_eq_true rfl) ⟨by rw [hkc_]; decide, wPost_k (by rw [hkc_]; omega) hRB hO⟩
    · exact absurd (show (none : Option String) = some X from hi_) (by simp)
  · obtain ⟨hk0, hval⟩ := hw
    refine lv_i2l (v := (r).toInt64) hx hb dL_pairsByTrying_8 rfl ?_
    refine g_last (n := 1) (j := 0) (x := (r).toInt64) hC hO hS (Or.inr rfl) (by decide) (by decide) dL_pairsByTrying_9 (fun H lo hO hz_ ho_ hS => ?_)
    have hRB := hRB.keepO hBo hoE (by omega) ho_
    refine lv_goto (tgt := 17) hx hb dL_pairsByTrying_10 (by decide) ?_
    refine lv_iconst (v := 0) hx hb dL_pairsByTrying_17 (by decide) ?_
    exact g_iretW hC hr dL_pairsByTrying_18 hS (Nat.le_of_ble_eq_true rfl) (Nat.le_of_ble_eq_true rfl) ⟨by rw [hk0]; decide, wPost_0 hk0 hRB rfl rfl hO ⟨_, hval, rfl⟩⟩
set_option maxHeartbeats 4000000 in
set_option maxRecDepth 100000 in
theorem w_sign {l : Launch} {E : gV} (hE : gOK l E) {α : Nat → Nat → Nat} {ξ : F2} {M : Nat → F2} {N : Nat → Nat} {B : Nat → Prop} (p0 : Int32) (k0 : Int32) (a0 : Int32) (pa0 : Int32) {o : Nat} {f0 : Nat → Int64} (hBo : B o) (hoE : E.2.1.heap.size ≤ o) : gMH l E yL_sign cL_sign 7 (some .int) [(0, 14, 17, 19), (0, 14, 21, 21), (0, 14, 25, 13)] ({ frames := 16, cells := 8, slots := 1060, locals := 316 } : Room) [.ref (α 3 0), .int p0, .int k0, .int a0, .int pa0, .ref o] (fun H => RB E B α ξ M N H ∧ gA E o (.inl (E.2.2.2 4, 1, .inr (.inl f0))) H) (gQW (fun q => gAB E B q ∨ q = o) (gWi (fun r H => r = nI (kSign (N 3) (N 1) p0 k0 a0 pa0) ∧ wPost E B (α 3 0) o ξ M N (kSign (N 3) (N 1) p0 k0 a0 pa0) (deedX ξ (N 1) (kDeed ξ M N (ddV p0 (-1) k0 a0 pa0))) (M 0) (updN N 1 (N 1 + 1)) (fun z => ∃ r : Int32, (r = nI (N 1)) ∧ z = r.toInt64) H))) (fun _ => False) (fun q => gAB E B q ∨ q = o) := by
  refine gMH_body hE (by decide +kernel) (Nat.le_of_ble_eq_true rfl) k_671 ?_
  intro p_ e_ s m args below meth c hC ht hr hP ls hl
  have hx := hC.2.2.1
  have hb := hC.2.2.2.1
  have hl : lv_has ls 7 [(0, .ref (α 3 0)), (1, .int p0), (2, .int k0), (3, .int a0), (4, .int pa0), (5, .ref o)] := hl
  obtain ⟨hRB, hO⟩ := hP
  have hR := hRB.1
  have hS : va_S (fun q => gAB E B q ∨ q = o) s.heap s.heap [] := va_S.rf
  refine lv_aload hx hb dL_sign_0 (lv_at hl 5 rfl) ?_
  refine lv_iconst (v := 0) hx hb dL_sign_2 (by decide) ?_
  refine lv_aload_n hx hb dL_sign_3 rfl (lv_at hl 0 rfl) ?_
  refine lv_iload_n hx hb dL_sign_4 rfl (lv_at hl 1 rfl) ?_
  refine lv_iload_n hx hb dL_sign_5 rfl (lv_at hl 2 rfl) ?_
  refine lv_iload_n hx hb dL_sign_6 rfl (lv_at hl 3 rfl) ?_
  refine lv_iload hx hb dL_sign_7 (lv_at hl 4 rfl) ?_
  refine g_cXi (k2 := 8) (n2 := 1060) (g_runV (rest := [.int 0, .ref o]) hC (c_X4_sign hE (α := α) (ξ := ξ) (M := M) (N := N) (B := B) p0 k0 a0 pa0) Y_X4_sign k_672 I_X4_sign V_X4_sign hRB.1.sig rfl hRB rfl hl.1 dL_sign_9 ⟨Nat.le_of_ble_eq_true rfl, Nat.le_of_ble_eq_true rfl⟩ ⟨Nat.le_of_ble_eq_true rfl, Nat.le_of_ble_eq_true rfl⟩ rfl (Nat.le_of_ble_eq_true rfl)) hS (fun _ h => Or.inl h) rfl rfl (fun X ce q H lo hpx hz_ ho_ hS hq hv hcl => ?_) (fun r H lo hw hz_ hk_ hS => ?_)
  · have hRB := hRB.keep hz_ ho_
    have hO := hO.kept (ho_ o hO.lt)
    obtain ⟨i_, hi_, hkc_⟩ := hpx
    rcases i_ with _ | _ | _ | i_
    · have hX_ : "java/lang/IndexOutOfBoundsException" = X := Option.some.inj hi_
      subst hX_
      refine vx_catch (own := "SignatoryLaw") (name := "java/lang/IndexOutOfBoundsException") hC.2.2.2.2.2.1 [] ⟨0, 14, 17, 19⟩ [⟨0, 14, 21, 21⟩, ⟨0, 14, 25, 13⟩] (by rw [ht]; rfl) (fun z hz => nomatch hz) rfl (by decide) (gw hC.1 hC.2.1 k_237 rfl) (va_Nw.use rfl (va_Nw.warmC hC.2.1 (va_Nw.of rfl (hC.1.2.1 _ k_252)))) hq hv hcl ?_
      refine lv_astore (lv' := [(6, .ref q), (0, .ref (α 3 0)), (1, .int p0), (2, .int k0), (3, .int a0), (4, .int pa0), (5, .ref o)]) hx hb dL_sign_17 hl (by decide) rfl (fun ls hl => ?_)
      refine lv_iconst (v := 1) hx hb dL_sign_19 (by decide) ?_
      exact g_iretW hC hr dL_sign_20 hS (Nat.le_of_ble_eq_true rfl) (Nat.le_of_ble_eq_true rfl) ⟨by rw [hkc_]; decide, wPost_k (by rw [hkc_]; omega) hRB hO⟩
    · have hX_ : "java/lang/IllegalArgumentException" = X := Option.some.inj hi_
      subst hX_
      refine vx_catch (own := "SignatoryLaw") (name := "java/lang/IllegalArgumentException") hC.2.2.2.2.2.1 [⟨0, 14, 17, 19⟩] ⟨0, 14, 21, 21⟩ [⟨0, 14, 25, 13⟩] (by rw [ht]; rfl) (List.forall_mem_cons.mpr ⟨Or.inr ⟨by decide, "java/lang/IndexOutOfBoundsException", gw hC.1 hC.2.1 k_237 rfl, va_Nc.moved hC.2.1.alike (va_Nc.of (flat_of_before _ hC.1.2.2.1 _ nc_IAE_IOO))⟩, (fun z hz => nomatch hz)⟩) rfl (by decide) (gw hC.1 hC.2.1 k_238 rfl) (va_Nw.use rfl (va_Nw.warmC hC.2.1 (va_Nw.of rfl (hC.1.2.1 _ k_268)))) hq hv hcl ?_
      refine lv_astore (lv' := [(6, .ref q), (0, .ref (α 3 0)), (1, .int p0), (2, .int k0), (3, .int a0), (4, .int pa0), (5, .ref o)]) hx hb dL_sign_21 hl (by decide) rfl (fun ls hl => ?_)
      refine lv_iconst (v := 2) hx hb dL_sign_23 (by decide) ?_
      exact g_iretW hC hr dL_sign_24 hS (Nat.le_of_ble_eq_true rfl) (Nat.le_of_ble_eq_true rfl) ⟨by rw [hkc_]; decide, wPost_k (by rw [hkc_]; omega) hRB hO⟩
    · have hX_ : "java/lang/IllegalStateException" = X := Option.some.inj hi_
      subst hX_
      refine vx_catch (own := "SignatoryLaw") (name := "java/lang/IllegalStateException") hC.2.2.2.2.2.1 [⟨0, 14, 17, 19⟩, ⟨0, 14, 21, 21⟩] ⟨0, 14, 25, 13⟩ [] (by rw [ht]; rfl) (List.forall_mem_cons.mpr ⟨Or.inr ⟨by decide, "java/lang/IndexOutOfBoundsException", gw hC.1 hC.2.1 k_237 rfl, va_Nc.moved hC.2.1.alike (va_Nc.of (flat_of_before _ hC.1.2.2.1 _ nc_ISE_IOO))⟩, (List.forall_mem_cons.mpr ⟨Or.inr ⟨by decide, "java/lang/IllegalArgumentException", gw hC.1 hC.2.1 k_238 rfl, va_Nc.moved hC.2.1.alike (va_Nc.of (flat_of_before _ hC.1.2.2.1 _ nc_ISE_IAE))⟩, (fun z hz => nomatch hz)⟩)⟩) rfl (by decide) (gw hC.1 hC.2.1 k_159 rfl) (va_Nw.use rfl (va_Nw.warmC hC.2.1 (va_Nw.of rfl (hC.1.2.1 _ k_166)))) hq hv hcl ?_
      refine lv_astore (lv' := [(6, .ref q), (0, .ref (α 3 0)), (1, .int p0), (2, .int k0), (3, .int a0), (4, .int pa0), (5, .ref o)]) hx hb dL_sign_25 hl (by decide) rfl (fun ls hl => ?_)
      refine lv_iconst (v := 3) hx hb dL_sign_27 (by decide) ?_
      exact g_iretW hC hr dL_sign_28 hS (Nat.le_of_ble_eq_true rfl) (Nat.le_of_ble_eq_true rfl) ⟨by rw [hkc_]; decide, wPost_k (by rw [hkc_]; omega) hRB hO⟩
    · exact absurd (show (none : Option String) = some X from hi_) (by simp)
  · obtain ⟨hk0, hval, α1, M1, hRB, hm_, ha_⟩ := hw
    have hO := hO.kept (hk_ o hO.lt (fun z => z.2 hBo))
    refine lv_i2l (v := (r).toInt64) hx hb dL_sign_12 rfl ?_
    refine g_last (n := 1) (j := 0) (x := (r).toInt64) hC hO hS (Or.inr rfl) (by decide) (by decide) dL_sign_13 (fun H lo hO hz_ ho_ hS => ?_)
    have hRB := hRB.keepO hBo hoE (by omega) ho_
    refine lv_goto (tgt := 29) hx hb dL_sign_14 (by decide) ?_
    refine lv_iconst (v := 0) hx hb dL_sign_29 (by decide) ?_
    exact g_iretW hC hr dL_sign_30 hS (Nat.le_of_ble_eq_true rfl) (Nat.le_of_ble_eq_true rfl) ⟨by rw [hk0]; decide, wPost_0 hk0 hRB hm_ ha_ hO ⟨_, hval, rfl⟩⟩
set_option maxHeartbeats 4000000 in
set_option maxRecDepth 100000 in
theorem w_signTogether {l : Launch} {E : gV} (hE : gOK l E) {α : Nat → Nat → Nat} {ξ : F2} {M : Nat → F2} {N : Nat → Nat} {B : Nat → Prop} (p0 : Int32) (o0 : Int32) (k0 : Int32) (a0 : Int32) (pa0 : Int32) {o : Nat} {f0 : Nat → Int64} (hBo : B o) (hoE : E.2.1.heap.size ≤ o) : gMH l E yL_signTogether cL_signTogether 8 (some .int) [(0, 16, 19, 19), (0, 16, 23, 21), (0, 16, 27, 39), (0, 16, 31, 13)] ({ frames := 16, cells := 8, slots := 1060, locals := 317 } : Room) [.ref (α 3 0), .int p0, .int o0, .int k0, .int a0, .int pa0, .ref o] (fun H => RB E B α ξ M N H ∧ gA E o (.inl (E.2.2.2 4, 1, .inr (.inl f0))) H) (gQW (fun q => gAB E B q ∨ q = o) (gWi (fun r H => r = nI (kSignT (N 3) (N 1) p0 o0 k0 a0 pa0) ∧ wPost E B (α 3 0) o ξ M N (kSignT (N 3) (N 1) p0 o0 k0 a0 pa0) (deedX ξ (N 1) (kDeed ξ M N (ddV p0 o0 k0 a0 pa0))) (M 0) (updN N 1 (N 1 + 1)) (fun z => ∃ r : Int32, (r = nI (N 1)) ∧ z = r.toInt64) H))) (fun _ => False) (fun q => gAB E B q ∨ q = o) := by
  refine gMH_body hE (by decide +kernel) (Nat.le_of_ble_eq_true rfl) k_864 ?_
  intro p_ e_ s m args below meth c hC ht hr hP ls hl
  have hx := hC.2.2.1
  have hb := hC.2.2.2.1
  have hl : lv_has ls 8 [(0, .ref (α 3 0)), (1, .int p0), (2, .int o0), (3, .int k0), (4, .int a0), (5, .int pa0), (6, .ref o)] := hl
  obtain ⟨hRB, hO⟩ := hP
  have hR := hRB.1
  have hS : va_S (fun q => gAB E B q ∨ q = o) s.heap s.heap [] := va_S.rf
  refine lv_aload hx hb dL_signTogether_0 (lv_at hl 6 rfl) ?_
  refine lv_iconst (v := 0) hx hb dL_signTogether_2 (by decide) ?_
  refine lv_aload_n hx hb dL_signTogether_3 rfl (lv_at hl 0 rfl) ?_
  refine lv_iload_n hx hb dL_signTogether_4 rfl (lv_at hl 1 rfl) ?_
  refine lv_iload_n hx hb dL_signTogether_5 rfl (lv_at hl 2 rfl) ?_
  refine lv_iload_n hx hb dL_signTogether_6 rfl (lv_at hl 3 rfl) ?_
  refine lv_iload hx hb dL_signTogether_7 (lv_at hl 4 rfl) ?_
  refine lv_iload hx hb dL_signTogether_9 (lv_at hl 5 rfl) ?_
  refine g_cXi (k2 := 8) (n2 := 1060) (g_runV (rest := [.int 0, .ref o]) hC (c_X4_signTogether hE (α := α) (ξ := ξ) (M := M) (N := N) (B := B) p0 o0 k0 a0 pa0) Y_X4_signTogether k_865 I_X4_signTogether V_X4_signTogether hRB.1.sig rfl hRB rfl hl.1 dL_signTogether_11 ⟨Nat.le_of_ble_eq_true rfl, Nat.le_of_ble_eq_true rfl⟩ ⟨Nat.le_of_ble_eq_true rfl, Nat.le_of_ble_eq_true rfl⟩ rfl (Nat.le_of_ble_eq_true rfl)) hS (fun _ h => Or.inl h) rfl rfl (fun X ce q H lo hpx hz_ ho_ hS hq hv hcl => ?_) (fun r H lo hw hz_ hk_ hS => ?_)
  · have hRB := hRB.keep hz_ ho_
    have hO := hO.kept (ho_ o hO.lt)
    obtain ⟨i_, hi_, hkc_⟩ := hpx
    rcases i_ with _ | _ | _ | _ | i_
    · have hX_ : "java/lang/IndexOutOfBoundsException" = X := Option.some.inj hi_
      subst hX_
      refine vx_catch (own := "SignatoryLaw") (name := "java/lang/IndexOutOfBoundsException") hC.2.2.2.2.2.1 [] ⟨0, 16, 19, 19⟩ [⟨0, 16, 23, 21⟩, ⟨0, 16, 27, 39⟩, ⟨0, 16, 31, 13⟩] (by rw [ht]; rfl) (fun z hz => nomatch hz) rfl (by decide) (gw hC.1 hC.2.1 k_237 rfl) (va_Nw.use rfl (va_Nw.warmC hC.2.1 (va_Nw.of rfl (hC.1.2.1 _ k_252)))) hq hv hcl ?_
      refine lv_astore (lv' := [(7, .ref q), (0, .ref (α 3 0)), (1, .int p0), (2, .int o0), (3, .int k0), (4, .int a0), (5, .int pa0), (6, .ref o)]) hx hb dL_signTogether_19 hl (by decide) rfl (fun ls hl => ?_)
      refine lv_iconst (v := 1) hx hb dL_signTogether_21 (by decide) ?_
      exact g_iretW hC hr dL_signTogether_22 hS (Nat.le_of_ble_eq_true rfl) (Nat.le_of_ble_eq_true rfl) ⟨by rw [hkc_]; decide, wPost_k (by rw [hkc_]; omega) hRB hO⟩
    · have hX_ : "java/lang/IllegalArgumentException" = X := Option.some.inj hi_
      subst hX_
      refine vx_catch (own := "SignatoryLaw") (name := "java/lang/IllegalArgumentException") hC.2.2.2.2.2.1 [⟨0, 16, 19, 19⟩] ⟨0, 16, 23, 21⟩ [⟨0, 16, 27, 39⟩, ⟨0, 16, 31, 13⟩] (by rw [ht]; rfl) (List.forall_mem_cons.mpr ⟨Or.inr ⟨by decide, "java/lang/IndexOutOfBoundsException", gw hC.1 hC.2.1 k_237 rfl, va_Nc.moved hC.2.1.alike (va_Nc.of (flat_of_before _ hC.1.2.2.1 _ nc_IAE_IOO))⟩, (fun z hz => nomatch hz)⟩) rfl (by decide) (gw hC.1 hC.2.1 k_238 rfl) (va_Nw.use rfl (va_Nw.warmC hC.2.1 (va_Nw.of rfl (hC.1.2.1 _ k_268)))) hq hv hcl ?_
      refine lv_astore (lv' := [(7, .ref q), (0, .ref (α 3 0)), (1, .int p0), (2, .int o0), (3, .int k0), (4, .int a0), (5, .int pa0), (6, .ref o)]) hx hb dL_signTogether_23 hl (by decide) rfl (fun ls hl => ?_)
      refine lv_iconst (v := 2) hx hb dL_signTogether_25 (by decide) ?_
      exact g_iretW hC hr dL_signTogether_26 hS (Nat.le_of_ble_eq_true rfl) (Nat.le_of_ble_eq_true rfl) ⟨by rw [hkc_]; decide, wPost_k (by rw [hkc_]; omega) hRB hO⟩
    · have hX_ : "java/lang/UnsupportedOperationException" = X := Option.some.inj hi_
      subst hX_
      refine vx_catch (own := "SignatoryLaw") (name := "java/lang/UnsupportedOperationException") hC.2.2.2.2.2.1 [⟨0, 16, 19, 19⟩, ⟨0, 16, 23, 21⟩] ⟨0, 16, 27, 39⟩ [⟨0, 16, 31, 13⟩] (by rw [ht]; rfl) (List.forall_mem_cons.mpr ⟨Or.inr ⟨by decide, "java/lang/IndexOutOfBoundsException", gw hC.1 hC.2.1 k_237 rfl, va_Nc.moved hC.2.1.alike (va_Nc.of (flat_of_before _ hC.1.2.2.1 _ nc_UOE_IOO))⟩, (List.forall_mem_cons.mpr ⟨Or.inr ⟨by decide, "java/lang/IllegalArgumentException", gw hC.1 hC.2.1 k_238 rfl, va_Nc.moved hC.2.1.alike (va_Nc.of (flat_of_before _ hC.1.2.2.1 _ nc_UOE_IAE))⟩, (fun z hz => nomatch hz)⟩)⟩) rfl (by decide) (gw hC.1 hC.2.1 k_477 rfl) (va_Nw.use rfl (va_Nw.warmC hC.2.1 (va_Nw.of rfl (hC.1.2.1 _ k_493)))) hq hv hcl ?_
      refine lv_astore (lv' := [(7, .ref q), (0, .ref (α 3 0)), (1, .int p0), (2, .int o0), (3, .int k0), (4, .int a0), (5, .int pa0), (6, .ref o)]) hx hb dL_signTogether_27 hl (by decide) rfl (fun ls hl => ?_)
      refine lv_iconst (v := 3) hx hb dL_signTogether_29 (by decide) ?_
      exact g_iretW hC hr dL_signTogether_30 hS (Nat.le_of_ble_eq_true rfl) (Nat.le_of_ble_eq_true rfl) ⟨by rw [hkc_]; decide, wPost_k (by rw [hkc_]; omega) hRB hO⟩
    · have hX_ : "java/lang/IllegalStateException" = X := Option.some.inj hi_
      subst hX_
      refine vx_catch (own := "SignatoryLaw") (name := "java/lang/IllegalStateException") hC.2.2.2.2.2.1 [⟨0, 16, 19, 19⟩, ⟨0, 16, 23, 21⟩, ⟨0, 16, 27, 39⟩] ⟨0, 16, 31, 13⟩ [] (by rw [ht]; rfl) (List.forall_mem_cons.mpr ⟨Or.inr ⟨by decide, "java/lang/IndexOutOfBoundsException", gw hC.1 hC.2.1 k_237 rfl, va_Nc.moved hC.2.1.alike (va_Nc.of (flat_of_before _ hC.1.2.2.1 _ nc_ISE_IOO))⟩, (List.forall_mem_cons.mpr ⟨Or.inr ⟨by decide, "java/lang/IllegalArgumentException", gw hC.1 hC.2.1 k_238 rfl, va_Nc.moved hC.2.1.alike (va_Nc.of (flat_of_before _ hC.1.2.2.1 _ nc_ISE_IAE))⟩, (List.forall_mem_cons.mpr ⟨Or.inr ⟨by decide, "java/lang/UnsupportedOperationException", gw hC.1 hC.2.1 k_477 rfl, va_Nc.moved hC.2.1.alike (va_Nc.of (flat_of_before _ hC.1.2.2.1 _ nc_ISE_UOE))⟩, (fun z hz => nomatch hz)⟩)⟩)⟩) rfl (by decide) (gw hC.1 hC.2.1 k_159 rfl) (va_Nw.use rfl (va_Nw.warmC hC.2.1 (va_Nw.of rfl (hC.1.2.1 _ k_166)))) hq hv hcl ?_
      refine lv_astore (lv' := [(7, .ref q), (0, .ref (α 3 0)), (1, .int p0), (2, .int o0), (3, .int k0), (4, .int a0), (5, .int pa0), (6, .ref o)]) hx hb dL_signTogether_31 hl (by decide) rfl (fun ls hl => ?_)
      refine lv_iconst (v := 4) hx hb dL_signTogether_33 (by decide) ?_
      exact g_iretW hC hr dL_signTogether_34 hS (Nat.le_of_ble_eq_true rfl) (Nat.le_of_ble_eq_true rfl) ⟨by rw [hkc_]; decide, wPost_k (by rw [hkc_]; omega) hRB hO⟩
    · exact absurd (show (none : Option String) = some X from hi_) (by simp)
  · obtain ⟨hk0, hval, α1, M1, hRB, hm_, ha_⟩ := hw
    have hO := hO.kept (hk_ o hO.lt (fun z => z.2 hBo))
    refine lv_i2l (v := (r).toInt64) hx hb dL_signTogether_14 rfl ?_
    refine g_last (n := 1) (j := 0) (x := (r).toInt64) hC hO hS (Or.inr rfl) (by decide) (by decide) dL_signTogether_15 (fun H lo hO hz_ ho_ hS => ?_)
    have hRB := hRB.keepO hBo hoE (by omega) ho_
    refine lv_goto (tgt := 35) hx hb dL_signTogether_16 (by decide) ?_
    refine lv_iconst (v := 0) hx hb dL_signTogether_35 (by decide) ?_
    exact g_iretW hC hr dL_signTogether_36 hS (Nat.le_of_ble_eq_true rfl) (Nat.le_of_ble_eq_true rfl) ⟨by rw [hk0]; decide, wPost_0 hk0 hRB hm_ ha_ hO ⟨_, hval, rfl⟩⟩
set_option maxHeartbeats 4000000 in
set_option maxRecDepth 100000 in
theorem w_ratify {l : Launch} {E : gV} (hE : gOK l E) {α : Nat → Nat → Nat} {ξ : F2} {M : Nat → F2} {N : Nat → Nat} {B : Nat → Prop} (d0 : Int32) (p0 : Int32) {o : Nat} {f0 : Nat → Int64} (hBo : B o) (hoE : E.2.1.heap.size ≤ o) : gMH l E yL_ratify cL_ratify 5 (some .int) [(0, 10, 13, 19), (0, 10, 17, 13), (0, 10, 21, 39)] ({ frames := 10, cells := 4, slots := 30, locals := 184 } : Room) [.ref (α 3 0), .int d0, .int p0, .ref o] (fun H => RB E B α ξ M N H ∧ gA E o (.inl (E.2.2.2 4, 1, .inr (.inl f0))) H) (gQW (fun q => gAB E B q ∨ q = o) (gWi (fun r H => r = nI (kRat (xv ξ (M 0)) (xw ξ) (M 0 5 0) (N 0) (N 1) (N 3) d0 p0) ∧ wPost E B (α 3 0) o ξ M N (kRat (xv ξ (M 0)) (xw ξ) (M 0 5 0) (N 0) (N 1) (N 3) d0 p0) (up2 (up2 (up2 (up2 ξ 19 (ix d0) 114) 23 (ix d0) p0) 24 (ix d0) (M 0 5 0)) 25 (ix d0) (nI (N 2))) (M 0) (N) (fun z => ∃ r : Int32, (r = ξ 18 (ix d0)) ∧ z = r.toInt64) H))) (fun _ => False) (fun q => gAB E B q ∨ q = o) := by
  refine gMH_body hE (by decide +kernel) (Nat.le_of_ble_eq_true rfl) k_871 ?_
  intro p_ e_ s m args below meth c hC ht hr hP ls hl
  have hx := hC.2.2.1
  have hb := hC.2.2.2.1
  have hl : lv_has ls 5 [(0, .ref (α 3 0)), (1, .int d0), (2, .int p0), (3, .ref o)] := hl
  obtain ⟨hRB, hO⟩ := hP
  have hR := hRB.1
  have hS : va_S (fun q => gAB E B q ∨ q = o) s.heap s.heap [] := va_S.rf
  refine lv_aload_n hx hb dL_ratify_0 rfl (lv_at hl 3 rfl) ?_
  refine lv_iconst (v := 0) hx hb dL_ratify_1 (by decide) ?_
  refine lv_aload_n hx hb dL_ratify_2 rfl (lv_at hl 0 rfl) ?_
  refine lv_iload_n hx hb dL_ratify_3 rfl (lv_at hl 1 rfl) ?_
  refine lv_iload_n hx hb dL_ratify_4 rfl (lv_at hl 2 rfl) ?_
  refine g_cXi (k2 := 4) (n2 := 30) (g_runV (rest := [.int 0, .ref o]) hC (c_X4_ratify hE (α := α) (ξ := ξ) (M := M) (N := N) (B := B) d0 p0) Y_X4_ratify k_872 I_X4_ratify V_X4_ratify hRB.1.sig rfl hRB rfl hl.1 dL_ratify_5 ⟨Nat.le_of_ble_eq_true rfl, Nat.le_of_ble_eq_true rfl⟩ ⟨Nat.le_of_ble_eq_true rfl, Nat.le_of_ble_eq_true rfl⟩ rfl (Nat.le_of_ble_eq_true rfl)) hS (fun _ h => Or.inl h) rfl rfl (fun X ce q H lo hpx hz_ ho_ hS hq hv hcl => ?_) (fun r H lo hw hz_ hk_ hS => ?_)
  · have hRB := hRB.keep hz_ ho_
    have hO := hO.kept (ho_ o hO.lt)
    obtain ⟨i_, hi_, hkc_⟩ := hpx
    rcases i_ with _ | _ | _ | i_
    · have hX_ : "java/lang/IndexOutOfBoundsException" = X := Option.some.inj hi_
      subst hX_
      refine vx_catch (own := "SignatoryLaw") (name := "java/lang/IndexOutOfBoundsException") hC.2.2.2.2.2.1 [] ⟨0, 10, 13, 19⟩ [⟨0, 10, 17, 13⟩, ⟨0, 10, 21, 39⟩] (by rw [ht]; rfl) (fun z hz => nomatch hz) rfl (by decide) (gw hC.1 hC.2.1 k_237 rfl) (va_Nw.use rfl (va_Nw.warmC hC.2.1 (va_Nw.of rfl (hC.1.2.1 _ k_252)))) hq hv hcl ?_
      refine lv_astore (lv' := [(4, .ref q), (0, .ref (α 3 0)), (1, .int d0), (2, .int p0), (3, .ref o)]) hx hb dL_ratify_13 hl (by decide) rfl (fun ls hl => ?_)
      refine lv_iconst (v := 1) hx hb dL_ratify_15 (by decide) ?_
      exact g_iretW hC hr dL_ratify_16 hS (Nat.le_of_ble_eq_true rfl) (Nat.le_of_ble_eq_true rfl) ⟨by rw [hkc_]; decide, wPost_k (by rw [hkc_]; omega) hRB hO⟩
    · have hX_ : "java/lang/IllegalStateException" = X := Option.some.inj hi_
      subst hX_
      refine vx_catch (own := "SignatoryLaw") (name := "java/lang/IllegalStateException") hC.2.2.2.2.2.1 [⟨0, 10, 13, 19⟩] ⟨0, 10, 17, 13⟩ [⟨0, 10, 21, 39⟩] (by rw [ht]; rfl) (List.forall_mem_cons.mpr ⟨Or.inr ⟨by decide, "java/lang/IndexOutOfBoundsException", gw hC.1 hC.2.1 k_237 rfl, va_Nc.moved hC.2.1.alike (va_Nc.of (flat_of_before _ hC.1.2.2.1 _ nc_ISE_IOO))⟩, (fun z hz => nomatch hz)⟩) rfl (by decide) (gw hC.1 hC.2.1 k_159 rfl) (va_Nw.use rfl (va_Nw.warmC hC.2.1 (va_Nw.of rfl (hC.1.2.1 _ k_166)))) hq hv hcl ?_
      refine lv_astore (lv' := [(4, .ref q), (0, .ref (α 3 0)), (1, .int d0), (2, .int p0), (3, .ref o)]) hx hb dL_ratify_17 hl (by decide) rfl (fun ls hl => ?_)
      refine lv_iconst (v := 2) hx hb dL_ratify_19 (by decide) ?_
      exact g_iretW hC hr dL_ratify_20 hS (Nat.le_of_ble_eq_true rfl) (Nat.le_of_ble_eq_true rfl) ⟨by rw [hkc_]; decide, wPost_k (by rw [hkc_]; omega) hRB hO⟩
    · have hX_ : "java/lang/UnsupportedOperationException" = X := Option.some.inj hi_
      subst hX_
      refine vx_catch (own := "SignatoryLaw") (name := "java/lang/UnsupportedOperationException") hC.2.2.2.2.2.1 [⟨0, 10, 13, 19⟩, ⟨0, 10, 17, 13⟩] ⟨0, 10, 21, 39⟩ [] (by rw [ht]; rfl) (List.forall_mem_cons.mpr ⟨Or.inr ⟨by decide, "java/lang/IndexOutOfBoundsException", gw hC.1 hC.2.1 k_237 rfl, va_Nc.moved hC.2.1.alike (va_Nc.of (flat_of_before _ hC.1.2.2.1 _ nc_UOE_IOO))⟩, (List.forall_mem_cons.mpr ⟨Or.inr ⟨by decide, "java/lang/IllegalStateException", gw hC.1 hC.2.1 k_159 rfl, va_Nc.moved hC.2.1.alike (va_Nc.of (flat_of_before _ hC.1.2.2.1 _ nc_UOE_ISE))⟩, (fun z hz => nomatch hz)⟩)⟩) rfl (by decide) (gw hC.1 hC.2.1 k_477 rfl) (va_Nw.use rfl (va_Nw.warmC hC.2.1 (va_Nw.of rfl (hC.1.2.1 _ k_493)))) hq hv hcl ?_
      refine lv_astore (lv' := [(4, .ref q), (0, .ref (α 3 0)), (1, .int d0), (2, .int p0), (3, .ref o)]) hx hb dL_ratify_21 hl (by decide) rfl (fun ls hl => ?_)
      refine lv_iconst (v := 3) hx hb dL_ratify_23 (by decide) ?_
      exact g_iretW hC hr dL_ratify_24 hS (Nat.le_of_ble_eq_true rfl) (Nat.le_of_ble_eq_true rfl) ⟨by rw [hkc_]; decide, wPost_k (by rw [hkc_]; omega) hRB hO⟩
    · exact absurd (show (none : Option String) = some X from hi_) (by simp)
  · obtain ⟨hk0, hval, α1, M1, hRB, hm_, ha_⟩ := hw
    have hO := hO.kept (hk_ o hO.lt (fun z => z.2 hBo))
    refine lv_i2l (v := (r).toInt64) hx hb dL_ratify_8 rfl ?_
    refine g_last (n := 1) (j := 0) (x := (r).toInt64) hC hO hS (Or.inr rfl) (by decide) (by decide) dL_ratify_9 (fun H lo hO hz_ ho_ hS => ?_)
    have hRB := hRB.keepO hBo hoE (by omega) ho_
    refine lv_goto (tgt := 25) hx hb dL_ratify_10 (by decide) ?_
    refine lv_iconst (v := 0) hx hb dL_ratify_25 (by decide) ?_
    exact g_iretW hC hr dL_ratify_26 hS (Nat.le_of_ble_eq_true rfl) (Nat.le_of_ble_eq_true rfl) ⟨by rw [hk0]; decide, wPost_0 hk0 hRB hm_ ha_ hO ⟨_, hval, rfl⟩⟩
set_option maxHeartbeats 4000000 in
set_option maxRecDepth 100000 in
theorem w_annul {l : Launch} {E : gV} (hE : gOK l E) {α : Nat → Nat → Nat} {ξ : F2} {M : Nat → F2} {N : Nat → Nat} {B : Nat → Prop} (d0 : Int32) (hn : N 2 < 512) {o : Nat} {f0 : Nat → Int64} (hBo : B o) (hoE : E.2.1.heap.size ≤ o) : gMH l E yL_annul cL_annul 4 (some .int) [(0, 9, 12, 19), (0, 9, 15, 13)] ({ frames := 16, cells := 6, slots := 1040, locals := 317 } : Room) [.ref (α 3 0), .int d0, .ref o] (fun H => RB E B α ξ M N H ∧ gA E o (.inl (E.2.2.2 4, 1, .inr (.inl f0))) H) (gQW (fun q => gAB E B q ∨ q = o) (gWi (fun r H => r = nI (kAnnul (xw ξ) (N 1) d0) ∧ wPost E B (α 3 0) o ξ M N (kAnnul (xw ξ) (N 1) d0) (papX (up2 ξ 19 (ix d0) 110) (N 2) 4 d0 (-1)) (tk (M 0) 4 d0 (-1)) (updN N 2 (N 2 + 1)) (fun z => ∃ r : Int32, (r = nI (fCnt (fun t => upd (ξ 19) (ix d0) 110 t = 119) (N 1))) ∧ z = r.toInt64) H))) (fun _ => False) (fun q => gAB E B q ∨ q = o) := by
  refine gMH_body hE (by decide +kernel) (Nat.le_of_ble_eq_true rfl) k_888 ?_
  intro p_ e_ s m args below meth c hC ht hr hP ls hl
  have hx := hC.2.2.1
  have hb := hC.2.2.2.1
  have hl : lv_has ls 4 [(0, .ref (α 3 0)), (1, .int d0), (2, .ref o)] := hl
  obtain ⟨hRB, hO⟩ := hP
  have hR := hRB.1
  have hS : va_S (fun q => gAB E B q ∨ q = o) s.heap s.heap [] := va_S.rf
  refine lv_aload_n hx hb dL_annul_0 rfl (lv_at hl 2 rfl) ?_
  refine lv_iconst (v := 0) hx hb dL_annul_1 (by decide) ?_
  refine lv_aload_n hx hb dL_annul_2 rfl (lv_at hl 0 rfl) ?_
  refine lv_iload_n hx hb dL_annul_3 rfl (lv_at hl 1 rfl) ?_
  refine g_cXi (k2 := 6) (n2 := 1040) (g_runV (rest := [.int 0, .ref o]) hC (c_X4_annul hE (α := α) (ξ := ξ) (M := M) (N := N) (B := B) d0 hn) Y_X4_annul k_889 I_X4_annul V_X4_annul hRB.1.sig rfl hRB rfl hl.1 dL_annul_4 ⟨Nat.le_of_ble_eq_true rfl, Nat.le_of_ble_eq_true rfl⟩ ⟨Nat.le_of_ble_eq_true rfl, Nat.le_of_ble_eq_true rfl⟩ rfl (Nat.le_of_ble_eq_true rfl)) hS (fun _ h => Or.inl h) rfl rfl (fun X ce q H lo hpx hz_ ho_ hS hq hv hcl => ?_) (fun r H lo hw hz_ hk_ hS => ?_)
  · have hRB := hRB.keep hz_ ho_
    have hO := hO.kept (ho_ o hO.lt)
    obtain ⟨i_, hi_, hkc_⟩ := hpx
    rcases i_ with _ | _ | i_
    · have hX_ : "java/lang/IndexOutOfBoundsException" = X := Option.some.inj hi_
      subst hX_
      refine vx_catch (own := "SignatoryLaw") (name := "java/lang/IndexOutOfBoundsException") hC.2.2.2.2.2.1 [] ⟨0, 9, 12, 19⟩ [⟨0, 9, 15, 13⟩] (by rw [ht]; rfl) (fun z hz => nomatch hz) rfl (by decide) (gw hC.1 hC.2.1 k_237 rfl) (va_Nw.use rfl (va_Nw.warmC hC.2.1 (va_Nw.of rfl (hC.1.2.1 _ k_252)))) hq hv hcl ?_
      refine lv_astore_n (lv' := [(3, .ref q), (0, .ref (α 3 0)), (1, .int d0), (2, .ref o)]) hx hb dL_annul_12 rfl hl (by decide) rfl (fun ls hl => ?_)
      refine lv_iconst (v := 1) hx hb dL_annul_13 (by decide) ?_
      exact g_iretW hC hr dL_annul_14 hS (Nat.le_of_ble_eq_true rfl) (Nat.le_of_ble_eq_true rfl) ⟨by rw [hkc_]; decide, wPost_k (by rw [hkc_]; omega) hRB hO⟩
    · have hX_ : "java/lang/IllegalStateException" = X := Option.some.inj hi_
      subst hX_
      refine vx_catch (own := "SignatoryLaw") (name := "java/lang/IllegalStateException") hC.2.2.2.2.2.1 [⟨0, 9, 12, 19⟩] ⟨0, 9, 15, 13⟩ [] (by rw [ht]; rfl) (List.forall_mem_cons.mpr ⟨Or.inr ⟨by decide, "java/lang/IndexOutOfBoundsException", gw hC.1 hC.2.1 k_237 rfl, va_Nc.moved hC.2.1.alike (va_Nc.of (flat_of_before _ hC.1.2.2.1 _ nc_ISE_IOO))⟩, (fun z hz => nomatch hz)⟩) rfl (by decide) (gw hC.1 hC.2.1 k_159 rfl) (va_Nw.use rfl (va_Nw.warmC hC.2.1 (va_Nw.of rfl (hC.1.2.1 _ k_166)))) hq hv hcl ?_
      refine lv_astore_n (lv' := [(3, .ref q), (0, .ref (α 3 0)), (1, .int d0), (2, .ref o)]) hx hb dL_annul_15 rfl hl (by decide) rfl (fun ls hl => ?_)
      refine lv_iconst (v := 2) hx hb dL_annul_16 (by decide) ?_
      exact g_iretW hC hr dL_annul_17 hS (Nat.le_of_ble_eq_true rfl) (Nat.le_of_ble_eq_true rfl) ⟨by rw [hkc_]; decide, wPost_k (by rw [hkc_]; omega) hRB hO⟩
    · exact absurd (show (none : Option String) = some X from hi_) (by simp)
  · obtain ⟨hk0, hval, α1, M1, hRB, hm_, ha_⟩ := hw
    have hO := hO.kept (hk_ o hO.lt (fun z => z.2 hBo))
    refine lv_i2l (v := (r).toInt64) hx hb dL_annul_7 rfl ?_
    refine g_last (n := 1) (j := 0) (x := (r).toInt64) hC hO hS (Or.inr rfl) (by decide) (by decide) dL_annul_8 (fun H lo hO hz_ ho_ hS => ?_)
    have hRB := hRB.keepO hBo hoE (by omega) ho_
    refine lv_goto (tgt := 18) hx hb dL_annul_9 (by decide) ?_
    refine lv_iconst (v := 0) hx hb dL_annul_18 (by decide) ?_
    exact g_iretW hC hr dL_annul_19 hS (Nat.le_of_ble_eq_true rfl) (Nat.le_of_ble_eq_true rfl) ⟨by rw [hk0]; decide, wPost_0 hk0 hRB hm_ ha_ hO ⟨_, hval, rfl⟩⟩
set_option maxHeartbeats 4000000 in
set_option maxRecDepth 100000 in
theorem w_status {l : Launch} {E : gV} (hE : gOK l E) {α : Nat → Nat → Nat} {ξ : F2} {M : Nat → F2} {N : Nat → Nat} {B : Nat → Prop} (d0 : Int32) (hch : ∀ i, i < N 1 → narrow .char (.int (ξ 19 i)) = .int (ξ 19 i)) {o : Nat} {f0 : Nat → Int64} (hBo : B o) (hoE : E.2.1.heap.size ≤ o) : gMH l E yL_status cL_status 4 (some .int) [(0, 9, 12, 19)] ({ frames := 10, cells := 1, slots := 6, locals := 182 } : Room) [.ref (α 3 0), .int d0, .ref o] (fun H => RB E B α ξ M N H ∧ gA E o (.inl (E.2.2.2 4, 1, .inr (.inl f0))) H) (gQW (fun q => gAB E B q ∨ q = o) (gWi (fun r H => r = nI (kPow (N 1) d0) ∧ wPost E B (α 3 0) o ξ M N (kPow (N 1) d0) (ξ) (M 0) (N) (fun z => ∃ r : Int32, (r = ξ 19 (ix d0)) ∧ z = r.toInt64) H))) (fun _ => False) (fun q => gAB E B q ∨ q = o) := by
  refine gMH_body hE (by decide +kernel) (Nat.le_of_ble_eq_true rfl) k_899 ?_
  intro p_ e_ s m args below meth c hC ht hr hP ls hl
  have hx := hC.2.2.1
  have hb := hC.2.2.2.1
  have hl : lv_has ls 4 [(0, .ref (α 3 0)), (1, .int d0), (2, .ref o)] := hl
  obtain ⟨hRB, hO⟩ := hP
  have hR := hRB.1
  have hS : va_S (fun q => gAB E B q ∨ q = o) s.heap s.heap [] := va_S.rf
  refine lv_aload_n hx hb dL_status_0 rfl (lv_at hl 2 rfl) ?_
  refine lv_iconst (v := 0) hx hb dL_status_1 (by decide) ?_
  refine lv_aload_n hx hb dL_status_2 rfl (lv_at hl 0 rfl) ?_
  refine lv_iload_n hx hb dL_status_3 rfl (lv_at hl 1 rfl) ?_
  refine g_cRi (k2 := 1) (n2 := 6) (g_runV (rest := [.int 0, .ref o]) hC (c_X4_status hE (α := α) (ξ := ξ) (M := M) (N := N) d0 hch) Y_X4_status k_900 I_X4_status V_X4_status hRB.1.sig rfl hR rfl hl.1 dL_status_4 ⟨Nat.le_of_ble_eq_true rfl, Nat.le_of_ble_eq_true rfl⟩ ⟨Nat.le_of_ble_eq_true rfl, Nat.le_of_ble_eq_true rfl⟩ rfl (Nat.le_of_ble_eq_true rfl)) rfl rfl (fun X ce q H hpx hz_ ho_ hq hv hcl => ?_) (fun r hw => ?_)
  · have hRB := hRB.keep hz_ ho_
    have hO := hO.kept (ho_ o hO.lt)
    have hS : va_S (fun q => gAB E B q ∨ q = o) s.heap H [] := ⟨hz_, fun q h1 _ => ho_ q h1, fun z hz => nomatch hz⟩
    obtain ⟨i_, hi_, hkc_⟩ := hpx
    rcases i_ with _ | i_
    · have hX_ : "java/lang/IndexOutOfBoundsException" = X := Option.some.inj hi_
      subst hX_
      refine vx_catch (own := "SignatoryLaw") (name := "java/lang/IndexOutOfBoundsException") hC.2.2.2.2.2.1 [] ⟨0, 9, 12, 19⟩ [] (by rw [ht]; rfl) (fun z hz => nomatch hz) rfl (by decide) (gw hC.1 hC.2.1 k_237 rfl) (va_Nw.use rfl (va_Nw.warmC hC.2.1 (va_Nw.of rfl (hC.1.2.1 _ k_252)))) hq hv hcl ?_
      refine lv_astore_n (lv' := [(3, .ref q), (0, .ref (α 3 0)), (1, .int d0), (2, .ref o)]) hx hb dL_status_12 rfl hl (by decide) rfl (fun ls hl => ?_)
      refine lv_iconst (v := 1) hx hb dL_status_13 (by decide) ?_
      exact g_iretW hC hr dL_status_14 hS (Nat.le_of_ble_eq_true rfl) (Nat.le_of_ble_eq_true rfl) ⟨by rw [hkc_]; decide, wPost_k (by rw [hkc_]; omega) hRB hO⟩
    · exact absurd (show (none : Option String) = some X from hi_) (by simp)
  · obtain ⟨hk0, hval⟩ := hw
    refine lv_i2l (v := (r).toInt64) hx hb dL_status_7 rfl ?_
    refine g_last (n := 1) (j := 0) (x := (r).toInt64) hC hO hS (Or.inr rfl) (by decide) (by decide) dL_status_8 (fun H lo hO hz_ ho_ hS => ?_)
    have hRB := hRB.keepO hBo hoE (by omega) ho_
    refine lv_goto (tgt := 15) hx hb dL_status_9 (by decide) ?_
    refine lv_iconst (v := 0) hx hb dL_status_15 (by decide) ?_
    exact g_iretW hC hr dL_status_16 hS (Nat.le_of_ble_eq_true rfl) (Nat.le_of_ble_eq_true rfl) ⟨by rw [hk0]; decide, wPost_0 hk0 hRB rfl rfl hO ⟨_, hval, rfl⟩⟩
set_option maxHeartbeats 4000000 in
set_option maxRecDepth 100000 in
theorem w_sum {l : Launch} {E : gV} (hE : gOK l E) {α : Nat → Nat → Nat} {ξ : F2} {M : Nat → F2} {N : Nat → Nat} {B : Nat → Prop} (d0 : Int32) {o : Nat} {f0 : Nat → Int64} (hBo : B o) (hoE : E.2.1.heap.size ≤ o) : gMH l E yL_sum cL_sum 4 (some .int) [(0, 9, 12, 19)] ({ frames := 10, cells := 1, slots := 6, locals := 182 } : Room) [.ref (α 3 0), .int d0, .ref o] (fun H => RB E B α ξ M N H ∧ gA E o (.inl (E.2.2.2 4, 1, .inr (.inl f0))) H) (gQW (fun q => gAB E B q ∨ q = o) (gWi (fun r H => r = nI (kPow (N 1) d0) ∧ wPost E B (α 3 0) o ξ M N (kPow (N 1) d0) (ξ) (M 0) (N) (fun z => ∃ r : Int32, (r = ξ 18 (ix d0)) ∧ z = r.toInt64) H))) (fun _ => False) (fun q => gAB E B q ∨ q = o) := by
  refine gMH_body hE (by decide +kernel) (Nat.le_of_ble_eq_true rfl) k_906 ?_
  intro p_ e_ s m args below meth c hC ht hr hP ls hl
  have hx := hC.2.2.1
  have hb := hC.2.2.2.1
  have hl : lv_has ls 4 [(0, .ref (α 3 0)), (1, .int d0), (2, .ref o)] := hl
  obtain ⟨hRB, hO⟩ := hP
  have hR := hRB.1
  have hS : va_S (fun q => gAB E B q ∨ q = o) s.heap s.heap [] := va_S.rf
  refine lv_aload_n hx hb dL_sum_0 rfl (lv_at hl 2 rfl) ?_
  refine lv_iconst (v := 0) hx hb dL_sum_1 (by decide) ?_
  refine lv_aload_n hx hb dL_sum_2 rfl (lv_at hl 0 rfl) ?_
  refine lv_iload_n hx hb dL_sum_3 rfl (lv_at hl 1 rfl) ?_
  refine g_cRi (k2 := 1) (n2 := 6) (g_runV (rest := [.int 0, .ref o]) hC (c_X4_sum hE (α := α) (ξ := ξ) (M := M) (N := N) d0) Y_X4_sum k_907 I_X4_sum V_X4_sum hRB.1.sig rfl hR rfl hl.1 dL_sum_4 ⟨Nat.le_of_ble_eq_true rfl, Nat.le_of_ble_eq_true rfl⟩ ⟨Nat.le_of_ble_eq_true rfl, Nat.le_of_ble_eq_true rfl⟩ rfl (Nat.le_of_ble_eq_true rfl)) rfl rfl (fun X ce q H hpx hz_ ho_ hq hv hcl => ?_) (fun r hw => ?_)
  · have hRB := hRB.keep hz_ ho_
    have hO := hO.kept (ho_ o hO.lt)
    have hS : va_S (fun q => gAB E B q ∨ q = o) s.heap H [] := ⟨hz_, fun q h1 _ => ho_ q h1, fun z hz => nomatch hz⟩
    obtain ⟨i_, hi_, hkc_⟩ := hpx
    rcases i_ with _ | i_
    · have hX_ : "java/lang/IndexOutOfBoundsException" = X := Option.some.inj hi_
      subst hX_
      refine vx_catch (own := "SignatoryLaw") (name := "java/lang/IndexOutOfBoundsException") hC.2.2.2.2.2.1 [] ⟨0, 9, 12, 19⟩ [] (by rw [ht]; rfl) (fun z hz => nomatch hz) rfl (by decide) (gw hC.1 hC.2.1 k_237 rfl) (va_Nw.use rfl (va_Nw.warmC hC.2.1 (va_Nw.of rfl (hC.1.2.1 _ k_252)))) hq hv hcl ?_
      refine lv_astore_n (lv' := [(3, .ref q), (0, .ref (α 3 0)), (1, .int d0), (2, .ref o)]) hx hb dL_sum_12 rfl hl (by decide) rfl (fun ls hl => ?_)
      refine lv_iconst (v := 1) hx hb dL_sum_13 (by decide) ?_
      exact g_iretW hC hr dL_sum_14 hS (Nat.le_of_ble_eq_true rfl) (Nat.le_of_ble_eq_true rfl) ⟨by rw [hkc_]; decide, wPost_k (by rw [hkc_]; omega) hRB hO⟩
    · exact absurd (show (none : Option String) = some X from hi_) (by simp)
  · obtain ⟨hk0, hval⟩ := hw
    refine lv_i2l (v := (r).toInt64) hx hb dL_sum_7 rfl ?_
    refine g_last (n := 1) (j := 0) (x := (r).toInt64) hC hO hS (Or.inr rfl) (by decide) (by decide) dL_sum_8 (fun H lo hO hz_ ho_ hS => ?_)
    have hRB := hRB.keepO hBo hoE (by omega) ho_
    refine lv_goto (tgt := 15) hx hb dL_sum_9 (by decide) ?_
    refine lv_iconst (v := 0) hx hb dL_sum_15 (by decide) ?_
    exact g_iretW hC hr dL_sum_16 hS (Nat.le_of_ble_eq_true rfl) (Nat.le_of_ble_eq_true rfl) ⟨by rw [hk0]; decide, wPost_0 hk0 hRB rfl rfl hO ⟨_, hval, rfl⟩⟩
set_option maxHeartbeats 4000000 in
set_option maxRecDepth 100000 in
theorem w_stands {l : Launch} {E : gV} (hE : gOK l E) {α : Nat → Nat → Nat} {ξ : F2} {M : Nat → F2} {N : Nat → Nat} {B : Nat → Prop} (d0 : Int32) {o : Nat} {f0 : Nat → Int64} (hBo : B o) (hoE : E.2.1.heap.size ≤ o) : gMH l E yL_stands cL_stands 4 (some .int) [(0, 16, 19, 19)] ({ frames := 10, cells := 1, slots := 6, locals := 182 } : Room) [.ref (α 3 0), .int d0, .ref o] (fun H => RB E B α ξ M N H ∧ gA E o (.inl (E.2.2.2 4, 1, .inr (.inl f0))) H) (gQW (fun q => gAB E B q ∨ q = o) (gWi (fun r H => r = nI (kPow (N 1) d0) ∧ wPost E B (α 3 0) o ξ M N (kPow (N 1) d0) (ξ) (M 0) (N) (fun z => ∃ r : Int32, (bz (isGd (ξ 19 (ix d0))) r) ∧ z = if r = 0 then 0 else 1) H))) (fun _ => False) (fun q => gAB E B q ∨ q = o) := by
  refine gMH_body hE (by decide +kernel) (Nat.le_of_ble_eq_true rfl) k_925 ?_
  intro p_ e_ s m args below meth c hC ht hr hP ls hl
  have hx := hC.2.2.1
  have hb := hC.2.2.2.1
  have hl : lv_has ls 4 [(0, .ref (α 3 0)), (1, .int d0), (2, .ref o)] := hl
  obtain ⟨hRB, hO⟩ := hP
  have hR := hRB.1
  have hS : va_S (fun q => gAB E B q ∨ q = o) s.heap s.heap [] := va_S.rf
  refine lv_aload_n hx hb dL_stands_0 rfl (lv_at hl 2 rfl) ?_
  refine lv_iconst (v := 0) hx hb dL_stands_1 (by decide) ?_
  refine lv_aload_n hx hb dL_stands_2 rfl (lv_at hl 0 rfl) ?_
  refine lv_iload_n hx hb dL_stands_3 rfl (lv_at hl 1 rfl) ?_
  refine g_cRi (k2 := 1) (n2 := 6) (g_runV (rest := [.int 0, .ref o]) hC (c_X4_stands hE (α := α) (ξ := ξ) (M := M) (N := N) d0) Y_X4_stands k_926 I_X4_stands V_X4_stands hRB.1.sig rfl hR rfl hl.1 dL_stands_4 ⟨Nat.le_of_ble_eq_true rfl, Nat.le_of_ble_eq_true rfl⟩ ⟨Nat.le_of_ble_eq_true rfl, Nat.le_of_ble_eq_true rfl⟩ rfl (Nat.le_of_ble_eq_true rfl)) rfl rfl (fun X ce q H hpx hz_ ho_ hq hv hcl => ?_) (fun r hw => ?_)
  · have hRB := hRB.keep hz_ ho_
    have hO := hO.kept (ho_ o hO.lt)
    have hS : va_S (fun q => gAB E B q ∨ q = o) s.heap H [] := ⟨hz_, fun q h1 _ => ho_ q h1, fun z hz => nomatch hz⟩
    obtain ⟨i_, hi_, hkc_⟩ := hpx
    rcases i_ with _ | i_
    · have hX_ : "java/lang/IndexOutOfBoundsException" = X := Option.some.inj hi_
      subst hX_
      refine vx_catch (own := "SignatoryLaw") (name := "java/lang/IndexOutOfBoundsException") hC.2.2.2.2.2.1 [] ⟨0, 16, 19, 19⟩ [] (by rw [ht]; rfl) (fun z hz => nomatch hz) rfl (by decide) (gw hC.1 hC.2.1 k_237 rfl) (va_Nw.use rfl (va_Nw.warmC hC.2.1 (va_Nw.of rfl (hC.1.2.1 _ k_252)))) hq hv hcl ?_
      refine lv_astore_n (lv' := [(3, .ref q), (0, .ref (α 3 0)), (1, .int d0), (2, .ref o)]) hx hb dL_stands_19 rfl hl (by decide) rfl (fun ls hl => ?_)
      refine lv_iconst (v := 1) hx hb dL_stands_20 (by decide) ?_
      exact g_iretW hC hr dL_stands_21 hS (Nat.le_of_ble_eq_true rfl) (Nat.le_of_ble_eq_true rfl) ⟨by rw [hkc_]; decide, wPost_k (by rw [hkc_]; omega) hRB hO⟩
    · exact absurd (show (none : Option String) = some X from hi_) (by simp)
  · obtain ⟨hk0, hval⟩ := hw
    refine lv_if_eq (tgt := 14) hx hb dL_stands_7 (by decide) (fun c1_ => ?_) (fun c1_ => ?_)
    · refine lv_lconst (v := 0) hx hb dL_stands_14 (by decide) ?_
      refine g_last (n := 1) (j := 0) (x := 0) hC hO hS (Or.inr rfl) (by decide) (by decide) dL_stands_15 (fun H lo hO hz_ ho_ hS => ?_)
      have hRB := hRB.keepO hBo hoE (by omega) ho_
      refine lv_goto (tgt := 22) hx hb dL_stands_16 (by decide) ?_
      refine lv_iconst (v := 0) hx hb dL_stands_22 (by decide) ?_
      exact g_iretW hC hr dL_stands_23 hS (Nat.le_of_ble_eq_true rfl) (Nat.le_of_ble_eq_true rfl) ⟨by rw [hk0]; decide, wPost_0 hk0 hRB rfl rfl hO ⟨_, hval, (if_pos c1_).symm⟩⟩
    · refine lv_lconst (v := 1) hx hb dL_stands_10 (by decide) ?_
      refine lv_goto (tgt := 15) hx hb dL_stands_11 (by decide) ?_
      refine g_last (n := 1) (j := 0) (x := 1) hC hO hS (Or.inr rfl) (by decide) (by decide) dL_stands_15 (fun H lo hO hz_ ho_ hS => ?_)
      have hRB := hRB.keepO hBo hoE (by omega) ho_
      refine lv_goto (tgt := 22) hx hb dL_stands_16 (by decide) ?_
      refine lv_iconst (v := 0) hx hb dL_stands_22 (by decide) ?_
      exact g_iretW hC hr dL_stands_23 hS (Nat.le_of_ble_eq_true rfl) (Nat.le_of_ble_eq_true rfl) ⟨by rw [hk0]; decide, wPost_0 hk0 hRB rfl rfl hO ⟨_, hval, (if_neg c1_).symm⟩⟩
set_option maxHeartbeats 4000000 in
set_option maxRecDepth 100000 in
theorem w_lack {l : Launch} {E : gV} (hE : gOK l E) {α : Nat → Nat → Nat} {ξ : F2} {M : Nat → F2} {N : Nat → Nat} {B : Nat → Prop} (d0 : Int32) (hch : ∀ i, i < N 1 → narrow .char (.int (ξ 20 i)) = .int (ξ 20 i)) {o : Nat} {f0 : Nat → Int64} (hBo : B o) (hoE : E.2.1.heap.size ≤ o) : gMH l E yL_lack cL_lack 4 (some .int) [(0, 9, 12, 19), (0, 9, 15, 60)] ({ frames := 10, cells := 2, slots := 12, locals := 183 } : Room) [.ref (α 3 0), .int d0, .ref o] (fun H => RB E B α ξ M N H ∧ gA E o (.inl (E.2.2.2 4, 1, .inr (.inl f0))) H) (gQW (fun q => gAB E B q ∨ q = o) (gWi (fun r H => r = nI (kLackX (ξ 20) (N 1) d0) ∧ wPost E B (α 3 0) o ξ M N (kLackX (ξ 20) (N 1) d0) (ξ) (M 0) (N) (fun z => ∃ r : Int32, (r = ξ 20 (ix d0)) ∧ z = r.toInt64) H))) (fun _ => False) (fun q => gAB E B q ∨ q = o) := by
  refine gMH_body hE (by decide +kernel) (Nat.le_of_ble_eq_true rfl) k_939 ?_
  intro p_ e_ s m args below meth c hC ht hr hP ls hl
  have hx := hC.2.2.1
  have hb := hC.2.2.2.1
  have hl : lv_has ls 4 [(0, .ref (α 3 0)), (1, .int d0), (2, .ref o)] := hl
  obtain ⟨hRB, hO⟩ := hP
  have hR := hRB.1
  have hS : va_S (fun q => gAB E B q ∨ q = o) s.heap s.heap [] := va_S.rf
  refine lv_aload_n hx hb dL_lack_0 rfl (lv_at hl 2 rfl) ?_
  refine lv_iconst (v := 0) hx hb dL_lack_1 (by decide) ?_
  refine lv_aload_n hx hb dL_lack_2 rfl (lv_at hl 0 rfl) ?_
  refine lv_iload_n hx hb dL_lack_3 rfl (lv_at hl 1 rfl) ?_
  refine g_cRi (k2 := 2) (n2 := 12) (g_runV (rest := [.int 0, .ref o]) hC (c_X4_lack hE (α := α) (ξ := ξ) (M := M) (N := N) d0 hch) Y_X4_lack k_940 I_X4_lack V_X4_lack hRB.1.sig rfl hR rfl hl.1 dL_lack_4 ⟨Nat.le_of_ble_eq_true rfl, Nat.le_of_ble_eq_true rfl⟩ ⟨Nat.le_of_ble_eq_true rfl, Nat.le_of_ble_eq_true rfl⟩ rfl (Nat.le_of_ble_eq_true rfl)) rfl rfl (fun X ce q H hpx hz_ ho_ hq hv hcl => ?_) (fun r hw => ?_)
  · have hRB := hRB.keep hz_ ho_
    have hO := hO.kept (ho_ o hO.lt)
    have hS : va_S (fun q => gAB E B q ∨ q = o) s.heap H [] := ⟨hz_, fun q h1 _ => ho_ q h1, fun z hz => nomatch hz⟩
    obtain ⟨i_, hi_, hkc_⟩ := hpx
    rcases i_ with _ | _ | i_
    · have hX_ : "java/lang/IndexOutOfBoundsException" = X := Option.some.inj hi_
      subst hX_
      refine vx_catch (own := "SignatoryLaw") (name := "java/lang/IndexOutOfBoundsException") hC.2.2.2.2.2.1 [] ⟨0, 9, 12, 19⟩ [⟨0, 9, 15, 60⟩] (by rw [ht]; rfl) (fun z hz => nomatch hz) rfl (by decide) (gw hC.1 hC.2.1 k_237 rfl) (va_Nw.use rfl (va_Nw.warmC hC.2.1 (va_Nw.of rfl (hC.1.2.1 _ k_252)))) hq hv hcl ?_
      refine lv_astore_n (lv' := [(3, .ref q), (0, .ref (α 3 0)), (1, .int d0), (2, .ref o)]) hx hb dL_lack_12 rfl hl (by decide) rfl (fun ls hl => ?_)
      refine lv_iconst (v := 1) hx hb dL_lack_13 (by decide) ?_
      exact g_iretW hC hr dL_lack_14 hS (Nat.le_of_ble_eq_true rfl) (Nat.le_of_ble_eq_true rfl) ⟨by rw [hkc_]; decide, wPost_k (by rw [hkc_]; omega) hRB hO⟩
    · have hX_ : "java/util/NoSuchElementException" = X := Option.some.inj hi_
      subst hX_
      refine vx_catch (own := "SignatoryLaw") (name := "java/util/NoSuchElementException") hC.2.2.2.2.2.1 [⟨0, 9, 12, 19⟩] ⟨0, 9, 15, 60⟩ [] (by rw [ht]; rfl) (List.forall_mem_cons.mpr ⟨Or.inr ⟨by decide, "java/lang/IndexOutOfBoundsException", gw hC.1 hC.2.1 k_237 rfl, va_Nc.moved hC.2.1.alike (va_Nc.of (flat_of_before _ hC.1.2.2.1 _ nc_NSE_IOO))⟩, (fun z hz => nomatch hz)⟩) rfl (by decide) (gw hC.1 hC.2.1 k_574 rfl) (va_Nw.use rfl (va_Nw.warmC hC.2.1 (va_Nw.of rfl (hC.1.2.1 _ k_585)))) hq hv hcl ?_
      refine lv_astore_n (lv' := [(3, .ref q), (0, .ref (α 3 0)), (1, .int d0), (2, .ref o)]) hx hb dL_lack_15 rfl hl (by decide) rfl (fun ls hl => ?_)
      refine lv_iconst (v := 2) hx hb dL_lack_16 (by decide) ?_
      exact g_iretW hC hr dL_lack_17 hS (Nat.le_of_ble_eq_true rfl) (Nat.le_of_ble_eq_true rfl) ⟨by rw [hkc_]; decide, wPost_k (by rw [hkc_]; omega) hRB hO⟩
    · exact absurd (show (none : Option String) = some X from hi_) (by simp)
  · obtain ⟨hk0, hval⟩ := hw
    refine lv_i2l (v := (r).toInt64) hx hb dL_lack_7 rfl ?_
    refine g_last (n := 1) (j := 0) (x := (r).toInt64) hC hO hS (Or.inr rfl) (by decide) (by decide) dL_lack_8 (fun H lo hO hz_ ho_ hS => ?_)
    have hRB := hRB.keepO hBo hoE (by omega) ho_
    refine lv_goto (tgt := 18) hx hb dL_lack_9 (by decide) ?_
    refine lv_iconst (v := 0) hx hb dL_lack_18 (by decide) ?_
    exact g_iretW hC hr dL_lack_19 hS (Nat.le_of_ble_eq_true rfl) (Nat.le_of_ble_eq_true rfl) ⟨by rw [hk0]; decide, wPost_0 hk0 hRB rfl rfl hO ⟨_, hval, rfl⟩⟩
set_option maxHeartbeats 4000000 in
set_option maxRecDepth 100000 in
theorem w_lackPower {l : Launch} {E : gV} (hE : gOK l E) {α : Nat → Nat → Nat} {ξ : F2} {M : Nat → F2} {N : Nat → Nat} {B : Nat → Prop} (d0 : Int32) {o : Nat} {f0 : Nat → Int64} (hBo : B o) (hoE : E.2.1.heap.size ≤ o) : gMH l E yL_lackPower cL_lackPower 4 (some .int) [(0, 9, 12, 19), (0, 9, 15, 60)] ({ frames := 10, cells := 2, slots := 12, locals := 183 } : Room) [.ref (α 3 0), .int d0, .ref o] (fun H => RB E B α ξ M N H ∧ gA E o (.inl (E.2.2.2 4, 1, .inr (.inl f0))) H) (gQW (fun q => gAB E B q ∨ q = o) (gWi (fun r H => r = nI (kLackY (ξ 20) (N 1) d0) ∧ wPost E B (α 3 0) o ξ M N (kLackY (ξ 20) (N 1) d0) (ξ) (M 0) (N) (fun z => ∃ r : Int32, (r = ξ 21 (ix d0)) ∧ z = r.toInt64) H))) (fun _ => False) (fun q => gAB E B q ∨ q = o) := by
  refine gMH_body hE (by decide +kernel) (Nat.le_of_ble_eq_true rfl) k_947 ?_
  intro p_ e_ s m args below meth c hC ht hr hP ls hl
  have hx := hC.2.2.1
  have hb := hC.2.2.2.1
  have hl : lv_has ls 4 [(0, .ref (α 3 0)), (1, .int d0), (2, .ref o)] := hl
  obtain ⟨hRB, hO⟩ := hP
  have hR := hRB.1
  have hS : va_S (fun q => gAB E B q ∨ q = o) s.heap s.heap [] := va_S.rf
  refine lv_aload_n hx hb dL_lackPower_0 rfl (lv_at hl 2 rfl) ?_
  refine lv_iconst (v := 0) hx hb dL_lackPower_1 (by decide) ?_
  refine lv_aload_n hx hb dL_lackPower_2 rfl (lv_at hl 0 rfl) ?_
  refine lv_iload_n hx hb dL_lackPower_3 rfl (lv_at hl 1 rfl) ?_
  refine g_cRi (k2 := 2) (n2 := 12) (g_runV (rest := [.int 0, .ref o]) hC (c_X4_lackPower hE (α := α) (ξ := ξ) (M := M) (N := N) d0) Y_X4_lackPower k_948 I_X4_lackPower V_X4_lackPower hRB.1.sig rfl hR rfl hl.1 dL_lackPower_4 ⟨Nat.le_of_ble_eq_true rfl, Nat.le_of_ble_eq_true rfl⟩ ⟨Nat.le_of_ble_eq_true rfl, Nat.le_of_ble_eq_true rfl⟩ rfl (Nat.le_of_ble_eq_true rfl)) rfl rfl (fun X ce q H hpx hz_ ho_ hq hv hcl => ?_) (fun r hw => ?_)
  · have hRB := hRB.keep hz_ ho_
    have hO := hO.kept (ho_ o hO.lt)
    have hS : va_S (fun q => gAB E B q ∨ q = o) s.heap H [] := ⟨hz_, fun q h1 _ => ho_ q h1, fun z hz => nomatch hz⟩
    obtain ⟨i_, hi_, hkc_⟩ := hpx
    rcases i_ with _ | _ | i_
    · have hX_ : "java/lang/IndexOutOfBoundsException" = X := Option.some.inj hi_
      subst hX_
      refine vx_catch (own := "SignatoryLaw") (name := "java/lang/IndexOutOfBoundsException") hC.2.2.2.2.2.1 [] ⟨0, 9, 12, 19⟩ [⟨0, 9, 15, 60⟩] (by rw [ht]; rfl) (fun z hz => nomatch hz) rfl (by decide) (gw hC.1 hC.2.1 k_237 rfl) (va_Nw.use rfl (va_Nw.warmC hC.2.1 (va_Nw.of rfl (hC.1.2.1 _ k_252)))) hq hv hcl ?_
      refine lv_astore_n (lv' := [(3, .ref q), (0, .ref (α 3 0)), (1, .int d0), (2, .ref o)]) hx hb dL_lackPower_12 rfl hl (by decide) rfl (fun ls hl => ?_)
      refine lv_iconst (v := 1) hx hb dL_lackPower_13 (by decide) ?_
      exact g_iretW hC hr dL_lackPower_14 hS (Nat.le_of_ble_eq_true rfl) (Nat.le_of_ble_eq_true rfl) ⟨by rw [hkc_]; decide, wPost_k (by rw [hkc_]; omega) hRB hO⟩
    · have hX_ : "java/util/NoSuchElementException" = X := Option.some.inj hi_
      subst hX_
      refine vx_catch (own := "SignatoryLaw") (name := "java/util/NoSuchElementException") hC.2.2.2.2.2.1 [⟨0, 9, 12, 19⟩] ⟨0, 9, 15, 60⟩ [] (by rw [ht]; rfl) (List.forall_mem_cons.mpr ⟨Or.inr ⟨by decide, "java/lang/IndexOutOfBoundsException", gw hC.1 hC.2.1 k_237 rfl, va_Nc.moved hC.2.1.alike (va_Nc.of (flat_of_before _ hC.1.2.2.1 _ nc_NSE_IOO))⟩, (fun z hz => nomatch hz)⟩) rfl (by decide) (gw hC.1 hC.2.1 k_574 rfl) (va_Nw.use rfl (va_Nw.warmC hC.2.1 (va_Nw.of rfl (hC.1.2.1 _ k_585)))) hq hv hcl ?_
      refine lv_astore_n (lv' := [(3, .ref q), (0, .ref (α 3 0)), (1, .int d0), (2, .ref o)]) hx hb dL_lackPower_15 rfl hl (by decide) rfl (fun ls hl => ?_)
      refine lv_iconst (v := 2) hx hb dL_lackPower_16 (by decide) ?_
      exact g_iretW hC hr dL_lackPower_17 hS (Nat.le_of_ble_eq_true rfl) (Nat.le_of_ble_eq_true rfl) ⟨by rw [hkc_]; decide, wPost_k (by rw [hkc_]; omega) hRB hO⟩
    · exact absurd (show (none : Option String) = some X from hi_) (by simp)
  · obtain ⟨hk0, hval⟩ := hw
    refine lv_i2l (v := (r).toInt64) hx hb dL_lackPower_7 rfl ?_
    refine g_last (n := 1) (j := 0) (x := (r).toInt64) hC hO hS (Or.inr rfl) (by decide) (by decide) dL_lackPower_8 (fun H lo hO hz_ ho_ hS => ?_)
    have hRB := hRB.keepO hBo hoE (by omega) ho_
    refine lv_goto (tgt := 18) hx hb dL_lackPower_9 (by decide) ?_
    refine lv_iconst (v := 0) hx hb dL_lackPower_18 (by decide) ?_
    exact g_iretW hC hr dL_lackPower_19 hS (Nat.le_of_ble_eq_true rfl) (Nat.le_of_ble_eq_true rfl) ⟨by rw [hk0]; decide, wPost_0 hk0 hRB rfl rfl hO ⟨_, hval, rfl⟩⟩
set_option maxHeartbeats 4000000 in
set_option maxRecDepth 100000 in
theorem w_lackDepth {l : Launch} {E : gV} (hE : gOK l E) {α : Nat → Nat → Nat} {ξ : F2} {M : Nat → F2} {N : Nat → Nat} {B : Nat → Prop} (d0 : Int32) {o : Nat} {f0 : Nat → Int64} (hBo : B o) (hoE : E.2.1.heap.size ≤ o) : gMH l E yL_lackDepth cL_lackDepth 4 (some .int) [(0, 9, 12, 19), (0, 9, 15, 60)] ({ frames := 10, cells := 2, slots := 12, locals := 183 } : Room) [.ref (α 3 0), .int d0, .ref o] (fun H => RB E B α ξ M N H ∧ gA E o (.inl (E.2.2.2 4, 1, .inr (.inl f0))) H) (gQW (fun q => gAB E B q ∨ q = o) (gWi (fun r H => r = nI (kLackY (ξ 20) (N 1) d0) ∧ wPost E B (α 3 0) o ξ M N (kLackY (ξ 20) (N 1) d0) (ξ) (M 0) (N) (fun z => ∃ r : Int32, (r = ξ 22 (ix d0)) ∧ z = r.toInt64) H))) (fun _ => False) (fun q => gAB E B q ∨ q = o) := by
  refine gMH_body hE (by decide +kernel) (Nat.le_of_ble_eq_true rfl) k_958 ?_
  intro p_ e_ s m args below meth c hC ht hr hP ls hl
  have hx := hC.2.2.1
  have hb := hC.2.2.2.1
  have hl : lv_has ls 4 [(0, .ref (α 3 0)), (1, .int d0), (2, .ref o)] := hl
  obtain ⟨hRB, hO⟩ := hP
  have hR := hRB.1
  have hS : va_S (fun q => gAB E B q ∨ q = o) s.heap s.heap [] := va_S.rf
  refine lv_aload_n hx hb dL_lackDepth_0 rfl (lv_at hl 2 rfl) ?_
  refine lv_iconst (v := 0) hx hb dL_lackDepth_1 (by decide) ?_
  refine lv_aload_n hx hb dL_lackDepth_2 rfl (lv_at hl 0 rfl) ?_
  refine lv_iload_n hx hb dL_lackDepth_3 rfl (lv_at hl 1 rfl) ?_
  refine g_cRi (k2 := 2) (n2 := 12) (g_runV (rest := [.int 0, .ref o]) hC (c_X4_lackDepth hE (α := α) (ξ := ξ) (M := M) (N := N) d0) Y_X4_lackDepth k_959 I_X4_lackDepth V_X4_lackDepth hRB.1.sig rfl hR rfl hl.1 dL_lackDepth_4 ⟨Nat.le_of_ble_eq_true rfl, Nat.le_of_ble_eq_true rfl⟩ ⟨Nat.le_of_ble_eq_true rfl, Nat.le_of_ble_eq_true rfl⟩ rfl (Nat.le_of_ble_eq_true rfl)) rfl rfl (fun X ce q H hpx hz_ ho_ hq hv hcl => ?_) (fun r hw => ?_)
  · have hRB := hRB.keep hz_ ho_
    have hO := hO.kept (ho_ o hO.lt)
    have hS : va_S (fun q => gAB E B q ∨ q = o) s.heap H [] := ⟨hz_, fun q h1 _ => ho_ q h1, fun z hz => nomatch hz⟩
    obtain ⟨i_, hi_, hkc_⟩ := hpx
    rcases i_ with _ | _ | i_
    · have hX_ : "java/lang/IndexOutOfBoundsException" = X := Option.some.inj hi_
      subst hX_
      refine vx_catch (own := "SignatoryLaw") (name := "java/lang/IndexOutOfBoundsException") hC.2.2.2.2.2.1 [] ⟨0, 9, 12, 19⟩ [⟨0, 9, 15, 60⟩] (by rw [ht]; rfl) (fun z hz => nomatch hz) rfl (by decide) (gw hC.1 hC.2.1 k_237 rfl) (va_Nw.use rfl (va_Nw.warmC hC.2.1 (va_Nw.of rfl (hC.1.2.1 _ k_252)))) hq hv hcl ?_
      refine lv_astore_n (lv' := [(3, .ref q), (0, .ref (α 3 0)), (1, .int d0), (2, .ref o)]) hx hb dL_lackDepth_12 rfl hl (by decide) rfl (fun ls hl => ?_)
      refine lv_iconst (v := 1) hx hb dL_lackDepth_13 (by decide) ?_
      exact g_iretW hC hr dL_lackDepth_14 hS (Nat.le_of_ble_eq_true rfl) (Nat.le_of_ble_eq_true rfl) ⟨by rw [hkc_]; decide, wPost_k (by rw [hkc_]; omega) hRB hO⟩
    · have hX_ : "java/util/NoSuchElementException" = X := Option.some.inj hi_
      subst hX_
      refine vx_catch (own := "SignatoryLaw") (name := "java/util/NoSuchElementException") hC.2.2.2.2.2.1 [⟨0, 9, 12, 19⟩] ⟨0, 9, 15, 60⟩ [] (by rw [ht]; rfl) (List.forall_mem_cons.mpr ⟨Or.inr ⟨by decide, "java/lang/IndexOutOfBoundsException", gw hC.1 hC.2.1 k_237 rfl, va_Nc.moved hC.2.1.alike (va_Nc.of (flat_of_before _ hC.1.2.2.1 _ nc_NSE_IOO))⟩, (fun z hz => nomatch hz)⟩) rfl (by decide) (gw hC.1 hC.2.1 k_574 rfl) (va_Nw.use rfl (va_Nw.warmC hC.2.1 (va_Nw.of rfl (hC.1.2.1 _ k_585)))) hq hv hcl ?_
      refine lv_astore_n (lv' := [(3, .ref q), (0, .ref (α 3 0)), (1, .int d0), (2, .ref o)]) hx hb dL_lackDepth_15 rfl hl (by decide) rfl (fun ls hl => ?_)
      refine lv_iconst (v := 2) hx hb dL_lackDepth_16 (by decide) ?_
      exact g_iretW hC hr dL_lackDepth_17 hS (Nat.le_of_ble_eq_true rfl) (Nat.le_of_ble_eq_true rfl) ⟨by rw [hkc_]; decide, wPost_k (by rw [hkc_]; omega) hRB hO⟩
    · exact absurd (show (none : Option String) = some X from hi_) (by simp)
  · obtain ⟨hk0, hval⟩ := hw
    refine lv_i2l (v := (r).toInt64) hx hb dL_lackDepth_7 rfl ?_
    refine g_last (n := 1) (j := 0) (x := (r).toInt64) hC hO hS (Or.inr rfl) (by decide) (by decide) dL_lackDepth_8 (fun H lo hO hz_ ho_ hS => ?_)
    have hRB := hRB.keepO hBo hoE (by omega) ho_
    refine lv_goto (tgt := 18) hx hb dL_lackDepth_9 (by decide) ?_
    refine lv_iconst (v := 0) hx hb dL_lackDepth_18 (by decide) ?_
    exact g_iretW hC hr dL_lackDepth_19 hS (Nat.le_of_ble_eq_true rfl) (Nat.le_of_ble_eq_true rfl) ⟨by rw [hk0]; decide, wPost_0 hk0 hRB rfl rfl hO ⟨_, hval, rfl⟩⟩
set_option maxHeartbeats 4000000 in
set_option maxRecDepth 100000 in
theorem w_setWindow {l : Launch} {E : gV} (hE : gOK l E) {α : Nat → Nat → Nat} {ξ : F2} {M : Nat → F2} {N : Nat → Nat} {B : Nat → Prop} (d0 : Int32) (hn : N 2 < 512) {o : Nat} {f0 : Nat → Int64} (hBo : B o) (hoE : E.2.1.heap.size ≤ o) : gMH l E yL_setWindow cL_setWindow 4 (some .int) [(0, 9, 12, 21)] ({ frames := 16, cells := 4, slots := 1030, locals := 317 } : Room) [.ref (α 3 0), .int d0, .ref o] (fun H => RB E B α ξ M N H ∧ gA E o (.inl (E.2.2.2 4, 1, .inr (.inl f0))) H) (gQW (fun q => gAB E B q ∨ q = o) (gWi (fun r H => r = nI (kWin d0) ∧ wPost E B (α 3 0) o ξ M N (kWin d0) (papX ξ (N 2) 3 (-1) d0) (tk (M 0) 3 (-1) d0) (updN N 2 (N 2 + 1)) (fun z => ∃ r : Int32, (r = M 0 4 0) ∧ z = r.toInt64) H))) (fun _ => False) (fun q => gAB E B q ∨ q = o) := by
  refine gMH_body hE (by decide +kernel) (Nat.le_of_ble_eq_true rfl) k_965 ?_
  intro p_ e_ s m args below meth c hC ht hr hP ls hl
  have hx := hC.2.2.1
  have hb := hC.2.2.2.1
  have hl : lv_has ls 4 [(0, .ref (α 3 0)), (1, .int d0), (2, .ref o)] := hl
  obtain ⟨hRB, hO⟩ := hP
  have hR := hRB.1
  have hS : va_S (fun q => gAB E B q ∨ q = o) s.heap s.heap [] := va_S.rf
  refine lv_aload_n hx hb dL_setWindow_0 rfl (lv_at hl 2 rfl) ?_
  refine lv_iconst (v := 0) hx hb dL_setWindow_1 (by decide) ?_
  refine lv_aload_n hx hb dL_setWindow_2 rfl (lv_at hl 0 rfl) ?_
  refine lv_iload_n hx hb dL_setWindow_3 rfl (lv_at hl 1 rfl) ?_
  refine g_cXi (k2 := 4) (n2 := 1030) (g_runV (rest := [.int 0, .ref o]) hC (c_X4_setWindow hE (α := α) (ξ := ξ) (M := M) (N := N) (B := B) d0 hn) Y_X4_setWindow k_966 I_X4_setWindow V_X4_setWindow hRB.1.sig rfl hRB rfl hl.1 dL_setWindow_4 ⟨Nat.le_of_ble_eq_true rfl, Nat.le_of_ble_eq_true rfl⟩ ⟨Nat.le_of_ble_eq_true rfl, Nat.le_of_ble_eq_true rfl⟩ rfl (Nat.le_of_ble_eq_true rfl)) hS (fun _ h => Or.inl h) rfl rfl (fun X ce q H lo hpx hz_ ho_ hS hq hv hcl => ?_) (fun r H lo hw hz_ hk_ hS => ?_)
  · have hRB := hRB.keep hz_ ho_
    have hO := hO.kept (ho_ o hO.lt)
    obtain ⟨i_, hi_, hkc_⟩ := hpx
    rcases i_ with _ | i_
    · have hX_ : "java/lang/IllegalArgumentException" = X := Option.some.inj hi_
      subst hX_
      refine vx_catch (own := "SignatoryLaw") (name := "java/lang/IllegalArgumentException") hC.2.2.2.2.2.1 [] ⟨0, 9, 12, 21⟩ [] (by rw [ht]; rfl) (fun z hz => nomatch hz) rfl (by decide) (gw hC.1 hC.2.1 k_238 rfl) (va_Nw.use rfl (va_Nw.warmC hC.2.1 (va_Nw.of rfl (hC.1.2.1 _ k_268)))) hq hv hcl ?_
      refine lv_astore_n (lv' := [(3, .ref q), (0, .ref (α 3 0)), (1, .int d0), (2, .ref o)]) hx hb dL_setWindow_12 rfl hl (by decide) rfl (fun ls hl => ?_)
      refine lv_iconst (v := 1) hx hb dL_setWindow_13 (by decide) ?_
      exact g_iretW hC hr dL_setWindow_14 hS (Nat.le_of_ble_eq_true rfl) (Nat.le_of_ble_eq_true rfl) ⟨by rw [hkc_]; decide, wPost_k (by rw [hkc_]; omega) hRB hO⟩
    · exact absurd (show (none : Option String) = some X from hi_) (by simp)
  · obtain ⟨hk0, hval, α1, M1, hRB, hm_, ha_⟩ := hw
    have hO := hO.kept (hk_ o hO.lt (fun z => z.2 hBo))
    refine lv_i2l (v := (r).toInt64) hx hb dL_setWindow_7 rfl ?_
    refine g_last (n := 1) (j := 0) (x := (r).toInt64) hC hO hS (Or.inr rfl) (by decide) (by decide) dL_setWindow_8 (fun H lo hO hz_ ho_ hS => ?_)
    have hRB := hRB.keepO hBo hoE (by omega) ho_
    refine lv_goto (tgt := 15) hx hb dL_setWindow_9 (by decide) ?_
    refine lv_iconst (v := 0) hx hb dL_setWindow_15 (by decide) ?_
    exact g_iretW hC hr dL_setWindow_16 hS (Nat.le_of_ble_eq_true rfl) (Nat.le_of_ble_eq_true rfl) ⟨by rw [hk0]; decide, wPost_0 hk0 hRB hm_ ha_ hO ⟨_, hval, rfl⟩⟩
set_option maxHeartbeats 4000000 in
set_option maxRecDepth 100000 in
theorem w_pass {l : Launch} {E : gV} (hE : gOK l E) {α : Nat → Nat → Nat} {ξ : F2} {M : Nat → F2} {N : Nat → Nat} {B : Nat → Prop} (d0 : Int32) {o : Nat} {f0 : Nat → Int64} (hBo : B o) (hoE : E.2.1.heap.size ≤ o) : gMH l E yL_pass cL_pass 4 (some .int) [(0, 9, 12, 21)] ({ frames := 10, cells := 2, slots := 12, locals := 181 } : Room) [.ref (α 3 0), .int d0, .ref o] (fun H => RB E B α ξ M N H ∧ gA E o (.inl (E.2.2.2 4, 1, .inr (.inl f0))) H) (gQW (fun q => gAB E B q ∨ q = o) (gWi (fun r H => r = nI (kPass (M 0 5 0) d0) ∧ wPost E B (α 3 0) o ξ M N (kPass (M 0 5 0) d0) (ξ) (up2 (M 0) 5 0 (M 0 5 0 + d0)) (N) (fun z => ∃ r : Int32, (r = M 0 5 0 + d0) ∧ z = r.toInt64) H))) (fun _ => False) (fun q => gAB E B q ∨ q = o) := by
  refine gMH_body hE (by decide +kernel) (Nat.le_of_ble_eq_true rfl) k_976 ?_
  intro p_ e_ s m args below meth c hC ht hr hP ls hl
  have hx := hC.2.2.1
  have hb := hC.2.2.2.1
  have hl : lv_has ls 4 [(0, .ref (α 3 0)), (1, .int d0), (2, .ref o)] := hl
  obtain ⟨hRB, hO⟩ := hP
  have hR := hRB.1
  have hS : va_S (fun q => gAB E B q ∨ q = o) s.heap s.heap [] := va_S.rf
  refine lv_aload_n hx hb dL_pass_0 rfl (lv_at hl 2 rfl) ?_
  refine lv_iconst (v := 0) hx hb dL_pass_1 (by decide) ?_
  refine lv_aload_n hx hb dL_pass_2 rfl (lv_at hl 0 rfl) ?_
  refine lv_iload_n hx hb dL_pass_3 rfl (lv_at hl 1 rfl) ?_
  refine g_cXi (k2 := 2) (n2 := 12) (g_runV (rest := [.int 0, .ref o]) hC (c_X4_pass hE (α := α) (ξ := ξ) (M := M) (N := N) (B := B) d0) Y_X4_pass k_977 I_X4_pass V_X4_pass hRB.1.sig rfl hRB rfl hl.1 dL_pass_4 ⟨Nat.le_of_ble_eq_true rfl, Nat.le_of_ble_eq_true rfl⟩ ⟨Nat.le_of_ble_eq_true rfl, Nat.le_of_ble_eq_true rfl⟩ rfl (Nat.le_of_ble_eq_true rfl)) hS (fun _ h => Or.inl h) rfl rfl (fun X ce q H lo hpx hz_ ho_ hS hq hv hcl => ?_) (fun r H lo hw hz_ hk_ hS => ?_)
  · have hRB := hRB.keep hz_ ho_
    have hO := hO.kept (ho_ o hO.lt)
    obtain ⟨i_, hi_, hkc_⟩ := hpx
    rcases i_ with _ | i_
    · have hX_ : "java/lang/IllegalArgumentException" = X := Option.some.inj hi_
      subst hX_
      refine vx_catch (own := "SignatoryLaw") (name := "java/lang/IllegalArgumentException") hC.2.2.2.2.2.1 [] ⟨0, 9, 12, 21⟩ [] (by rw [ht]; rfl) (fun z hz => nomatch hz) rfl (by decide) (gw hC.1 hC.2.1 k_238 rfl) (va_Nw.use rfl (va_Nw.warmC hC.2.1 (va_Nw.of rfl (hC.1.2.1 _ k_268)))) hq hv hcl ?_
      refine lv_astore_n (lv' := [(3, .ref q), (0, .ref (α 3 0)), (1, .int d0), (2, .ref o)]) hx hb dL_pass_12 rfl hl (by decide) rfl (fun ls hl => ?_)
      refine lv_iconst (v := 1) hx hb dL_pass_13 (by decide) ?_
      exact g_iretW hC hr dL_pass_14 hS (Nat.le_of_ble_eq_true rfl) (Nat.le_of_ble_eq_true rfl) ⟨by rw [hkc_]; decide, wPost_k (by rw [hkc_]; omega) hRB hO⟩
    · exact absurd (show (none : Option String) = some X from hi_) (by simp)
  · obtain ⟨hk0, hval, α1, M1, hRB, hm_, ha_⟩ := hw
    have hO := hO.kept (hk_ o hO.lt (fun z => z.2 hBo))
    refine lv_i2l (v := (r).toInt64) hx hb dL_pass_7 rfl ?_
    refine g_last (n := 1) (j := 0) (x := (r).toInt64) hC hO hS (Or.inr rfl) (by decide) (by decide) dL_pass_8 (fun H lo hO hz_ ho_ hS => ?_)
    have hRB := hRB.keepO hBo hoE (by omega) ho_
    refine lv_goto (tgt := 15) hx hb dL_pass_9 (by decide) ?_
    refine lv_iconst (v := 0) hx hb dL_pass_15 (by decide) ?_
    exact g_iretW hC hr dL_pass_16 hS (Nat.le_of_ble_eq_true rfl) (Nat.le_of_ble_eq_true rfl) ⟨by rw [hk0]; decide, wPost_0 hk0 hRB hm_ ha_ hO ⟨_, hval, rfl⟩⟩
set_option maxHeartbeats 4000000 in
set_option maxRecDepth 100000 in
theorem w_standingShare {l : Launch} {E : gV} (hE : gOK l E) {α : Nat → Nat → Nat} {ξ : F2} {M : Nat → F2} {N : Nat → Nat} {B : Nat → Prop}  {o : Nat} {f0 : Nat → UInt64} (hBo : B o) (hoE : E.2.1.heap.size ≤ o) : gMH l E yL_standingShare cL_standingShare 3 (some .int) [(0, 8, 11, 60)] ({ frames := 9, cells := 1, slots := 6, locals := 163 } : Room) [.ref (α 3 0), .ref o] (fun H => RB E B α ξ M N H ∧ gA E o (.inl (E.2.2.2 5, 1, .inr (.inr (.inr (.inl f0))))) H) (gQW (fun q => gAB E B q ∨ q = o) (gWi (fun r H => r = nI (kShare (N 1)) ∧ wPostD E B (α 3 0) o ξ M N (kShare (N 1)) (fun z => ∃ r : UInt32, (r = FP.fdiv (FP.i2f (nI (fCnt (fun t => isGd (ξ 19 t)) (N 1)))) (FP.i2f (nI (N 1)))) ∧ z = FP.f2d r) H))) (fun _ => False) (fun q => gAB E B q ∨ q = o) := by
  refine gMH_body hE (by decide +kernel) (Nat.le_of_ble_eq_true rfl) k_984 ?_
  intro p_ e_ s m args below meth c hC ht hr hP ls hl
  have hx := hC.2.2.1
  have hb := hC.2.2.2.1
  have hl : lv_has ls 3 [(0, .ref (α 3 0)), (1, .ref o)] := hl
  obtain ⟨hRB, hO⟩ := hP
  have hR := hRB.1
  have hS : va_S (fun q => gAB E B q ∨ q = o) s.heap s.heap [] := va_S.rf
  obtain ⟨hN0, hN1, hN2, hN3, -, hHo, hDe⟩ := hR.inv
  refine lv_aload_n hx hb dL_standingShare_0 rfl (lv_at hl 1 rfl) ?_
  refine lv_iconst (v := 0) hx hb dL_standingShare_1 (by decide) ?_
  refine lv_aload_n hx hb dL_standingShare_2 rfl (lv_at hl 0 rfl) ?_
  refine g_cRf (k2 := 1) (n2 := 6) (g_runV (rest := [.int 0, .ref o]) hC (c_X4_standingShare hE (α := α) (ξ := ξ) (M := M) (N := N) ) Y_X4_standingShare k_985 I_X4_standingShare V_X4_standingShare hRB.1.sig rfl hR rfl hl.1 dL_standingShare_3 ⟨Nat.le_of_ble_eq_true rfl, Nat.le_of_ble_eq_true rfl⟩ ⟨Nat.le_of_ble_eq_true rfl, Nat.le_of_ble_eq_true rfl⟩ rfl (Nat.le_of_ble_eq_true rfl)) rfl rfl (fun X ce q H hpx hz_ ho_ hq hv hcl => ?_) (fun r hw => ?_)
  · have hRB := hRB.keep hz_ ho_
    have hO := hO.kept (ho_ o hO.lt)
    have hS : va_S (fun q => gAB E B q ∨ q = o) s.heap H [] := ⟨hz_, fun q h1 _ => ho_ q h1, fun z hz => nomatch hz⟩
    obtain ⟨i_, hi_, hkc_⟩ := hpx
    rcases i_ with _ | i_
    · have hX_ : "java/util/NoSuchElementException" = X := Option.some.inj hi_
      subst hX_
      refine vx_catch (own := "SignatoryLaw") (name := "java/util/NoSuchElementException") hC.2.2.2.2.2.1 [] ⟨0, 8, 11, 60⟩ [] (by rw [ht]; rfl) (fun z hz => nomatch hz) rfl (by decide) (gw hC.1 hC.2.1 k_574 rfl) (va_Nw.use rfl (va_Nw.warmC hC.2.1 (va_Nw.of rfl (hC.1.2.1 _ k_585)))) hq hv hcl ?_
      refine lv_astore_n (lv' := [(2, .ref q), (0, .ref (α 3 0)), (1, .ref o)]) hx hb dL_standingShare_11 rfl hl (by decide) rfl (fun ls hl => ?_)
      refine lv_iconst (v := 1) hx hb dL_standingShare_12 (by decide) ?_
      exact g_iretW hC hr dL_standingShare_13 hS (Nat.le_of_ble_eq_true rfl) (Nat.le_of_ble_eq_true rfl) ⟨by rw [hkc_]; decide, ⟨α, f0, hRB, rfl, hO, fun z => absurd (hkc_.symm.trans z) (by omega)⟩⟩
    · exact absurd (show (none : Option String) = some X from hi_) (by simp)
  · obtain ⟨hk0, hval⟩ := hw
    have hf2_ : vf_n64 (FP.f2d r) := by
      rw [hval]
      have hn0 : ¬ N 1 = 0 := fun z => absurd (hk0.symm.trans (cif_pos z)) (by decide)
      have hle := fCnt_le (fun t => isGd (ξ 19 t)) (N 1)
      exact fp_ok2 (by omega) (by omega) hn0
    refine lv_f2d hx hb dL_standingShare_6 hf2_ ?_
    refine g_dast (n := 1) (j := 0) (x := FP.f2d r) hC hO hS (Or.inr rfl) (by decide) (by decide) dL_standingShare_7 (fun H lo hO hz_ ho_ hS => ?_)
    have hRB := hRB.keepO hBo hoE (by omega) ho_
    refine lv_goto (tgt := 14) hx hb dL_standingShare_8 (by decide) ?_
    refine lv_iconst (v := 0) hx hb dL_standingShare_14 (by decide) ?_
    exact g_iretW hC hr dL_standingShare_15 hS (Nat.le_of_ble_eq_true rfl) (Nat.le_of_ble_eq_true rfl) ⟨by rw [hk0]; decide, ⟨α, _, hRB, rfl, hO, fun _ => ⟨_, hval, rfl⟩⟩⟩
set_option maxHeartbeats 4000000 in
set_option maxRecDepth 100000 in
theorem w_sumByPapers {l : Launch} {E : gV} (hE : gOK l E) {α : Nat → Nat → Nat} {ξ : F2} {M : Nat → F2} {N : Nat → Nat} {B : Nat → Prop} (d0 : Int32) (hpw : ∀ i, i < N 1 → ∃ k, k ≤ N 2 ∧ ξ 17 i = nI k) {o : Nat} {f0 : Nat → Int64} (hBo : B o) (hoE : E.2.1.heap.size ≤ o) : gMH l E yL_sumByPapers cL_sumByPapers 4 (some .int) [(0, 9, 12, 19)] ({ frames := 10, cells := 1, slots := 6, locals := 183 } : Room) [.ref (α 3 0), .int d0, .ref o] (fun H => RB E B α ξ M N H ∧ gA E o (.inl (E.2.2.2 4, 1, .inr (.inl f0))) H) (gQW (fun q => gAB E B q ∨ q = o) (gWi (fun r H => r = nI (kPow (N 1) d0) ∧ wPost E B (α 3 0) o ξ M N (kPow (N 1) d0) (ξ) (M 0) (N) (fun z => ∃ r : Int32, (∃ pk, pk ≤ N 2 ∧ ξ 17 (ix d0) = nI pk ∧ r = pSum ξ pk (ix d0)) ∧ z = r.toInt64) H))) (fun _ => False) (fun q => gAB E B q ∨ q = o) := by
  refine gMH_body hE (by decide +kernel) (Nat.le_of_ble_eq_true rfl) k_913 ?_
  intro p_ e_ s m args below meth c hC ht hr hP ls hl
  have hx := hC.2.2.1
  have hb := hC.2.2.2.1
  have hl : lv_has ls 4 [(0, .ref (α 3 0)), (1, .int d0), (2, .ref o)] := hl
  obtain ⟨hRB, hO⟩ := hP
  have hR := hRB.1
  have hS : va_S (fun q => gAB E B q ∨ q = o) s.heap s.heap [] := va_S.rf
  refine lv_aload_n hx hb dL_sumByPapers_0 rfl (lv_at hl 2 rfl) ?_
  refine lv_iconst (v := 0) hx hb dL_sumByPapers_1 (by decide) ?_
  refine lv_aload_n hx hb dL_sumByPapers_2 rfl (lv_at hl 0 rfl) ?_
  refine lv_iload_n hx hb dL_sumByPapers_3 rfl (lv_at hl 1 rfl) ?_
  refine g_cXi (k2 := 1) (n2 := 6) (g_runV (rest := [.int 0, .ref o]) hC (c_X4_sumByPapers hE (α := α) (ξ := ξ) (M := M) (N := N) (B := B) d0 hpw) Y_X4_sumByPapers k_914 I_X4_sumByPapers V_X4_sumByPapers hRB.1.sig rfl hRB rfl hl.1 dL_sumByPapers_4 ⟨Nat.le_of_ble_eq_true rfl, Nat.le_of_ble_eq_true rfl⟩ ⟨Nat.le_of_ble_eq_true rfl, Nat.le_of_ble_eq_true rfl⟩ rfl (Nat.le_of_ble_eq_true rfl)) hS (fun _ h => Or.inl h) rfl rfl (fun X ce q H lo hpx hz_ ho_ hS hq hv hcl => ?_) (fun r H lo hw hz_ hk_ hS => ?_)
  · have hRB := hRB.keep hz_ ho_
    have hO := hO.kept (ho_ o hO.lt)
    obtain ⟨i_, hi_, hkc_⟩ := hpx
    rcases i_ with _ | i_
    · have hX_ : "java/lang/IndexOutOfBoundsException" = X := Option.some.inj hi_
      subst hX_
      refine vx_catch (own := "SignatoryLaw") (name := "java/lang/IndexOutOfBoundsException") hC.2.2.2.2.2.1 [] ⟨0, 9, 12, 19⟩ [] (by rw [ht]; rfl) (fun z hz => nomatch hz) rfl (by decide) (gw hC.1 hC.2.1 k_237 rfl) (va_Nw.use rfl (va_Nw.warmC hC.2.1 (va_Nw.of rfl (hC.1.2.1 _ k_252)))) hq hv hcl ?_
      refine lv_astore_n (lv' := [(3, .ref q), (0, .ref (α 3 0)), (1, .int d0), (2, .ref o)]) hx hb dL_sumByPapers_12 rfl hl (by decide) rfl (fun ls hl => ?_)
      refine lv_iconst (v := 1) hx hb dL_sumByPapers_13 (by decide) ?_
      exact g_iretW hC hr dL_sumByPapers_14 hS (Nat.le_of_ble_eq_true rfl) (Nat.le_of_ble_eq_true rfl) ⟨by rw [hkc_]; decide, wPost_k (by rw [hkc_]; omega) hRB hO⟩
    · exact absurd (show (none : Option String) = some X from hi_) (by simp)
  · obtain ⟨hk0, hval, α1, M1, hRB, hm_, ha_⟩ := hw
    have hO := hO.kept (hk_ o hO.lt (fun z => z.2 hBo))
    refine lv_i2l (v := (r).toInt64) hx hb dL_sumByPapers_7 rfl ?_
    refine g_last (n := 1) (j := 0) (x := (r).toInt64) hC hO hS (Or.inr rfl) (by decide) (by decide) dL_sumByPapers_8 (fun H lo hO hz_ ho_ hS => ?_)
    have hRB := hRB.keepO hBo hoE (by omega) ho_
    refine lv_goto (tgt := 15) hx hb dL_sumByPapers_9 (by decide) ?_
    refine lv_iconst (v := 0) hx hb dL_sumByPapers_15 (by decide) ?_
    exact g_iretW hC hr dL_sumByPapers_16 hS (Nat.le_of_ble_eq_true rfl) (Nat.le_of_ble_eq_true rfl) ⟨by rw [hk0]; decide, wPost_0 hk0 hRB hm_ ha_ hO ⟨_, hval, rfl⟩⟩
set_option maxHeartbeats 4000000 in
set_option maxRecDepth 100000 in
theorem w_standsByPapers {l : Launch} {E : gV} (hE : gOK l E) {α : Nat → Nat → Nat} {ξ : F2} {M : Nat → F2} {N : Nat → Nat} {B : Nat → Prop} (d0 : Int32) (hpw : ∀ i, i < N 1 → ∃ k, k ≤ N 2 ∧ ξ 17 i = nI k) (hpr : ∀ i, i < N 1 → ¬ ξ 23 i = -1 → ∃ k, k ≤ N 2 ∧ ξ 25 i = nI k) {o : Nat} {f0 : Nat → Int64} (hBo : B o) (hoE : E.2.1.heap.size ≤ o) : gMH l E yL_standsByPapers cL_standsByPapers 4 (some .int) [(0, 16, 19, 19)] ({ frames := 10, cells := 1, slots := 6, locals := 184 } : Room) [.ref (α 3 0), .int d0, .ref o] (fun H => RB E B α ξ M N H ∧ gA E o (.inl (E.2.2.2 4, 1, .inr (.inl f0))) H) (gQW (fun q => gAB E B q ∨ q = o) (gWi (fun r H => r = nI (kPow (N 1) d0) ∧ wPost E B (α 3 0) o ξ M N (kPow (N 1) d0) (ξ) (M 0) (N) (fun z => ∃ r : Int32, (∃ pk, pk ≤ N 2 ∧ ξ 17 (ix d0) = nI pk ∧ bz (pStd ξ (N 0) (N 2) pk (ix d0)) r) ∧ z = if r = 0 then 0 else 1) H))) (fun _ => False) (fun q => gAB E B q ∨ q = o) := by
  refine gMH_body hE (by decide +kernel) (Nat.le_of_ble_eq_true rfl) k_932 ?_
  intro p_ e_ s m args below meth c hC ht hr hP ls hl
  have hx := hC.2.2.1
  have hb := hC.2.2.2.1
  have hl : lv_has ls 4 [(0, .ref (α 3 0)), (1, .int d0), (2, .ref o)] := hl
  obtain ⟨hRB, hO⟩ := hP
  have hR := hRB.1
  have hS : va_S (fun q => gAB E B q ∨ q = o) s.heap s.heap [] := va_S.rf
  refine lv_aload_n hx hb dL_standsByPapers_0 rfl (lv_at hl 2 rfl) ?_
  refine lv_iconst (v := 0) hx hb dL_standsByPapers_1 (by decide) ?_
  refine lv_aload_n hx hb dL_standsByPapers_2 rfl (lv_at hl 0 rfl) ?_
  refine lv_iload_n hx hb dL_standsByPapers_3 rfl (lv_at hl 1 rfl) ?_
  refine g_cXi (k2 := 1) (n2 := 6) (g_runV (rest := [.int 0, .ref o]) hC (c_X4_standsByPapers hE (α := α) (ξ := ξ) (M := M) (N := N) (B := B) d0 hpw hpr) Y_X4_standsByPapers k_933 I_X4_standsByPapers V_X4_standsByPapers hRB.1.sig rfl hRB rfl hl.1 dL_standsByPapers_4 ⟨Nat.le_of_ble_eq_true rfl, Nat.le_of_ble_eq_true rfl⟩ ⟨Nat.le_of_ble_eq_true rfl, Nat.le_of_ble_eq_true rfl⟩ rfl (Nat.le_of_ble_eq_true rfl)) hS (fun _ h => Or.inl h) rfl rfl (fun X ce q H lo hpx hz_ ho_ hS hq hv hcl => ?_) (fun r H lo hw hz_ hk_ hS => ?_)
  · have hRB := hRB.keep hz_ ho_
    have hO := hO.kept (ho_ o hO.lt)
    obtain ⟨i_, hi_, hkc_⟩ := hpx
    rcases i_ with _ | i_
    · have hX_ : "java/lang/IndexOutOfBoundsException" = X := Option.some.inj hi_
      subst hX_
      refine vx_catch (own := "SignatoryLaw") (name := "java/lang/IndexOutOfBoundsException") hC.2.2.2.2.2.1 [] ⟨0, 16, 19, 19⟩ [] (by rw [ht]; rfl) (fun z hz => nomatch hz) rfl (by decide) (gw hC.1 hC.2.1 k_237 rfl) (va_Nw.use rfl (va_Nw.warmC hC.2.1 (va_Nw.of rfl (hC.1.2.1 _ k_252)))) hq hv hcl ?_
      refine lv_astore_n (lv' := [(3, .ref q), (0, .ref (α 3 0)), (1, .int d0), (2, .ref o)]) hx hb dL_standsByPapers_19 rfl hl (by decide) rfl (fun ls hl => ?_)
      refine lv_iconst (v := 1) hx hb dL_standsByPapers_20 (by decide) ?_
      exact g_iretW hC hr dL_standsByPapers_21 hS (Nat.le_of_ble_eq_true rfl) (Nat.le_of_ble_eq_true rfl) ⟨by rw [hkc_]; decide, wPost_k (by rw [hkc_]; omega) hRB hO⟩
    · exact absurd (show (none : Option String) = some X from hi_) (by simp)
  · obtain ⟨hk0, hval, α1, M1, hRB, hm_, ha_⟩ := hw
    have hO := hO.kept (hk_ o hO.lt (fun z => z.2 hBo))
    refine lv_if_eq (tgt := 14) hx hb dL_standsByPapers_7 (by decide) (fun c1_ => ?_) (fun c1_ => ?_)
    · refine lv_lconst (v := 0) hx hb dL_standsByPapers_14 (by decide) ?_
      refine g_last (n := 1) (j := 0) (x := 0) hC hO hS (Or.inr rfl) (by decide) (by decide) dL_standsByPapers_15 (fun H lo hO hz_ ho_ hS => ?_)
      have hRB := hRB.keepO hBo hoE (by omega) ho_
      refine lv_goto (tgt := 22) hx hb dL_standsByPapers_16 (by decide) ?_
      refine lv_iconst (v := 0) hx hb dL_standsByPapers_22 (by decide) ?_
      exact g_iretW hC hr dL_standsByPapers_23 hS (Nat.le_of_ble_eq_true rfl) (Nat.le_of_ble_eq_true rfl) ⟨by rw [hk0]; decide, wPost_0 hk0 hRB hm_ ha_ hO ⟨_, hval, (if_pos c1_).symm⟩⟩
    · refine lv_lconst (v := 1) hx hb dL_standsByPapers_10 (by decide) ?_
      refine lv_goto (tgt := 15) hx hb dL_standsByPapers_11 (by decide) ?_
      refine g_last (n := 1) (j := 0) (x := 1) hC hO hS (Or.inr rfl) (by decide) (by decide) dL_standsByPapers_15 (fun H lo hO hz_ ho_ hS => ?_)
      have hRB := hRB.keepO hBo hoE (by omega) ho_
      refine lv_goto (tgt := 22) hx hb dL_standsByPapers_16 (by decide) ?_
      refine lv_iconst (v := 0) hx hb dL_standsByPapers_22 (by decide) ?_
      exact g_iretW hC hr dL_standsByPapers_23 hS (Nat.le_of_ble_eq_true rfl) (Nat.le_of_ble_eq_true rfl) ⟨by rw [hk0]; decide, wPost_0 hk0 hRB hm_ ha_ hO ⟨_, hval, (if_neg c1_).symm⟩⟩
