set_option maxHeartbeats 4000000 in
set_option maxRecDepth 100000 in
theorem w_addPerson {l : Launch} {E : gV} (hE : gOK l E) {α : Nat → Nat → Nat} {ξ : F2} {M : Nat → F2} {N : Nat → Nat} {B : Nat → Prop}  {o : Nat} {f0 : Nat → Int64} (hBo : B o) (hoE : E.2.1.heap.size ≤ o) : gMH l E yL_addPerson cL_addPerson 3 (some .int) [(0, 8, 11, 13)] ({ frames := 9, cells := 1, slots := 6, locals := 160 } : Room) [.ref (α 3 0), .ref o] (fun H => RB E B α ξ M N H ∧ gA E o (.inl (E.2.2.2 4, 1, .inr (.inl f0))) H) (gQW (fun q => gAB E B q ∨ q = o) (gWi (fun r H => r = nI (kAdd (N 3)) ∧ wPost E B (α 3 0) o ξ M N (kAdd (N 3)) (ξ) (M 0) (updN N 3 (N 3 + 1)) (fun z => ∃ r : Int32, (r = nI (N 3)) ∧ z = r.toInt64) H))) (fun _ => False) (fun q => gAB E B q ∨ q = o) := by
  refine gMH_body hE (by decide +kernel) (Nat.le_of_ble_eq_true rfl) k_158 ?_
  intro p_ e_ s m args below meth c hC ht hr hP ls hl
  have hx := hC.2.2.1
  have hb := hC.2.2.2.1
  have hl : lv_has ls 3 [(0, .ref (α 3 0)), (1, .ref o)] := hl
  obtain ⟨hRB, hO⟩ := hP
  have hR := hRB.1
  have hS : va_S (fun q => gAB E B q ∨ q = o) s.heap s.heap [] := va_S.rf
  refine lv_aload_n hx hb dL_addPerson_0 rfl (lv_at hl 1 rfl) ?_
  refine lv_iconst (v := 0) hx hb dL_addPerson_1 (by decide) ?_
  refine lv_aload_n hx hb dL_addPerson_2 rfl (lv_at hl 0 rfl) ?_
  refine g_cXi (k2 := 1) (n2 := 6) (g_runV (rest := [.int 0, .ref o]) hC (c_X4_addPerson hE (α := α) (ξ := ξ) (M := M) (N := N) (B := B) ) Y_X4_addPerson k_160 I_X4_addPerson V_X4_addPerson hRB.1.sig rfl hRB rfl hl.1 dL_addPerson_3 ⟨Nat.le_of_ble_eq_true rfl, Nat.le_of_ble_eq_true rfl⟩ ⟨Nat.le_of_ble_eq_true rfl, Nat.le_of_ble_eq_true rfl⟩ rfl (Nat.le_of_ble_eq_true rfl)) hS (fun _ h => Or.inl h) rfl rfl (fun X ce q H lo hpx hz_ ho_ hS hq hv hcl => ?_) (fun r H lo hw hz_ hk_ hS => ?_)
  · have hRB := hRB.keep hz_ ho_
    have hO := hO.kept (ho_ o hO.lt)
    obtain ⟨i_, hi_, hkc_⟩ := hpx
    rcases i_ with _ | i_
    · have hX_ : "java/lang/IllegalStateException" = X := Option.some.inj hi_
      subst hX_
      refine vx_catch (own := "SignatoryLaw") (name := "java/lang/IllegalStateException") hC.2.2.2.2.2.1 [] ⟨0, 8, 11, 13⟩ [] (by rw [ht]; rfl) (fun z hz => nomatch hz) rfl (by decide) (gw hC.1 hC.2.1 k_159 rfl) (va_Nw.use rfl (va_Nw.warmC hC.2.1 (va_Nw.of rfl (hC.1.2.1 _ k_166)))) hq hv hcl ?_
      refine lv_astore_n (lv' := [(2, .ref q), (0, .ref (α 3 0)), (1, .ref o)]) hx hb dL_addPerson_11 rfl hl (by decide) rfl (fun ls hl => ?_)
      refine lv_iconst (v := 1) hx hb dL_addPerson_12 (by decide) ?_
      exact g_iretW hC hr dL_addPerson_13 hS (Nat.le_of_ble_eq_true rfl) (Nat.le_of_ble_eq_true rfl) ⟨by rw [hkc_]; decide, wPost_k (by rw [hkc_]; omega) hRB hO⟩
    · exact absurd (show (none : Option String) = some X from hi_) (by simp)
  · obtain ⟨hk0, hval, α1, M1, hRB, hm_, ha_⟩ := hw
    have hO := hO.kept (hk_ o hO.lt (fun z => z.2 hBo))
    refine lv_i2l (v := (r).toInt64) hx hb dL_addPerson_6 rfl ?_
    refine g_last (n := 1) (j := 0) (x := (r).toInt64) hC hO hS (Or.inr rfl) (by decide) (by decide) dL_addPerson_7 (fun H lo hO hz_ ho_ hS => ?_)
    have hRB := hRB.keepO hBo hoE (by omega) ho_
    refine lv_goto (tgt := 14) hx hb dL_addPerson_8 (by decide) ?_
    refine lv_iconst (v := 0) hx hb dL_addPerson_14 (by decide) ?_
    exact g_iretW hC hr dL_addPerson_15 hS (Nat.le_of_ble_eq_true rfl) (Nat.le_of_ble_eq_true rfl) ⟨by rw [hk0]; decide, wPost_0 hk0 hRB hm_ ha_ hO ⟨_, hval, rfl⟩⟩
set_option maxHeartbeats 4000000 in
set_option maxRecDepth 100000 in
theorem w_leave {l : Launch} {E : gV} (hE : gOK l E) {α : Nat → Nat → Nat} {ξ : F2} {M : Nat → F2} {N : Nat → Nat} {B : Nat → Prop} (p0 : Int32) (s0 : Int32) (hn : N 2 < 512) {o : Nat} {f0 : Nat → Int64} (hBo : B o) (hoE : E.2.1.heap.size ≤ o) : gMH l E yL_leave cL_leave 5 (some .int) [(0, 10, 13, 19), (0, 10, 17, 21)] ({ frames := 16, cells := 4, slots := 1030, locals := 318 } : Room) [.ref (α 3 0), .int p0, .int s0, .ref o] (fun H => RB E B α ξ M N H ∧ gA E o (.inl (E.2.2.2 4, 1, .inr (.inl f0))) H) (gQW (fun q => gAB E B q ∨ q = o) (gWi (fun r H => r = nI (kLeave (N 3) p0 s0) ∧ wPost E B (α 3 0) o ξ M N (kLeave (N 3) p0 s0) (papX ξ (N 2) 2 p0 s0) (tk (M 0) 2 p0 s0) (updN N 2 (N 2 + 1)) (fun z => ∃ r : Int32, (r = if M 0 2 (ix p0) = -2 then -1 else M 0 2 (ix p0)) ∧ z = r.toInt64) H))) (fun _ => False) (fun q => gAB E B q ∨ q = o) := by
  refine gMH_body hE (by decide +kernel) (Nat.le_of_ble_eq_true rfl) k_236 ?_
  intro p_ e_ s m args below meth c hC ht hr hP ls hl
  have hx := hC.2.2.1
  have hb := hC.2.2.2.1
  have hl : lv_has ls 5 [(0, .ref (α 3 0)), (1, .int p0), (2, .int s0), (3, .ref o)] := hl
  obtain ⟨hRB, hO⟩ := hP
  have hR := hRB.1
  have hS : va_S (fun q => gAB E B q ∨ q = o) s.heap s.heap [] := va_S.rf
  refine lv_aload_n hx hb dL_leave_0 rfl (lv_at hl 3 rfl) ?_
  refine lv_iconst (v := 0) hx hb dL_leave_1 (by decide) ?_
  refine lv_aload_n hx hb dL_leave_2 rfl (lv_at hl 0 rfl) ?_
  refine lv_iload_n hx hb dL_leave_3 rfl (lv_at hl 1 rfl) ?_
  refine lv_iload_n hx hb dL_leave_4 rfl (lv_at hl 2 rfl) ?_
  refine g_cXi (k2 := 4) (n2 := 1030) (g_runV (rest := [.int 0, .ref o]) hC (c_X4_leave hE (α := α) (ξ := ξ) (M := M) (N := N) (B := B) p0 s0 hn) Y_X4_leave k_239 I_X4_leave V_X4_leave hRB.1.sig rfl hRB rfl hl.1 dL_leave_5 ⟨Nat.le_of_ble_eq_true rfl, Nat.le_of_ble_eq_true rfl⟩ ⟨Nat.le_of_ble_eq_true rfl, Nat.le_of_ble_eq_true rfl⟩ rfl (Nat.le_of_ble_eq_true rfl)) hS (fun _ h => Or.inl h) rfl rfl (fun X ce q H lo hpx hz_ ho_ hS hq hv hcl => ?_) (fun r H lo hw hz_ hk_ hS => ?_)
  · have hRB := hRB.keep hz_ ho_
    have hO := hO.kept (ho_ o hO.lt)
    obtain ⟨i_, hi_, hkc_⟩ := hpx
    rcases i_ with _ | _ | i_
    · have hX_ : "java/lang/IndexOutOfBoundsException" = X := Option.some.inj hi_
      subst hX_
      refine vx_catch (own := "SignatoryLaw") (name := "java/lang/IndexOutOfBoundsException") hC.2.2.2.2.2.1 [] ⟨0, 10, 13, 19⟩ [⟨0, 10, 17, 21⟩] (by rw [ht]; rfl) (fun z hz => nomatch hz) rfl (by decide) (gw hC.1 hC.2.1 k_237 rfl) (va_Nw.use rfl (va_Nw.warmC hC.2.1 (va_Nw.of rfl (hC.1.2.1 _ k_252)))) hq hv hcl ?_
      refine lv_astore (lv' := [(4, .ref q), (0, .ref (α 3 0)), (1, .int p0), (2, .int s0), (3, .ref o)]) hx hb dL_leave_13 hl (by decide) rfl (fun ls hl => ?_)
      refine lv_iconst (v := 1) hx hb dL_leave_15 (by decide) ?_
      exact g_iretW hC hr dL_leave_16 hS (Nat.le_of_ble_eq_true rfl) (Nat.le_of_ble_eq_true rfl) ⟨by rw [hkc_]; decide, wPost_k (by rw [hkc_]; omega) hRB hO⟩
    · have hX_ : "java/lang/IllegalArgumentException" = X := Option.some.inj hi_
      subst hX_
      refine vx_catch (own := "SignatoryLaw") (name := "java/lang/IllegalArgumentException") hC.2.2.2.2.2.1 [⟨0, 10, 13, 19⟩] ⟨0, 10, 17, 21⟩ [] (by rw [ht]; rfl) (List.forall_mem_cons.mpr ⟨Or.inr ⟨by decide, "java/lang/IndexOutOfBoundsException", gw hC.1 hC.2.1 k_237 rfl, va_Nc.moved hC.2.1.alike (va_Nc.of (flat_of_before _ hC.1.2.2.1 _ nc_IAE_IOO))⟩, (fun z hz => nomatch hz)⟩) rfl (by decide) (gw hC.1 hC.2.1 k_238 rfl) (va_Nw.use rfl (va_Nw.warmC hC.2.1 (va_Nw.of rfl (hC.1.2.1 _ k_268)))) hq hv hcl ?_
      refine lv_astore (lv' := [(4, .ref q), (0, .ref (α 3 0)), (1, .int p0), (2, .int s0), (3, .ref o)]) hx hb dL_leave_17 hl (by decide) rfl (fun ls hl => ?_)
      refine lv_iconst (v := 2) hx hb dL_leave_19 (by decide) ?_
      exact g_iretW hC hr dL_leave_20 hS (Nat.le_of_ble_eq_true rfl) (Nat.le_of_ble_eq_true rfl) ⟨by rw [hkc_]; decide, wPost_k (by rw [hkc_]; omega) hRB hO⟩
    · exact absurd (show (none : Option String) = some X from hi_) (by simp)
  · obtain ⟨hk0, hval, α1, M1, hRB, hm_, ha_⟩ := hw
    have hO := hO.kept (hk_ o hO.lt (fun z => z.2 hBo))
    refine lv_i2l (v := (r).toInt64) hx hb dL_leave_8 rfl ?_
    refine g_last (n := 1) (j := 0) (x := (r).toInt64) hC hO hS (Or.inr rfl) (by decide) (by decide) dL_leave_9 (fun H lo hO hz_ ho_ hS => ?_)
    have hRB := hRB.keepO hBo hoE (by omega) ho_
    refine lv_goto (tgt := 21) hx hb dL_leave_10 (by decide) ?_
    refine lv_iconst (v := 0) hx hb dL_leave_21 (by decide) ?_
    exact g_iretW hC hr dL_leave_22 hS (Nat.le_of_ble_eq_true rfl) (Nat.le_of_ble_eq_true rfl) ⟨by rw [hk0]; decide, wPost_0 hk0 hRB hm_ ha_ hO ⟨_, hval, rfl⟩⟩
set_option maxHeartbeats 4000000 in
set_option maxRecDepth 100000 in
theorem w_comeBack {l : Launch} {E : gV} (hE : gOK l E) {α : Nat → Nat → Nat} {ξ : F2} {M : Nat → F2} {N : Nat → Nat} {B : Nat → Prop} (p0 : Int32) (hn : N 2 < 512) {o : Nat} {f0 : Nat → Int64} (hBo : B o) (hoE : E.2.1.heap.size ≤ o) : gMH l E yL_comeBack cL_comeBack 4 (some .int) [(0, 9, 12, 19), (0, 9, 15, 13)] ({ frames := 16, cells := 4, slots := 1030, locals := 317 } : Room) [.ref (α 3 0), .int p0, .ref o] (fun H => RB E B α ξ M N H ∧ gA E o (.inl (E.2.2.2 4, 1, .inr (.inl f0))) H) (gQW (fun q => gAB E B q ∨ q = o) (gWi (fun r H => r = nI (kBack (M 0 2 (ix p0) = -2) (N 3) p0) ∧ wPost E B (α 3 0) o ξ M N (kBack (M 0 2 (ix p0) = -2) (N 3) p0) (papX ξ (N 2) 2 p0 (-2)) (tk (M 0) 2 p0 (-2)) (updN N 2 (N 2 + 1)) (fun z => ∃ r : Int32, (r = if M 0 2 (ix p0) = -2 then -1 else M 0 2 (ix p0)) ∧ z = r.toInt64) H))) (fun _ => False) (fun q => gAB E B q ∨ q = o) := by
  refine gMH_body hE (by decide +kernel) (Nat.le_of_ble_eq_true rfl) k_384 ?_
  intro p_ e_ s m args below meth c hC ht hr hP ls hl
  have hx := hC.2.2.1
  have hb := hC.2.2.2.1
  have hl : lv_has ls 4 [(0, .ref (α 3 0)), (1, .int p0), (2, .ref o)] := hl
  obtain ⟨hRB, hO⟩ := hP
  have hR := hRB.1
  have hS : va_S (fun q => gAB E B q ∨ q = o) s.heap s.heap [] := va_S.rf
  refine lv_aload_n hx hb dL_comeBack_0 rfl (lv_at hl 2 rfl) ?_
  refine lv_iconst (v := 0) hx hb dL_comeBack_1 (by decide) ?_
  refine lv_aload_n hx hb dL_comeBack_2 rfl (lv_at hl 0 rfl) ?_
  refine lv_iload_n hx hb dL_comeBack_3 rfl (lv_at hl 1 rfl) ?_
  refine g_cXi (k2 := 4) (n2 := 1030) (g_runV (rest := [.int 0, .ref o]) hC (c_X4_comeBack hE (α := α) (ξ := ξ) (M := M) (N := N) (B := B) p0 hn) Y_X4_comeBack k_385 I_X4_comeBack V_X4_comeBack hRB.1.sig rfl hRB rfl hl.1 dL_comeBack_4 ⟨Nat.le_of_ble_eq_true rfl, Nat.le_of_ble_eq_true rfl⟩ ⟨Nat.le_of_ble_eq_true rfl, Nat.le_of_ble_eq_true rfl⟩ rfl (Nat.le_of_ble_eq_true rfl)) hS (fun _ h => Or.inl h) rfl rfl (fun X ce q H lo hpx hz_ ho_ hS hq hv hcl => ?_) (fun r H lo hw hz_ hk_ hS => ?_)
  · have hRB := hRB.keep hz_ ho_
    have hO := hO.kept (ho_ o hO.lt)
    obtain ⟨i_, hi_, hkc_⟩ := hpx
    rcases i_ with _ | _ | i_
    · have hX_ : "java/lang/IndexOutOfBoundsException" = X := Option.some.inj hi_
      subst hX_
      refine vx_catch (own := "SignatoryLaw") (name := "java/lang/IndexOutOfBoundsException") hC.2.2.2.2.2.1 [] ⟨0, 9, 12, 19⟩ [⟨0, 9, 15, 13⟩] (by rw [ht]; rfl) (fun z hz => nomatch hz) rfl (by decide) (gw hC.1 hC.2.1 k_237 rfl) (va_Nw.use rfl (va_Nw.warmC hC.2.1 (va_Nw.of rfl (hC.1.2.1 _ k_252)))) hq hv hcl ?_
      refine lv_astore_n (lv' := [(3, .ref q), (0, .ref (α 3 0)), (1, .int p0), (2, .ref o)]) hx hb dL_comeBack_12 rfl hl (by decide) rfl (fun ls hl => ?_)
      refine lv_iconst (v := 1) hx hb dL_comeBack_13 (by decide) ?_
      exact g_iretW hC hr dL_comeBack_14 hS (Nat.le_of_ble_eq_true rfl) (Nat.le_of_ble_eq_true rfl) ⟨by rw [hkc_]; decide, wPost_k (by rw [hkc_]; omega) hRB hO⟩
    · have hX_ : "java/lang/IllegalStateException" = X := Option.some.inj hi_
      subst hX_
      refine vx_catch (own := "SignatoryLaw") (name := "java/lang/IllegalStateException") hC.2.2.2.2.2.1 [⟨0, 9, 12, 19⟩] ⟨0, 9, 15, 13⟩ [] (by rw [ht]; rfl) (List.forall_mem_cons.mpr ⟨Or.inr ⟨by decide, "java/lang/IndexOutOfBoundsException", gw hC.1 hC.2.1 k_237 rfl, va_Nc.moved hC.2.1.alike (va_Nc.of (flat_of_before _ hC.1.2.2.1 _ nc_ISE_IOO))⟩, (fun z hz => nomatch hz)⟩) rfl (by decide) (gw hC.1 hC.2.1 k_159 rfl) (va_Nw.use rfl (va_Nw.warmC hC.2.1 (va_Nw.of rfl (hC.1.2.1 _ k_166)))) hq hv hcl ?_
      refine lv_astore_n (lv' := [(3, .ref q), (0, .ref (α 3 0)), (1, .int p0), (2, .ref o)]) hx hb dL_comeBack_15 rfl hl (by decide) rfl (fun ls hl => ?_)
      refine lv_iconst (v := 2) hx hb dL_comeBack_16 (by decide) ?_
      exact g_iretW hC hr dL_comeBack_17 hS (Nat.le_of_ble_eq_true rfl) (Nat.le_of_ble_eq_true rfl) ⟨by rw [hkc_]; decide, wPost_k (by rw [hkc_]; omega) hRB hO⟩
    · exact absurd (show (none : Option String) = some X from hi_) (by simp)
  · obtain ⟨hk0, hval, α1, M1, hRB, hm_, ha_⟩ := hw
    have hO := hO.kept (hk_ o hO.lt (fun z => z.2 hBo))
    refine lv_i2l (v := (r).toInt64) hx hb dL_comeBack_7 rfl ?_
    refine g_last (n := 1) (j := 0) (x := (r).toInt64) hC hO hS (Or.inr rfl) (by decide) (by decide) dL_comeBack_8 (fun H lo hO hz_ ho_ hS => ?_)
    have hRB := hRB.keepO hBo hoE (by omega) ho_
    refine lv_goto (tgt := 18) hx hb dL_comeBack_9 (by decide) ?_
    refine lv_iconst (v := 0) hx hb dL_comeBack_18 (by decide) ?_
    exact g_iretW hC hr dL_comeBack_19 hS (Nat.le_of_ble_eq_true rfl) (Nat.le_of_ble_eq_true rfl) ⟨by rw [hk0]; decide, wPost_0 hk0 hRB hm_ ha_ hO ⟨_, hval, rfl⟩⟩
set_option maxHeartbeats 4000000 in
set_option maxRecDepth 100000 in
theorem w_actsFor {l : Launch} {E : gV} (hE : gOK l E) {α : Nat → Nat → Nat} {ξ : F2} {M : Nat → F2} {N : Nat → Nat} {B : Nat → Prop} (p0 : Int32) (o0 : Int32) {o : Nat} {f0 : Nat → Int64} (hBo : B o) (hoE : E.2.1.heap.size ≤ o) : gMH l E yL_actsFor cL_actsFor 5 (some .int) [(0, 17, 20, 19)] ({ frames := 10, cells := 2, slots := 12, locals := 183 } : Room) [.ref (α 3 0), .int p0, .int o0, .ref o] (fun H => RB E B α ξ M N H ∧ gA E o (.inl (E.2.2.2 4, 1, .inr (.inl f0))) H) (gQW (fun q => gAB E B q ∨ q = o) (gWi (fun r H => r = nI (kActs (N 3) p0 o0) ∧ wPost E B (α 3 0) o ξ M N (kActs (N 3) p0 o0) (ξ) (M 0) (N) (fun z => ∃ r : Int32, (bz (fAct (xv ξ (M 0)) p0 o0) r) ∧ z = if r = 0 then 0 else 1) H))) (fun _ => False) (fun q => gAB E B q ∨ q = o) := by
  refine gMH_body hE (by decide +kernel) (Nat.le_of_ble_eq_true rfl) k_392 ?_
  intro p_ e_ s m args below meth c hC ht hr hP ls hl
  have hx := hC.2.2.1
  have hb := hC.2.2.2.1
  have hl : lv_has ls 5 [(0, .ref (α 3 0)), (1, .int p0), (2, .int o0), (3, .ref o)] := hl
  obtain ⟨hRB, hO⟩ := hP
  have hR := hRB.1
  have hS : va_S (fun q => gAB E B q ∨ q = o) s.heap s.heap [] := va_S.rf
  refine lv_aload_n hx hb dL_actsFor_0 rfl (lv_at hl 3 rfl) ?_
  refine lv_iconst (v := 0) hx hb dL_actsFor_1 (by decide) ?_
  refine lv_aload_n hx hb dL_actsFor_2 rfl (lv_at hl 0 rfl) ?_
  refine lv_iload_n hx hb dL_actsFor_3 rfl (lv_at hl 1 rfl) ?_
  refine lv_iload_n hx hb dL_actsFor_4 rfl (lv_at hl 2 rfl) ?_
  refine g_cRi (k2 := 2) (n2 := 12) (g_runV (rest := [.int 0, .ref o]) hC (c_X4_actsFor hE (α := α) (ξ := ξ) (M := M) (N := N) p0 o0) Y_X4_actsFor k_393 I_X4_actsFor V_X4_actsFor hRB.1.sig rfl hR rfl hl.1 dL_actsFor_5 ⟨Nat.le_of_ble_eq_true rfl, Nat.le_of_ble_eq_true rfl⟩ ⟨Nat.le_of_ble_eq_true rfl, Nat.le_of_ble_eq_true rfl⟩ rfl (Nat.le_of_ble_eq_true rfl)) rfl rfl (fun X ce q H hpx hz_ ho_ hq hv hcl => ?_) (fun r hw => ?_)
  · have hRB := hRB.keep hz_ ho_
    have hO := hO.kept (ho_ o hO.lt)
    have hS : va_S (fun q => gAB E B q ∨ q = o) s.heap H [] := ⟨hz_, fun q h1 _ => ho_ q h1, fun z hz => nomatch hz⟩
    obtain ⟨i_, hi_, hkc_⟩ := hpx
    rcases i_ with _ | i_
    · have hX_ : "java/lang/IndexOutOfBoundsException" = X := Option.some.inj hi_
      subst hX_
      refine vx_catch (own := "SignatoryLaw") (name := "java/lang/IndexOutOfBoundsException") hC.2.2.2.2.2.1 [] ⟨0, 17, 20, 19⟩ [] (by rw [ht]; rfl) (fun z hz => nomatch hz) rfl (by decide) (gw hC.1 hC.2.1 k_237 rfl) (va_Nw.use rfl (va_Nw.warmC hC.2.1 (va_Nw.of rfl (hC.1.2.1 _ k_252)))) hq hv hcl ?_
      refine lv_astore (lv' := [(4, .ref q), (0, .ref (α 3 0)), (1, .int p0), (2, .int o0), (3, .ref o)]) hx hb dL_actsFor_20 hl (by decide) rfl (fun ls hl => ?_)
      refine lv_iconst (v := 1) hx hb dL_actsFor_22 (by decide) ?_
      exact g_iretW hC hr dL_actsFor_23 hS (Nat.le_of_ble_eq_true rfl) (Nat.le_of_ble_eq_true rfl) ⟨by rw [hkc_]; decide, wPost_k (by rw [hkc_]; omega) hRB hO⟩
    · exact absurd (show (none : Option String) = some X from hi_) (by simp)
  · obtain ⟨hk0, hval⟩ := hw
    refine lv_if_eq (tgt := 15) hx hb dL_actsFor_8 (by decide) (fun c1_ => ?_) (fun c1_ => ?_)
    · refine lv_lconst (v := 0) hx hb dL_actsFor_15 (by decide) ?_
      refine g_last (n := 1) (j := 0) (x := 0) hC hO hS (Or.inr rfl) (by decide) (by decide) dL_actsFor_16 (fun H lo hO hz_ ho_ hS => ?_)
      have hRB := hRB.keepO hBo hoE (by omega) ho_
      refine lv_goto (tgt := 24) hx hb dL_actsFor_17 (by decide) ?_
      refine lv_iconst (v := 0) hx hb dL_actsFor_24 (by decide) ?_
      exact g_iretW hC hr dL_actsFor_25 hS (Nat.le_of_ble_eq_true rfl) (Nat.le_of_ble_eq_true rfl) ⟨by rw [hk0]; decide, wPost_0 hk0 hRB rfl rfl hO ⟨_, hval, (if_pos c1_).symm⟩⟩
    · refine lv_lconst (v := 1) hx hb dL_actsFor_11 (by decide) ?_
      refine lv_goto (tgt := 16) hx hb dL_actsFor_12 (by decide) ?_
      refine g_last (n := 1) (j := 0) (x := 1) hC hO hS (Or.inr rfl) (by decide) (by decide) dL_actsFor_16 (fun H lo hO hz_ ho_ hS => ?_)
      have hRB := hRB.keepO hBo hoE (by omega) ho_
      refine lv_goto (tgt := 24) hx hb dL_actsFor_17 (by decide) ?_
      refine lv_iconst (v := 0) hx hb dL_actsFor_24 (by decide) ?_
      exact g_iretW hC hr dL_actsFor_25 hS (Nat.le_of_ble_eq_true rfl) (Nat.le_of_ble_eq_true rfl) ⟨by rw [hk0]; decide, wPost_0 hk0 hRB rfl rfl hO ⟨_, hval, (if_neg c1_).symm⟩⟩
set_option maxHeartbeats 4000000 in
set_option maxRecDepth 100000 in
theorem w_grant {l : Launch} {E : gV} (hE : gOK l E) {α : Nat → Nat → Nat} {ξ : F2} {M : Nat → F2} {N : Nat → Nat} {B : Nat → Prop} (h0 : Int32) (k0 : Int32) (ha : Int32) (li : Int32) (fi : Int32) (la : Int32) (hn : N 2 < 512) {o : Nat} {f0 : Nat → Int64} (hBo : B o) (hoE : E.2.1.heap.size ≤ o) : gMH l E yL_grant cL_grant 9 (some .int) [(0, 18, 21, 19), (0, 18, 25, 21), (0, 18, 29, 13)] ({ frames := 17, cells := 8, slots := 2050, locals := 343 } : Room) [.ref (α 3 0), .int h0, .int k0, .int ha, .int li, .int fi, .int la, .ref o] (fun H => RB E B α ξ M N H ∧ gA E o (.inl (E.2.2.2 4, 1, .inr (.inl f0))) H) (gQW (fun q => gAB E B q ∨ q = o) (gWi (fun r H => r = nI (kGrant (N 3) (N 0) h0 k0 ha li fi la) ∧ wPost E B (α 3 0) o ξ M N (kGrant (N 3) (N 0) h0 k0 ha li fi la) (papX (powX ξ (N 0) (pwV h0 k0 ha fi la (-1))) (N 2) 0 (nI (N 0)) li) (tk (M 0) 0 (nI (N 0)) li) (updN (updN N 0 (N 0 + 1)) 2 (N 2 + 1)) (fun z => ∃ r : Int32, (r = nI (N 0)) ∧ z = r.toInt64) H))) (fun _ => False) (fun q => gAB E B q ∨ q = o) := by
  refine gMH_body hE (by decide +kernel) (Nat.le_of_ble_eq_true rfl) k_404 ?_
  intro p_ e_ s m args below meth c hC ht hr hP ls hl
  have hx := hC.2.2.1
  have hb := hC.2.2.2.1
  have hl : lv_has ls 9 [(0, .ref (α 3 0)), (1, .int h0), (2, .int k0), (3, .int ha), (4, .int li), (5, .int fi), (6, .int la), (7, .ref o)] := hl
  obtain ⟨hRB, hO⟩ := hP
  have hR := hRB.1
  have hS : va_S (fun q => gAB E B q ∨ q = o) s.heap s.heap [] := va_S.rf
  refine lv_aload hx hb dL_grant_0 (lv_at hl 7 rfl) ?_
  refine lv_iconst (v := 0) hx hb dL_grant_2 (by decide) ?_
  refine lv_aload_n hx hb dL_grant_3 rfl (lv_at hl 0 rfl) ?_
  refine lv_iload_n hx hb dL_grant_4 rfl (lv_at hl 1 rfl) ?_
  refine lv_iload_n hx hb dL_grant_5 rfl (lv_at hl 2 rfl) ?_
  refine lv_iload_n hx hb dL_grant_6 rfl (lv_at hl 3 rfl) ?_
  refine lv_iload hx hb dL_grant_7 (lv_at hl 4 rfl) ?_
  refine lv_iload hx hb dL_grant_9 (lv_at hl 5 rfl) ?_
  refine lv_iload hx hb dL_grant_11 (lv_at hl 6 rfl) ?_
  refine g_cXi (k2 := 8) (n2 := 2050) (g_runV (rest := [.int 0, .ref o]) hC (c_X4_grant hE (α := α) (ξ := ξ) (M := M) (N := N) (B := B) h0 k0 ha li fi la hn) Y_X4_grant k_405 I_X4_grant V_X4_grant hRB.1.sig rfl hRB rfl hl.1 dL_grant_13 ⟨Nat.le_of_ble_eq_true rfl, Nat.le_of_ble_eq_true rfl⟩ ⟨Nat.le_of_ble_eq_true rfl, Nat.le_of_ble_eq_true rfl⟩ rfl (Nat.le_of_ble_eq_true rfl)) hS (fun _ h => Or.inl h) rfl rfl (fun X ce q H lo hpx hz_ ho_ hS hq hv hcl => ?_) (fun r H lo hw hz_ hk_ hS => ?_)
  · have hRB := hRB.keep hz_ ho_
    have hO := hO.kept (ho_ o hO.lt)
    obtain ⟨i_, hi_, hkc_⟩ := hpx
    rcases i_ with _ | _ | _ | i_
    · have hX_ : "java/lang/IndexOutOfBoundsException" = X := Option.some.inj hi_
      subst hX_
      refine vx_catch (own := "SignatoryLaw") (name := "java/lang/IndexOutOfBoundsException") hC.2.2.2.2.2.1 [] ⟨0, 18, 21, 19⟩ [⟨0, 18, 25, 21⟩, ⟨0, 18, 29, 13⟩] (by rw [ht]; rfl) (fun z hz => nomatch hz) rfl (by decide) (gw hC.1 hC.2.1 k_237 rfl) (va_Nw.use rfl (va_Nw.warmC hC.2.1 (va_Nw.of rfl (hC.1.2.1 _ k_252)))) hq hv hcl ?_
      refine lv_astore (lv' := [(8, .ref q), (0, .ref (α 3 0)), (1, .int h0), (2, .int k0), (3, .int ha), (4, .int li), (5, .int fi), (6, .int la), (7, .ref o)]) hx hb dL_grant_21 hl (by decide) rfl (fun ls hl => ?_)
      refine lv_iconst (v := 1) hx hb dL_grant_23 (by decide) ?_
      exact g_iretW hC hr dL_grant_24 hS (Nat.le_of_ble_eq_true rfl) (Nat.le_of_ble_eq_true rfl) ⟨by rw [hkc_]; decide, wPost_k (by rw [hkc_]; omega) hRB hO⟩
    · have hX_ : "java/lang/IllegalArgumentException" = X := Option.some.inj hi_
      subst hX_
      refine vx_catch (own := "SignatoryLaw") (name := "java/lang/IllegalArgumentException") hC.2.2.2.2.2.1 [⟨0, 18, 21, 19⟩] ⟨0, 18, 25, 21⟩ [⟨0, 18, 29, 13⟩] (by rw [ht]; rfl) (List.forall_mem_cons.mpr ⟨Or.inr ⟨by decide, "java/lang/IndexOutOfBoundsException", gw hC.1 hC.2.1 k_237 rfl, va_Nc.moved hC.2.1.alike (va_Nc.of (flat_of_before _ hC.1.2.2.1 _ nc_IAE_IOO))⟩, (fun z hz => nomatch hz)⟩) rfl (by decide) (gw hC.1 hC.2.1 k_238 rfl) (va_Nw.use rfl (va_Nw.warmC hC.2.1 (va_Nw.of rfl (hC.1.2.1 _ k_268)))) hq hv hcl ?_
      refine lv_astore (lv' := [(8, .ref q), (0, .ref (α 3 0)), (1, .int h0), (2, .int k0), (3, .int ha), (4, .int li), (5, .int fi), (6, .int la), (7, .ref o)]) hx hb dL_grant_25 hl (by decide) rfl (fun ls hl => ?_)
      refine lv_iconst (v := 2) hx hb dL_grant_27 (by decide) ?_
      exact g_iretW hC hr dL_grant_28 hS (Nat.le_of_ble_eq_true rfl) (Nat.le_of_ble_eq_true rfl) ⟨by rw [hkc_]; decide, wPost_k (by rw [hkc_]; omega) hRB hO⟩
    · have hX_ : "java/lang/IllegalStateException" = X := Option.some.inj hi_
      subst hX_
      refine vx_catch (own := "SignatoryLaw") (name := "java/lang/IllegalStateException") hC.2.2.2.2.2.1 [⟨0, 18, 21, 19⟩, ⟨0, 18, 25, 21⟩] ⟨0, 18, 29, 13⟩ [] (by rw [ht]; rfl) (List.forall_mem_cons.mpr ⟨Or.inr ⟨by decide, "java/lang/IndexOutOfBoundsException", gw hC.1 hC.2.1 k_237 rfl, va_Nc.moved hC.2.1.alike (va_Nc.of (flat_of_before _ hC.1.2.2.1 _ nc_ISE_IOO))⟩, (List.forall_mem_cons.mpr ⟨Or.inr ⟨by decide, "java/lang/IllegalArgumentException", gw hC.1 hC.2.1 k_238 rfl, va_Nc.moved hC.2.1.alike (va_Nc.of (flat_of_before _ hC.1.2.2.1 _ nc_ISE_IAE))⟩, (fun z hz => nomatch hz)⟩)⟩) rfl (by decide) (gw hC.1 hC.2.1 k_159 rfl) (va_Nw.use rfl (va_Nw.warmC hC.2.1 (va_Nw.of rfl (hC.1.2.1 _ k_166)))) hq hv hcl ?_
      refine lv_astore (lv' := [(8, .ref q), (0, .ref (α 3 0)), (1, .int h0), (2, .int k0), (3, .int ha), (4, .int li), (5, .int fi), (6, .int la), (7, .ref o)]) hx hb dL_grant_29 hl (by decide) rfl (fun ls hl => ?_)
      refine lv_iconst (v := 3) hx hb dL_grant_31 (by decide) ?_
      exact g_iretW hC hr dL_grant_32 hS (Nat.le_of_ble_eq_true rfl) (Nat.le_of_ble_eq_true rfl) ⟨by rw [hkc_]; decide, wPost_k (by rw [hkc_]; omega) hRB hO⟩
    · exact absurd (show (none : Option String) = some X from hi_) (by simp)
  · obtain ⟨hk0, hval, α1, M1, hRB, hm_, ha_⟩ := hw
    have hO := hO.kept (hk_ o hO.lt (fun z => z.2 hBo))
    refine lv_i2l (v := (r).toInt64) hx hb dL_grant_16 rfl ?_
    refine g_last (n := 1) (j := 0) (x := (r).toInt64) hC hO hS (Or.inr rfl) (by decide) (by decide) dL_grant_17 (fun H lo hO hz_ ho_ hS => ?_)
    have hRB := hRB.keepO hBo hoE (by omega) ho_
    refine lv_goto (tgt := 33) hx hb dL_grant_18 (by decide) ?_
    refine lv_iconst (v := 0) hx hb dL_grant_33 (by decide) ?_
    exact g_iretW hC hr dL_grant_34 hS (Nat.le_of_ble_eq_true rfl) (Nat.le_of_ble_eq_true rfl) ⟨by rw [hk0]; decide, wPost_0 hk0 hRB hm_ ha_ hO ⟨_, hval, rfl⟩⟩
set_option maxHeartbeats 4000000 in
set_option maxRecDepth 100000 in
theorem w_delegate {l : Launch} {E : gV} (hE : gOK l E) {α : Nat → Nat → Nat} {ξ : F2} {M : Nat → F2} {N : Nat → Nat} {B : Nat → Prop} (p0 : Int32) (h0 : Int32) (li : Int32) (fi : Int32) (la : Int32) (hn : N 2 < 512) {o : Nat} {f0 : Nat → Int64} (hBo : B o) (hoE : E.2.1.heap.size ≤ o) : gMH l E yL_delegate cL_delegate 8 (some .int) [(0, 16, 19, 19), (0, 16, 23, 21), (0, 16, 27, 39), (0, 16, 31, 13)] ({ frames := 17, cells := 8, slots := 2050, locals := 343 } : Room) [.ref (α 3 0), .int p0, .int h0, .int li, .int fi, .int la, .ref o] (fun H => RB E B α ξ M N H ∧ gA E o (.inl (E.2.2.2 4, 1, .inr (.inl f0))) H) (gQW (fun q => gAB E B q ∨ q = o) (gWi (fun r H => r = nI (kDel (xv ξ (M 0)) (N 3) (N 0) p0 h0 li fi la) ∧ wPost E B (α 3 0) o ξ M N (kDel (xv ξ (M 0)) (N 3) (N 0) p0 h0 li fi la) (papX (powX ξ (N 0) (pwV h0 (ξ 2 (ix p0)) (ξ 3 (ix p0)) fi la p0)) (N 2) 0 (nI (N 0)) li) (tk (M 0) 0 (nI (N 0)) li) (updN (updN N 0 (N 0 + 1)) 2 (N 2 + 1)) (fun z => ∃ r : Int32, (r = nI (N 0)) ∧ z = r.toInt64) H))) (fun _ => False) (fun q => gAB E B q ∨ q = o) := by
  refine gMH_body hE (by decide +kernel) (Nat.le_of_ble_eq_true rfl) k_476 ?_
  intro p_ e_ s m args below meth c hC ht hr hP ls hl
  have hx := hC.2.2.1
  have hb := hC.2.2.2.1
  have hl : lv_has ls 8 [(0, .ref (α 3 0)), (1, .int p0), (2, .int h0), (3, .int li), (4, .int fi), (5, .int la), (6, .ref o)] := hl
  obtain ⟨hRB, hO⟩ := hP
  have hR := hRB.1
  have hS : va_S (fun q => gAB E B q ∨ q = o) s.heap s.heap [] := va_S.rf
  refine lv_aload hx hb dL_delegate_0 (lv_at hl 6 rfl) ?_
  refine lv_iconst (v := 0) hx hb dL_delegate_2 (by decide) ?_
  refine lv_aload_n hx hb dL_delegate_3 rfl (lv_at hl 0 rfl) ?_
  refine lv_iload_n hx hb dL_delegate_4 rfl (lv_at hl 1 rfl) ?_
  refine lv_iload_n hx hb dL_delegate_5 rfl (lv_at hl 2 rfl) ?_
  refine lv_iload_n hx hb dL_delegate_6 rfl (lv_at hl 3 rfl) ?_
  refine lv_iload hx hb dL_delegate_7 (lv_at hl 4 rfl) ?_
  refine lv_iload hx hb dL_delegate_9 (lv_at hl 5 rfl) ?_
  refine g_cXi (k2 := 8) (n2 := 2050) (g_runV (rest := [.int 0, .ref o]) hC (c_X4_delegate hE (α := α) (ξ := ξ) (M := M) (N := N) (B := B) p0 h0 li fi la hn) Y_X4_delegate k_478 I_X4_delegate V_X4_delegate hRB.1.sig rfl hRB rfl hl.1 dL_delegate_11 ⟨Nat.le_of_ble_eq_true rfl, Nat.le_of_ble_eq_true rfl⟩ ⟨Nat.le_of_ble_eq_true rfl, Nat.le_of_ble_eq_true rfl⟩ rfl (Nat.le_of_ble_eq_true rfl)) hS (fun _ h => Or.inl h) rfl rfl (fun X ce q H lo hpx hz_ ho_ hS hq hv hcl => ?_) (fun r H lo hw hz_ hk_ hS => ?_)
  · have hRB := hRB.keep hz_ ho_
    have hO := hO.kept (ho_ o hO.lt)
    obtain ⟨i_, hi_, hkc_⟩ := hpx
    rcases i_ with _ | _ | _ | _ | i_
    · have hX_ : "java/lang/IndexOutOfBoundsException" = X := Option.some.inj hi_
      subst hX_
      refine vx_catch (own := "SignatoryLaw") (name := "java/lang/IndexOutOfBoundsException") hC.2.2.2.2.2.1 [] ⟨0, 16, 19, 19⟩ [⟨0, 16, 23, 21⟩, ⟨0, 16, 27, 39⟩, ⟨0, 16, 31, 13⟩] (by rw [ht]; rfl) (fun z hz => nomatch hz) rfl (by decide) (gw hC.1 hC.2.1 k_237 rfl) (va_Nw.use rfl (va_Nw.warmC hC.2.1 (va_Nw.of rfl (hC.1.2.1 _ k_252)))) hq hv hcl ?_
      refine lv_astore (lv' := [(7, .ref q), (0, .ref (α 3 0)), (1, .int p0), (2, .int h0), (3, .int li), (4, .int fi), (5, .int la), (6, .ref o)]) hx hb dL_delegate_19 hl (by decide) rfl (fun ls hl => ?_)
      refine lv_iconst (v := 1) hx hb dL_delegate_21 (by decide) ?_
      exact g_iretW hC hr dL_delegate_22 hS (Nat.le_of_ble_eq_true rfl) (Nat.le_of_ble_eq_true rfl) ⟨by rw [hkc_]; decide, wPost_k (by rw [hkc_]; omega) hRB hO⟩
    · have hX_ : "java/lang/IllegalArgumentException" = X := Option.some.inj hi_
      subst hX_
      refine vx_catch (own := "SignatoryLaw") (name := "java/lang/IllegalArgumentException") hC.2.2.2.2.2.1 [⟨0, 16, 19, 19⟩] ⟨0, 16, 23, 21⟩ [⟨0, 16, 27, 39⟩, ⟨0, 16, 31, 13⟩] (by rw [ht]; rfl) (List.forall_mem_cons.mpr ⟨Or.inr ⟨by decide, "java/lang/IndexOutOfBoundsException", gw hC.1 hC.2.1 k_237 rfl, va_Nc.moved hC.2.1.alike (va_Nc.of (flat_of_before _ hC.1.2.2.1 _ nc_IAE_IOO))⟩, (fun z hz => nomatch hz)⟩) rfl (by decide) (gw hC.1 hC.2.1 k_238 rfl) (va_Nw.use rfl (va_Nw.warmC hC.2.1 (va_Nw.of rfl (hC.1.2.1 _ k_268)))) hq hv hcl ?_
      refine lv_astore (lv' := [(7, .ref q), (0, .ref (α 3 0)), (1, .int p0), (2, .int h0), (3, .int li), (4, .int fi), (5, .int la), (6, .ref o)]) hx hb dL_delegate_23 hl (by decide) rfl (fun ls hl => ?_)
      refine lv_iconst (v := 2) hx hb dL_delegate_25 (by decide) ?_
      exact g_iretW hC hr dL_delegate_26 hS (Nat.le_of_ble_eq_true rfl) (Nat.le_of_ble_eq_true rfl) ⟨by rw [hkc_]; decide, wPost_k (by rw [hkc_]; omega) hRB hO⟩
    · have hX_ : "java/lang/UnsupportedOperationException" = X := Option.some.inj hi_
      subst hX_
      refine vx_catch (own := "SignatoryLaw") (name := "java/lang/UnsupportedOperationException") hC.2.2.2.2.2.1 [⟨0, 16, 19, 19⟩, ⟨0, 16, 23, 21⟩] ⟨0, 16, 27, 39⟩ [⟨0, 16, 31, 13⟩] (by rw [ht]; rfl) (List.forall_mem_cons.mpr ⟨Or.inr ⟨by decide, "java/lang/IndexOutOfBoundsException", gw hC.1 hC.2.1 k_237 rfl, va_Nc.moved hC.2.1.alike (va_Nc.of (flat_of_before _ hC.1.2.2.1 _ nc_UOE_IOO))⟩, (List.forall_mem_cons.mpr ⟨Or.inr ⟨by decide, "java/lang/IllegalArgumentException", gw hC.1 hC.2.1 k_238 rfl, va_Nc.moved hC.2.1.alike (va_Nc.of (flat_of_before _ hC.1.2.2.1 _ nc_UOE_IAE))⟩, (fun z hz => nomatch hz)⟩)⟩) rfl (by decide) (gw hC.1 hC.2.1 k_477 rfl) (va_Nw.use rfl (va_Nw.warmC hC.2.1 (va_Nw.of rfl (hC.1.2.1 _ k_493)))) hq hv hcl ?_
      refine lv_astore (lv' := [(7, .ref q), (0, .ref (α 3 0)), (1, .int p0), (2, .int h0), (3, .int li), (4, .int fi), (5, .int la), (6, .ref o)]) hx hb dL_delegate_27 hl (by decide) rfl (fun ls hl => ?_)
      refine lv_iconst (v := 3) hx hb dL_delegate_29 (by decide) ?_
      exact g_iretW hC hr dL_delegate_30 hS (Nat.le_of_ble_eq_true rfl) (Nat.le_of_ble_eq_true rfl) ⟨by rw [hkc_]; decide, wPost_k (by rw [hkc_]; omega) hRB hO⟩
    · have hX_ : "java/lang/IllegalStateException" = X := Option.some.inj hi_
      subst hX_
      refine vx_catch (own := "SignatoryLaw") (name := "java/lang/IllegalStateException") hC.2.2.2.2.2.1 [⟨0, 16, 19, 19⟩, ⟨0, 16, 23, 21⟩, ⟨0, 16, 27, 39⟩] ⟨0, 16, 31, 13⟩ [] (by rw [ht]; rfl) (List.forall_mem_cons.mpr ⟨Or.inr ⟨by decide, "java/lang/IndexOutOfBoundsException", gw hC.1 hC.2.1 k_237 rfl, va_Nc.moved hC.2.1.alike (va_Nc.of (flat_of_before _ hC.1.2.2.1 _ nc_ISE_IOO))⟩, (List.forall_mem_cons.mpr ⟨Or.inr ⟨by decide, "java/lang/IllegalArgumentException", gw hC.1 hC.2.1 k_238 rfl, va_Nc.moved hC.2.1.alike (va_Nc.of (flat_of_before _ hC.1.2.2.1 _ nc_ISE_IAE))⟩, (List.forall_mem_cons.mpr ⟨Or.inr ⟨by decide, "java/lang/UnsupportedOperationException", gw hC.1 hC.2.1 k_477 rfl, va_Nc.moved hC.2.1.alike (va_Nc.of (flat_of_before _ hC.1.2.2.1 _ nc_ISE_UOE))⟩, (fun z hz => nomatch hz)⟩)⟩)⟩) rfl (by decide) (gw hC.1 hC.2.1 k_159 rfl) (va_Nw.use rfl (va_Nw.warmC hC.2.1 (va_Nw.of rfl (hC.1.2.1 _ k_166)))) hq hv hcl ?_
      refine lv_astore (lv' := [(7, .ref q), (0, .ref (α 3 0)), (1, .int p0), (2, .int h0), (3, .int li), (4, .int fi), (5, .int la), (6, .ref o)]) hx hb dL_delegate_31 hl (by decide) rfl (fun ls hl => ?_)
      refine lv_iconst (v := 4) hx hb dL_delegate_33 (by decide) ?_
      exact g_iretW hC hr dL_delegate_34 hS (Nat.le_of_ble_eq_true rfl) (Nat.le_of_ble_eq_true rfl) ⟨by rw [hkc_]; decide, wPost_k (by rw [hkc_]; omega) hRB hO⟩
    · exact absurd (show (none : Option String) = some X from hi_) (by simp)
  · obtain ⟨hk0, hval, α1, M1, hRB, hm_, ha_⟩ := hw
    have hO := hO.kept (hk_ o hO.lt (fun z => z.2 hBo))
    refine lv_i2l (v := (r).toInt64) hx hb dL_delegate_14 rfl ?_
    refine g_last (n := 1) (j := 0) (x := (r).toInt64) hC hO hS (Or.inr rfl) (by decide) (by decide) dL_delegate_15 (fun H lo hO hz_ ho_ hS => ?_)
    have hRB := hRB.keepO hBo hoE (by omega) ho_
    refine lv_goto (tgt := 35) hx hb dL_delegate_16 (by decide) ?_
    refine lv_iconst (v := 0) hx hb dL_delegate_35 (by decide) ?_
    exact g_iretW hC hr dL_delegate_36 hS (Nat.le_of_ble_eq_true rfl) (Nat.le_of_ble_eq_true rfl) ⟨by rw [hk0]; decide, wPost_0 hk0 hRB hm_ ha_ hO ⟨_, hval, rfl⟩⟩
set_option maxHeartbeats 4000000 in
set_option maxRecDepth 100000 in
theorem w_lower {l : Launch} {E : gV} (hE : gOK l E) {α : Nat → Nat → Nat} {ξ : F2} {M : Nat → F2} {N : Nat → Nat} {B : Nat → Prop} (p0 : Int32) (li : Int32) (hn : N 2 < 512) {o : Nat} {f0 : Nat → Int64} (hBo : B o) (hoE : E.2.1.heap.size ≤ o) : gMH l E yL_lower cL_lower 5 (some .int) [(0, 10, 13, 19), (0, 10, 17, 21)] ({ frames := 16, cells := 4, slots := 1030, locals := 319 } : Room) [.ref (α 3 0), .int p0, .int li, .ref o] (fun H => RB E B α ξ M N H ∧ gA E o (.inl (E.2.2.2 4, 1, .inr (.inl f0))) H) (gQW (fun q => gAB E B q ∨ q = o) (gWi (fun r H => r = nI (kLower (xv ξ (M 0)) (N 0) p0 li) ∧ wPost E B (α 3 0) o ξ M N (kLower (xv ξ (M 0)) (N 0) p0 li) (papX ξ (N 2) 0 p0 li) (tk (M 0) 0 p0 li) (updN N 2 (N 2 + 1)) (fun z => ∃ r : Int32, (r = M 0 0 (ix p0)) ∧ z = r.toInt64) H))) (fun _ => False) (fun q => gAB E B q ∨ q = o) := by
  refine gMH_body hE (by decide +kernel) (Nat.le_of_ble_eq_true rfl) k_514 ?_
  intro p_ e_ s m args below meth c hC ht hr hP ls hl
  have hx := hC.2.2.1
  have hb := hC.2.2.2.1
  have hl : lv_has ls 5 [(0, .ref (α 3 0)), (1, .int p0), (2, .int li), (3, .ref o)] := hl
  obtain ⟨hRB, hO⟩ := hP
  have hR := hRB.1
  have hS : va_S (fun q => gAB E B q ∨ q = o) s.heap s.heap [] := va_S.rf
  refine lv_aload_n hx hb dL_lower_0 rfl (lv_at hl 3 rfl) ?_
  refine lv_iconst (v := 0) hx hb dL_lower_1 (by decide) ?_
  refine lv_aload_n hx hb dL_lower_2 rfl (lv_at hl 0 rfl) ?_
  refine lv_iload_n hx hb dL_lower_3 rfl (lv_at hl 1 rfl) ?_
  refine lv_iload_n hx hb dL_lower_4 rfl (lv_at hl 2 rfl) ?_
  refine g_cXi (k2 := 4) (n2 := 1030) (g_runV (rest := [.int 0, .ref o]) hC (c_X4_lower hE (α := α) (ξ := ξ) (M := M) (N := N) (B := B) p0 li hn) Y_X4_lower k_515 I_X4_lower V_X4_lower hRB.1.sig rfl hRB rfl hl.1 dL_lower_5 ⟨Nat.le_of_ble_eq_true rfl, Nat.le_of_ble_eq_true rfl⟩ ⟨Nat.le_of_ble_eq_true rfl, Nat.le_of_ble_eq_true rfl⟩ rfl (Nat.le_of_ble_eq_true rfl)) hS (fun _ h => Or.inl h) rfl rfl (fun X ce q H lo hpx hz_ ho_ hS hq hv hcl => ?_) (fun r H lo hw hz_ hk_ hS => ?_)
  · have hRB := hRB.keep hz_ ho_
    have hO := hO.kept (ho_ o hO.lt)
    obtain ⟨i_, hi_, hkc_⟩ := hpx
    rcases i_ with _ | _ | i_
    · have hX_ : "java/lang/IndexOutOfBoundsException" = X := Option.some.inj hi_
      subst hX_
      refine vx_catch (own := "SignatoryLaw") (name := "java/lang/IndexOutOfBoundsException") hC.2.2.2.2.2.1 [] ⟨0, 10, 13, 19⟩ [⟨0, 10, 17, 21⟩] (by rw [ht]; rfl) (fun z hz => nomatch hz) rfl (by decide) (gw hC.1 hC.2.1 k_237 rfl) (va_Nw.use rfl (va_Nw.warmC hC.2.1 (va_Nw.of rfl (hC.1.2.1 _ k_252)))) hq hv hcl ?_
      refine lv_astore (lv' := [(4, .ref q), (0, .ref (α 3 0)), (1, .int p0), (2, .int li), (3, .ref o)]) hx hb dL_lower_13 hl (by decide) rfl (fun ls hl => ?_)
      refine lv_iconst (v := 1) hx hb dL_lower_15 (by decide) ?_
      exact g_iretW hC hr dL_lower_16 hS (Nat.le_of_ble_eq_true rfl) (Nat.le_of_ble_eq_true rfl) ⟨by rw [hkc_]; decide, wPost_k (by rw [hkc_]; omega) hRB hO⟩
    · have hX_ : "java/lang/IllegalArgumentException" = X := Option.some.inj hi_
      subst hX_
      refine vx_catch (own := "SignatoryLaw") (name := "java/lang/IllegalArgumentException") hC.2.2.2.2.2.1 [⟨0, 10, 13, 19⟩] ⟨0, 10, 17, 21⟩ [] (by rw [ht]; rfl) (List.forall_mem_cons.mpr ⟨Or.inr ⟨by decide, "java/lang/IndexOutOfBoundsException", gw hC.1 hC.2.1 k_237 rfl, va_Nc.moved hC.2.1.alike (va_Nc.of (flat_of_before _ hC.1.2.2.1 _ nc_IAE_IOO))⟩, (fun z hz => nomatch hz)⟩) rfl (by decide) (gw hC.1 hC.2.1 k_238 rfl) (va_Nw.use rfl (va_Nw.warmC hC.2.1 (va_Nw.of rfl (hC.1.2.1 _ k_268)))) hq hv hcl ?_
      refine lv_astore (lv' := [(4, .ref q), (0, .ref (α 3 0)), (1, .int p0), (2, .int li), (3, .ref o)]) hx hb dL_lower_17 hl (by decide) rfl (fun ls hl => ?_)
      refine lv_iconst (v := 2) hx hb dL_lower_19 (by decide) ?_
      exact g_iretW hC hr dL_lower_20 hS (Nat.le_of_ble_eq_true rfl) (Nat.le_of_ble_eq_true rfl) ⟨by rw [hkc_]; decide, wPost_k (by rw [hkc_]; omega) hRB hO⟩
    · exact absurd (show (none : Option String) = some X from hi_) (by simp)
  · obtain ⟨hk0, hval, α1, M1, hRB, hm_, ha_⟩ := hw
    have hO := hO.kept (hk_ o hO.lt (fun z => z.2 hBo))
    refine lv_i2l (v := (r).toInt64) hx hb dL_lower_8 rfl ?_
    refine g_last (n := 1) (j := 0) (x := (r).toInt64) hC hO hS (Or.inr rfl) (by decide) (by decide) dL_lower_9 (fun H lo hO hz_ ho_ hS => ?_)
    have hRB := hRB.keepO hBo hoE (by omega) ho_
    refine lv_goto (tgt := 21) hx hb dL_lower_10 (by decide) ?_
    refine lv_iconst (v := 0) hx hb dL_lower_21 (by decide) ?_
    exact g_iretW hC hr dL_lower_22 hS (Nat.le_of_ble_eq_true rfl) (Nat.le_of_ble_eq_true rfl) ⟨by rw [hk0]; decide, wPost_0 hk0 hRB hm_ ha_ hO ⟨_, hval, rfl⟩⟩
set_option maxHeartbeats 4000000 in
set_option maxRecDepth 100000 in
theorem w_revoke {l : Launch} {E : gV} (hE : gOK l E) {α : Nat → Nat → Nat} {ξ : F2} {M : Nat → F2} {N : Nat → Nat} {B : Nat → Prop} (p0 : Int32) (hn : N 2 < 512) {o : Nat} {f0 : Nat → Int64} (hBo : B o) (hoE : E.2.1.heap.size ≤ o) : gMH l E yL_revoke cL_revoke 4 (some .int) [(0, 9, 12, 19), (0, 9, 15, 13)] ({ frames := 16, cells := 4, slots := 1030, locals := 317 } : Room) [.ref (α 3 0), .int p0, .ref o] (fun H => RB E B α ξ M N H ∧ gA E o (.inl (E.2.2.2 4, 1, .inr (.inl f0))) H) (gQW (fun q => gAB E B q ∨ q = o) (gWi (fun r H => r = nI (kRevoke (xv ξ (M 0)) (N 0) p0) ∧ wPost E B (α 3 0) o ξ M N (kRevoke (xv ξ (M 0)) (N 0) p0) (papX ξ (N 2) 1 p0 (-1)) (tk (M 0) 1 p0 (-1)) (updN N 2 (N 2 + 1)) (fun z => ∃ r : Int32, (r = nI (fCnt (fun t => fCome (xv ξ (M 0)) t (ix p0)) (N 0))) ∧ z = r.toInt64) H))) (fun _ => False) (fun q => gAB E B q ∨ q = o) := by
  refine gMH_body hE (by decide +kernel) (Nat.le_of_ble_eq_true rfl) k_522 ?_
  intro p_ e_ s m args below meth c hC ht hr hP ls hl
  have hx := hC.2.2.1
  have hb := hC.2.2.2.1
  have hl : lv_has ls 4 [(0, .ref (α 3 0)), (1, .int p0), (2, .ref o)] := hl
  obtain ⟨hRB, hO⟩ := hP
  have hR := hRB.1
  have hS : va_S (fun q => gAB E B q ∨ q = o) s.heap s.heap [] := va_S.rf
  refine lv_aload_n hx hb dL_revoke_0 rfl (lv_at hl 2 rfl) ?_
  refine lv_iconst (v := 0) hx hb dL_revoke_1 (by decide) ?_
  refine lv_aload_n hx hb dL_revoke_2 rfl (lv_at hl 0 rfl) ?_
  refine lv_iload_n hx hb dL_revoke_3 rfl (lv_at hl 1 rfl) ?_
  refine g_cXi (k2 := 4) (n2 := 1030) (g_runV (rest := [.int 0, .ref o]) hC (c_X4_revoke hE (α := α) (ξ := ξ) (M := M) (N := N) (B := B) p0 hn) Y_X4_revoke k_523 I_X4_revoke V_X4_revoke hRB.1.sig rfl hRB rfl hl.1 dL_revoke_4 ⟨Nat.le_of_ble_eq_true rfl, Nat.le_of_ble_eq_true rfl⟩ ⟨Nat.le_of_ble_eq_true rfl, Nat.le_of_ble_eq_true rfl⟩ rfl (Nat.le_of_ble_eq_true rfl)) hS (fun _ h => Or.inl h) rfl rfl (fun X ce q H lo hpx hz_ ho_ hS hq hv hcl => ?_) (fun r H lo hw hz_ hk_ hS => ?_)
  · have hRB := hRB.keep hz_ ho_
    have hO := hO.kept (ho_ o hO.lt)
    obtain ⟨i_, hi_, hkc_⟩ := hpx
    rcases i_ with _ | _ | i_
    · have hX_ : "java/lang/IndexOutOfBoundsException" = X := Option.some.inj hi_
      subst hX_
      refine vx_catch (own := "SignatoryLaw") (name := "java/lang/IndexOutOfBoundsException") hC.2.2.2.2.2.1 [] ⟨0, 9, 12, 19⟩ [⟨0, 9, 15, 13⟩] (by rw [ht]; rfl) (fun z hz => nomatch hz) rfl (by decide) (gw hC.1 hC.2.1 k_237 rfl) (va_Nw.use rfl (va_Nw.warmC hC.2.1 (va_Nw.of rfl (hC.1.2.1 _ k_252)))) hq hv hcl ?_
      refine lv_astore_n (lv' := [(3, .ref q), (0, .ref (α 3 0)), (1, .int p0), (2, .ref o)]) hx hb dL_revoke_12 rfl hl (by decide) rfl (fun ls hl => ?_)
      refine lv_iconst (v := 1) hx hb dL_revoke_13 (by decide) ?_
      exact g_iretW hC hr dL_revoke_14 hS (Nat.le_of_ble_eq_true rfl) (Nat.le_of_ble_eq_true rfl) ⟨by rw [hkc_]; decide, wPost_k (by rw [hkc_]; omega) hRB hO⟩
    · have hX_ : "java/lang/IllegalStateException" = X := Option.some.inj hi_
      subst hX_
      refine vx_catch (own := "SignatoryLaw") (name := "java/lang/IllegalStateException") hC.2.2.2.2.2.1 [⟨0, 9, 12, 19⟩] ⟨0, 9, 15, 13⟩ [] (by rw [ht]; rfl) (List.forall_mem_cons.mpr ⟨Or.inr ⟨by decide, "java/lang/IndexOutOfBoundsException", gw hC.1 hC.2.1 k_237 rfl, va_Nc.moved hC.2.1.alike (va_Nc.of (flat_of_before _ hC.1.2.2.1 _ nc_ISE_IOO))⟩, (fun z hz => nomatch hz)⟩) rfl (by decide) (gw hC.1 hC.2.1 k_159 rfl) (va_Nw.use rfl (va_Nw.warmC hC.2.1 (va_Nw.of rfl (hC.1.2.1 _ k_166)))) hq hv hcl ?_
      refine lv_astore_n (lv' := [(3, .ref q), (0, .ref (α 3 0)), (1, .int p0), (2, .ref o)]) hx hb dL_revoke_15 rfl hl (by decide) rfl (fun ls hl => ?_)
      refine lv_iconst (v := 2) hx hb dL_revoke_16 (by decide) ?_
      exact g_iretW hC hr dL_revoke_17 hS (Nat.le_of_ble_eq_true rfl) (Nat.le_of_ble_eq_true rfl) ⟨by rw [hkc_]; decide, wPost_k (by rw [hkc_]; omega) hRB hO⟩
    · exact absurd (show (none : Option String) = some X from hi_) (by simp)
  · obtain ⟨hk0, hval, α1, M1, hRB, hm_, ha_⟩ := hw
    have hO := hO.kept (hk_ o hO.lt (fun z => z.2 hBo))
    refine lv_i2l (v := (r).toInt64) hx hb dL_revoke_7 rfl ?_
    refine g_last (n := 1) (j := 0) (x := (r).toInt64) hC hO hS (Or.inr rfl) (by decide) (by decide) dL_revoke_8 (fun H lo hO hz_ ho_ hS => ?_)
    have hRB := hRB.keepO hBo hoE (by omega) ho_
    refine lv_goto (tgt := 18) hx hb dL_revoke_9 (by decide) ?_
    refine lv_iconst (v := 0) hx hb dL_revoke_18 (by decide) ?_
    exact g_iretW hC hr dL_revoke_19 hS (Nat.le_of_ble_eq_true rfl) (Nat.le_of_ble_eq_true rfl) ⟨by rw [hk0]; decide, wPost_0 hk0 hRB hm_ ha_ hO ⟨_, hval, rfl⟩⟩
set_option maxHeartbeats 4000000 in
set_option maxRecDepth 100000 in
theorem w_source {l : Launch} {E : gV} (hE : gOK l E) {α : Nat → Nat → Nat} {ξ : F2} {M : Nat → F2} {N : Nat → Nat} {B : Nat → Prop} (p0 : Int32) {o : Nat} {f0 : Nat → Int64} (hBo : B o) (hoE : E.2.1.heap.size ≤ o) : gMH l E yL_source cL_source 4 (some .int) [(0, 9, 12, 19)] ({ frames := 10, cells := 1, slots := 6, locals := 183 } : Room) [.ref (α 3 0), .int p0, .ref o] (fun H => RB E B α ξ M N H ∧ gA E o (.inl (E.2.2.2 4, 1, .inr (.inl f0))) H) (gQW (fun q => gAB E B q ∨ q = o) (gWi (fun r H => r = nI (kPow (N 0) p0) ∧ wPost E B (α 3 0) o ξ M N (kPow (N 0) p0) (ξ) (M 0) (N) (fun z => ∃ r : Int32, (r = if ξ 6 (ix p0) < 0 then -1 else ξ 6 (ix p0)) ∧ z = r.toInt64) H))) (fun _ => False) (fun q => gAB E B q ∨ q = o) := by
  refine gMH_body hE (by decide +kernel) (Nat.le_of_ble_eq_true rfl) k_537 ?_
  intro p_ e_ s m args below meth c hC ht hr hP ls hl
  have hx := hC.2.2.1
  have hb := hC.2.2.2.1
  have hl : lv_has ls 4 [(0, .ref (α 3 0)), (1, .int p0), (2, .ref o)] := hl
  obtain ⟨hRB, hO⟩ := hP
  have hR := hRB.1
  have hS : va_S (fun q => gAB E B q ∨ q = o) s.heap s.heap [] := va_S.rf
  refine lv_aload_n hx hb dL_source_0 rfl (lv_at hl 2 rfl) ?_
  refine lv_iconst (v := 0) hx hb dL_source_1 (by decide) ?_
  refine lv_aload_n hx hb dL_source_2 rfl (lv_at hl 0 rfl) ?_
  refine lv_iload_n hx hb dL_source_3 rfl (lv_at hl 1 rfl) ?_
  refine g_cRi (k2 := 1) (n2 := 6) (g_runV (rest := [.int 0, .ref o]) hC (c_X4_source hE (α := α) (ξ := ξ) (M := M) (N := N) p0) Y_X4_source k_538 I_X4_source V_X4_source hRB.1.sig rfl hR rfl hl.1 dL_source_4 ⟨Nat.le_of_ble_eq_true rfl, Nat.le_of_ble_eq_true rfl⟩ ⟨Nat.le_of_ble_eq_true rfl, Nat.le_of_ble_eq_true rfl⟩ rfl (Nat.le_of_ble_eq_true rfl)) rfl rfl (fun X ce q H hpx hz_ ho_ hq hv hcl => ?_) (fun r hw => ?_)
  · have hRB := hRB.keep hz_ ho_
    have hO := hO.kept (ho_ o hO.lt)
    have hS : va_S (fun q => gAB E B q ∨ q = o) s.heap H [] := ⟨hz_, fun q h1 _ => ho_ q h1, fun z hz => nomatch hz⟩
    obtain ⟨i_, hi_, hkc_⟩ := hpx
    rcases i_ with _ | i_
    · have hX_ : "java/lang/IndexOutOfBoundsException" = X := Option.some.inj hi_
      subst hX_
      refine vx_catch (own := "SignatoryLaw") (name := "java/lang/IndexOutOfBoundsException") hC.2.2.2.2.2.1 [] ⟨0, 9, 12, 19⟩ [] (by rw [ht]; rfl) (fun z hz => nomatch hz) rfl (by decide) (gw hC.1 hC.2.1 k_237 rfl) (va_Nw.use rfl (va_Nw.warmC hC.2.1 (va_Nw.of rfl (hC.1.2.1 _ k_252)))) hq hv hcl ?_
      refine lv_astore_n (lv' := [(3, .ref q), (0, .ref (α 3 0)), (1, .int p0), (2, .ref o)]) hx hb dL_source_12 rfl hl (by decide) rfl (fun ls hl => ?_)
      refine lv_iconst (v := 1) hx hb dL_source_13 (by decide) ?_
      exact g_iretW hC hr dL_source_14 hS (Nat.le_of_ble_eq_true rfl) (Nat.le_of_ble_eq_true rfl) ⟨by rw [hkc_]; decide, wPost_k (by rw [hkc_]; omega) hRB hO⟩
    · exact absurd (show (none : Option String) = some X from hi_) (by simp)
  · obtain ⟨hk0, hval⟩ := hw
    refine lv_i2l (v := (r).toInt64) hx hb dL_source_7 rfl ?_
    refine g_last (n := 1) (j := 0) (x := (r).toInt64) hC hO hS (Or.inr rfl) (by decide) (by decide) dL_source_8 (fun H lo hO hz_ ho_ hS => ?_)
    have hRB := hRB.keepO hBo hoE (by omega) ho_
    refine lv_goto (tgt := 15) hx hb dL_source_9 (by decide) ?_
    refine lv_iconst (v := 0) hx hb dL_source_15 (by decide) ?_
    exact g_iretW hC hr dL_source_16 hS (Nat.le_of_ble_eq_true rfl) (Nat.le_of_ble_eq_true rfl) ⟨by rw [hk0]; decide, wPost_0 hk0 hRB rfl rfl hO ⟨_, hval, rfl⟩⟩
set_option maxHeartbeats 4000000 in
set_option maxRecDepth 100000 in
theorem w_limit {l : Launch} {E : gV} (hE : gOK l E) {α : Nat → Nat → Nat} {ξ : F2} {M : Nat → F2} {N : Nat → Nat} {B : Nat → Prop} (p0 : Int32) {o : Nat} {f0 : Nat → Int64} (hBo : B o) (hoE : E.2.1.heap.size ≤ o) : gMH l E yL_limit cL_limit 4 (some .int) [(0, 9, 12, 19)] ({ frames := 10, cells := 1, slots := 6, locals := 182 } : Room) [.ref (α 3 0), .int p0, .ref o] (fun H => RB E B α ξ M N H ∧ gA E o (.inl (E.2.2.2 4, 1, .inr (.inl f0))) H) (gQW (fun q => gAB E B q ∨ q = o) (gWi (fun r H => r = nI (kPow (N 0) p0) ∧ wPost E B (α 3 0) o ξ M N (kPow (N 0) p0) (ξ) (M 0) (N) (fun z => ∃ r : Int32, (r = M 0 0 (ix p0)) ∧ z = r.toInt64) H))) (fun _ => False) (fun q => gAB E B q ∨ q = o) := by
  refine gMH_body hE (by decide +kernel) (Nat.le_of_ble_eq_true rfl) k_544 ?_
  intro p_ e_ s m args below meth c hC ht hr hP ls hl
  have hx := hC.2.2.1
  have hb := hC.2.2.2.1
  have hl : lv_has ls 4 [(0, .ref (α 3 0)), (1, .int p0), (2, .ref o)] := hl
  obtain ⟨hRB, hO⟩ := hP
  have hR := hRB.1
  have hS : va_S (fun q => gAB E B q ∨ q = o) s.heap s.heap [] := va_S.rf
  refine lv_aload_n hx hb dL_limit_0 rfl (lv_at hl 2 rfl) ?_
  refine lv_iconst (v := 0) hx hb dL_limit_1 (by decide) ?_
  refine lv_aload_n hx hb dL_limit_2 rfl (lv_at hl 0 rfl) ?_
  refine lv_iload_n hx hb dL_limit_3 rfl (lv_at hl 1 rfl) ?_
  refine g_cRi (k2 := 1) (n2 := 6) (g_runV (rest := [.int 0, .ref o]) hC (c_X4_limit hE (α := α) (ξ := ξ) (M := M) (N := N) p0) Y_X4_limit k_545 I_X4_limit V_X4_limit hRB.1.sig rfl hR rfl hl.1 dL_limit_4 ⟨Nat.le_of_ble_eq_true rfl, Nat.le_of_ble_eq_true rfl⟩ ⟨Nat.le_of_ble_eq_true rfl, Nat.le_of_ble_eq_true rfl⟩ rfl (Nat.le_of_ble_eq_true rfl)) rfl rfl (fun X ce q H hpx hz_ ho_ hq hv hcl => ?_) (fun r hw => ?_)
  · have hRB := hRB.keep hz_ ho_
    have hO := hO.kept (ho_ o hO.lt)
    have hS : va_S (fun q => gAB E B q ∨ q = o) s.heap H [] := ⟨hz_, fun q h1 _ => ho_ q h1, fun z hz => nomatch hz⟩
    obtain ⟨i_, hi_, hkc_⟩ := hpx
    rcases i_ with _ | i_
    · have hX_ : "java/lang/IndexOutOfBoundsException" = X := Option.some.inj hi_
      subst hX_
      refine vx_catch (own := "SignatoryLaw") (name := "java/lang/IndexOutOfBoundsException") hC.2.2.2.2.2.1 [] ⟨0, 9, 12, 19⟩ [] (by rw [ht]; rfl) (fun z hz => nomatch hz) rfl (by decide) (gw hC.1 hC.2.1 k_237 rfl) (va_Nw.use rfl (va_Nw.warmC hC.2.1 (va_Nw.of rfl (hC.1.2.1 _ k_252)))) hq hv hcl ?_
      refine lv_astore_n (lv' := [(3, .ref q), (0, .ref (α 3 0)), (1, .int p0), (2, .ref o)]) hx hb dL_limit_12 rfl hl (by decide) rfl (fun ls hl => ?_)
      refine lv_iconst (v := 1) hx hb dL_limit_13 (by decide) ?_
      exact g_iretW hC hr dL_limit_14 hS (Nat.le_of_ble_eq_true rfl) (Nat.le_of_ble_eq_true rfl) ⟨by rw [hkc_]; decide, wPost_k (by rw [hkc_]; omega) hRB hO⟩
    · exact absurd (show (none : Option String) = some X from hi_) (by simp)
  · obtain ⟨hk0, hval⟩ := hw
    refine lv_i2l (v := (r).toInt64) hx hb dL_limit_7 rfl ?_
    refine g_last (n := 1) (j := 0) (x := (r).toInt64) hC hO hS (Or.inr rfl) (by decide) (by decide) dL_limit_8 (fun H lo hO hz_ ho_ hS => ?_)
    have hRB := hRB.keepO hBo hoE (by omega) ho_
    refine lv_goto (tgt := 15) hx hb dL_limit_9 (by decide) ?_
    refine lv_iconst (v := 0) hx hb dL_limit_15 (by decide) ?_
    exact g_iretW hC hr dL_limit_16 hS (Nat.le_of_ble_eq_true rfl) (Nat.le_of_ble_eq_true rfl) ⟨by rw [hk0]; decide, wPost_0 hk0 hRB rfl rfl hO ⟨_, hval, rfl⟩⟩
set_option maxHeartbeats 4000000 in
set_option maxRecDepth 100000 in
theorem w_fault {l : Launch} {E : gV} (hE : gOK l E) {α : Nat → Nat → Nat} {ξ : F2} {M : Nat → F2} {N : Nat → Nat} {B : Nat → Prop} (p0 : Int32) (s0 : Int32) {o : Nat} {f0 : Nat → Int64} (hBo : B o) (hoE : E.2.1.heap.size ≤ o) : gMH l E yL_fault cL_fault 5 (some .int) [(0, 10, 13, 19), (0, 10, 17, 21)] ({ frames := 10, cells := 2, slots := 12, locals := 184 } : Room) [.ref (α 3 0), .int p0, .int s0, .ref o] (fun H => RB E B α ξ M N H ∧ gA E o (.inl (E.2.2.2 4, 1, .inr (.inl f0))) H) (gQW (fun q => gAB E B q ∨ q = o) (gWi (fun r H => r = nI (kFault (N 0) p0 s0) ∧ wPost E B (α 3 0) o ξ M N (kFault (N 0) p0 s0) (ξ) (M 0) (N) (fun z => ∃ r : Int32, (r = fl (xv ξ (M 0)) (M 0 5 0) s0 (ix p0)) ∧ z = r.toInt64) H))) (fun _ => False) (fun q => gAB E B q ∨ q = o) := by
  refine gMH_body hE (by decide +kernel) (Nat.le_of_ble_eq_true rfl) k_551 ?_
  intro p_ e_ s m args below meth c hC ht hr hP ls hl
  have hx := hC.2.2.1
  have hb := hC.2.2.2.1
  have hl : lv_has ls 5 [(0, .ref (α 3 0)), (1, .int p0), (2, .int s0), (3, .ref o)] := hl
  obtain ⟨hRB, hO⟩ := hP
  have hR := hRB.1
  have hS : va_S (fun q => gAB E B q ∨ q = o) s.heap s.heap [] := va_S.rf
  refine lv_aload_n hx hb dL_fault_0 rfl (lv_at hl 3 rfl) ?_
  refine lv_iconst (v := 0) hx hb dL_fault_1 (by decide) ?_
  refine lv_aload_n hx hb dL_fault_2 rfl (lv_at hl 0 rfl) ?_
  refine lv_iload_n hx hb dL_fault_3 rfl (lv_at hl 1 rfl) ?_
  refine lv_iload_n hx hb dL_fault_4 rfl (lv_at hl 2 rfl) ?_
  refine g_cRi (k2 := 2) (n2 := 12) (g_runV (rest := [.int 0, .ref o]) hC (c_X4_fault hE (α := α) (ξ := ξ) (M := M) (N := N) p0 s0) Y_X4_fault k_552 I_X4_fault V_X4_fault hRB.1.sig rfl hR rfl hl.1 dL_fault_5 ⟨Nat.le_of_ble_eq_true rfl, Nat.le_of_ble_eq_true rfl⟩ ⟨Nat.le_of_ble_eq_true rfl, Nat.le_of_ble_eq_true rfl⟩ rfl (Nat.le_of_ble_eq_true rfl)) rfl rfl (fun X ce q H hpx hz_ ho_ hq hv hcl => ?_) (fun r hw => ?_)
  · have hRB := hRB.keep hz_ ho_
    have hO := hO.kept (ho_ o hO.lt)
    have hS : va_S (fun q => gAB E B q ∨ q = o) s.heap H [] := ⟨hz_, fun q h1 _ => ho_ q h1, fun z hz => nomatch hz⟩
    obtain ⟨i_, hi_, hkc_⟩ := hpx
    rcases i_ with _ | _ | i_
    · have hX_ : "java/lang/IndexOutOfBoundsException" = X := Option.some.inj hi_
      subst hX_
      refine vx_catch (own := "SignatoryLaw") (name := "java/lang/IndexOutOfBoundsException") hC.2.2.2.2.2.1 [] ⟨0, 10, 13, 19⟩ [⟨0, 10, 17, 21⟩] (by rw [ht]; rfl) (fun z hz => nomatch hz) rfl (by decide) (gw hC.1 hC.2.1 k_237 rfl) (va_Nw.use rfl (va_Nw.warmC hC.2.1 (va_Nw.of rfl (hC.1.2.1 _ k_252)))) hq hv hcl ?_
      refine lv_astore (lv' := [(4, .ref q), (0, .ref (α 3 0)), (1, .int p0), (2, .int s0), (3, .ref o)]) hx hb dL_fault_13 hl (by decide) rfl (fun ls hl => ?_)
      refine lv_iconst (v := 1) hx hb dL_fault_15 (by decide) ?_
      exact g_iretW hC hr dL_fault_16 hS (Nat.le_of_ble_eq_true rfl) (Nat.le_of_ble_eq_true rfl) ⟨by rw [hkc_]; decide, wPost_k (by rw [hkc_]; omega) hRB hO⟩
    · have hX_ : "java/lang/IllegalArgumentException" = X := Option.some.inj hi_
      subst hX_
      refine vx_catch (own := "SignatoryLaw") (name := "java/lang/IllegalArgumentException") hC.2.2.2.2.2.1 [⟨0, 10, 13, 19⟩] ⟨0, 10, 17, 21⟩ [] (by rw [ht]; rfl) (List.forall_mem_cons.mpr ⟨Or.inr ⟨by decide, "java/lang/IndexOutOfBoundsException", gw hC.1 hC.2.1 k_237 rfl, va_Nc.moved hC.2.1.alike (va_Nc.of (flat_of_before _ hC.1.2.2.1 _ nc_IAE_IOO))⟩, (fun z hz => nomatch hz)⟩) rfl (by decide) (gw hC.1 hC.2.1 k_238 rfl) (va_Nw.use rfl (va_Nw.warmC hC.2.1 (va_Nw.of rfl (hC.1.2.1 _ k_268)))) hq hv hcl ?_
      refine lv_astore (lv' := [(4, .ref q), (0, .ref (α 3 0)), (1, .int p0), (2, .int s0), (3, .ref o)]) hx hb dL_fault_17 hl (by decide) rfl (fun ls hl => ?_)
      refine lv_iconst (v := 2) hx hb dL_fault_19 (by decide) ?_
      exact g_iretW hC hr dL_fault_20 hS (Nat.le_of_ble_eq_true rfl) (Nat.le_of_ble_eq_true rfl) ⟨by rw [hkc_]; decide, wPost_k (by rw [hkc_]; omega) hRB hO⟩
    · exact absurd (show (none : Option String) = some X from hi_) (by simp)
  · obtain ⟨hk0, hval⟩ := hw
    refine lv_i2l (v := (r).toInt64) hx hb dL_fault_8 rfl ?_
    refine g_last (n := 1) (j := 0) (x := (r).toInt64) hC hO hS (Or.inr rfl) (by decide) (by decide) dL_fault_9 (fun H lo hO hz_ ho_ hS => ?_)
    have hRB := hRB.keepO hBo hoE (by omega) ho_
    refine lv_goto (tgt := 21) hx hb dL_fault_10 (by decide) ?_
    refine lv_iconst (v := 0) hx hb dL_fault_21 (by decide) ?_
    exact g_iretW hC hr dL_fault_22 hS (Nat.le_of_ble_eq_true rfl) (Nat.le_of_ble_eq_true rfl) ⟨by rw [hk0]; decide, wPost_0 hk0 hRB rfl rfl hO ⟨_, hval, rfl⟩⟩
set_option maxHeartbeats 4000000 in
set_option maxRecDepth 100000 in
theorem w_faultDepth {l : Launch} {E : gV} (hE : gOK l E) {α : Nat → Nat → Nat} {ξ : F2} {M : Nat → F2} {N : Nat → Nat} {B : Nat → Prop} (p0 : Int32) (s0 : Int32) {o : Nat} {f0 : Nat → Int64} (hBo : B o) (hoE : E.2.1.heap.size ≤ o) : gMH l E yL_faultDepth cL_faultDepth 5 (some .int) [(0, 10, 13, 19), (0, 10, 17, 21), (0, 10, 21, 60)] ({ frames := 10, cells := 3, slots := 18, locals := 185 } : Room) [.ref (α 3 0), .int p0, .int s0, .ref o] (fun H => RB E B α ξ M N H ∧ gA E o (.inl (E.2.2.2 4, 1, .inr (.inl f0))) H) (gQW (fun q => gAB E B q ∨ q = o) (gWi (fun r H => r = nI (kDepth (xv ξ (M 0)) (M 0 5 0) (N 0) p0 s0) ∧ wPost E B (α 3 0) o ξ M N (kDepth (xv ξ (M 0)) (M 0 5 0) (N 0) p0 s0) (ξ) (M 0) (N) (fun z => ∃ r : Int32, (r = fStep (xv ξ (M 0)) (M 0 5 0) s0 (ix p0)) ∧ z = r.toInt64) H))) (fun _ => False) (fun q => gAB E B q ∨ q = o) := by
  refine gMH_body hE (by decide +kernel) (Nat.le_of_ble_eq_true rfl) k_573 ?_
  intro p_ e_ s m args below meth c hC ht hr hP ls hl
  have hx := hC.2.2.1
  have hb := hC.2.2.2.1
  have hl : lv_has ls 5 [(0, .ref (α 3 0)), (1, .int p0), (2, .int s0), (3, .ref o)] := hl
  obtain ⟨hRB, hO⟩ := hP
  have hR := hRB.1
  have hS : va_S (fun q => gAB E B q ∨ q = o) s.heap s.heap [] := va_S.rf
  refine lv_aload_n hx hb dL_faultDepth_0 rfl (lv_at hl 3 rfl) ?_
  refine lv_iconst (v := 0) hx hb dL_faultDepth_1 (by decide) ?_
  refine lv_aload_n hx hb dL_faultDepth_2 rfl (lv_at hl 0 rfl) ?_
  refine lv_iload_n hx hb dL_faultDepth_3 rfl (lv_at hl 1 rfl) ?_
  refine lv_iload_n hx hb dL_faultDepth_4 rfl (lv_at hl 2 rfl) ?_
  refine g_cRi (k2 := 3) (n2 := 18) (g_runV (rest := [.int 0, .ref o]) hC (c_X4_faultDepth hE (α := α) (ξ := ξ) (M := M) (N := N) p0 s0) Y_X4_faultDepth k_575 I_X4_faultDepth V_X4_faultDepth hRB.1.sig rfl hR rfl hl.1 dL_faultDepth_5 ⟨Nat.le_of_ble_eq_true rfl, Nat.le_of_ble_eq_true rfl⟩ ⟨Nat.le_of_ble_eq_true rfl, Nat.le_of_ble_eq_true rfl⟩ rfl (Nat.le_of_ble_eq_true rfl)) rfl rfl (fun X ce q H hpx hz_ ho_ hq hv hcl => ?_) (fun r hw => ?_)
  · have hRB := hRB.keep hz_ ho_
    have hO := hO.kept (ho_ o hO.lt)
    have hS : va_S (fun q => gAB E B q ∨ q = o) s.heap H [] := ⟨hz_, fun q h1 _ => ho_ q h1, fun z hz => nomatch hz⟩
    obtain ⟨i_, hi_, hkc_⟩ := hpx
    rcases i_ with _ | _ | _ | i_
    · have hX_ : "java/lang/IndexOutOfBoundsException" = X := Option.some.inj hi_
      subst hX_
      refine vx_catch (own := "SignatoryLaw") (name := "java/lang/IndexOutOfBoundsException") hC.2.2.2.2.2.1 [] ⟨0, 10, 13, 19⟩ [⟨0, 10, 17, 21⟩, ⟨0, 10, 21, 60⟩] (by rw [ht]; rfl) (fun z hz => nomatch hz) rfl (by decide) (gw hC.1 hC.2.1 k_237 rfl) (va_Nw.use rfl (va_Nw.warmC hC.2.1 (va_Nw.of rfl (hC.1.2.1 _ k_252)))) hq hv hcl ?_
      refine lv_astore (lv' := [(4, .ref q), (0, .ref (α 3 0)), (1, .int p0), (2, .int s0), (3, .ref o)]) hx hb dL_faultDepth_13 hl (by decide) rfl (fun ls hl => ?_)
      refine lv_iconst (v := 1) hx hb dL_faultDepth_15 (by decide) ?_
      exact g_iretW hC hr dL_faultDepth_16 hS (Nat.le_of_ble_eq_true rfl) (Nat.le_of_ble_eq_true rfl) ⟨by rw [hkc_]; decide, wPost_k (by rw [hkc_]; omega) hRB hO⟩
    · have hX_ : "java/lang/IllegalArgumentException" = X := Option.some.inj hi_
      subst hX_
      refine vx_catch (own := "SignatoryLaw") (name := "java/lang/IllegalArgumentException") hC.2.2.2.2.2.1 [⟨0, 10, 13, 19⟩] ⟨0, 10, 17, 21⟩ [⟨0, 10, 21, 60⟩] (by rw [ht]; rfl) (List.forall_mem_cons.mpr ⟨Or.inr ⟨by decide, "java/lang/IndexOutOfBoundsException", gw hC.1 hC.2.1 k_237 rfl, va_Nc.moved hC.2.1.alike (va_Nc.of (flat_of_before _ hC.1.2.2.1 _ nc_IAE_IOO))⟩, (fun z hz => nomatch hz)⟩) rfl (by decide) (gw hC.1 hC.2.1 k_238 rfl) (va_Nw.use rfl (va_Nw.warmC hC.2.1 (va_Nw.of rfl (hC.1.2.1 _ k_268)))) hq hv hcl ?_
      refine lv_astore (lv' := [(4, .ref q), (0, .ref (α 3 0)), (1, .int p0), (2, .int s0), (3, .ref o)]) hx hb dL_faultDepth_17 hl (by decide) rfl (fun ls hl => ?_)
      refine lv_iconst (v := 2) hx hb dL_faultDepth_19 (by decide) ?_
      exact g_iretW hC hr dL_faultDepth_20 hS (Nat.le_of_ble_eq_true rfl) (Nat.le_of_ble_eq_true rfl) ⟨by rw [hkc_]; decide, wPost_k (by rw [hkc_]; omega) hRB hO⟩
    · have hX_ : "java/util/NoSuchElementException" = X := Option.some.inj hi_
      subst hX_
      refine vx_catch (own := "SignatoryLaw") (name := "java/util/NoSuchElementException") hC.2.2.2.2.2.1 [⟨0, 10, 13, 19⟩, ⟨0, 10, 17, 21⟩] ⟨0, 10, 21, 60⟩ [] (by rw [ht]; rfl) (List.forall_mem_cons.mpr ⟨Or.inr ⟨by decide, "java/lang/IndexOutOfBoundsException", gw hC.1 hC.2.1 k_237 rfl, va_Nc.moved hC.2.1.alike (va_Nc.of (flat_of_before _ hC.1.2.2.1 _ nc_NSE_IOO))⟩, (List.forall_mem_cons.mpr ⟨Or.inr ⟨by decide, "java/lang/IllegalArgumentException", gw hC.1 hC.2.1 k_238 rfl, va_Nc.moved hC.2.1.alike (va_Nc.of (flat_of_before _ hC.1.2.2.1 _ nc_NSE_IAE))⟩, (fun z hz => nomatch hz)⟩)⟩) rfl (by decide) (gw hC.1 hC.2.1 k_574 rfl) (va_Nw.use rfl (va_Nw.warmC hC.2.1 (va_Nw.of rfl (hC.1.2.1 _ k_585)))) hq hv hcl ?_
      refine lv_astore (lv' := [(4, .ref q), (0, .ref (α 3 0)), (1, .int p0), (2, .int s0), (3, .ref o)]) hx hb dL_faultDepth_21 hl (by decide) rfl (fun ls hl => ?_)
      refine lv_iconst (v := 3) hx hb dL_faultDepth_23 (by decide) ?_
      exact g_iretW hC hr dL_faultDepth_24 hS (Nat.le_of_ble_eq_true rfl) (Nat.le_of_ble_eq_true rfl) ⟨by rw [hkc_]; decide, wPost_k (by rw [hkc_]; omega) hRB hO⟩
    · exact absurd (show (none : Option String) = some X from hi_) (by simp)
  · obtain ⟨hk0, hval⟩ := hw
    refine lv_i2l (v := (r).toInt64) hx hb dL_faultDepth_8 rfl ?_
    refine g_last (n := 1) (j := 0) (x := (r).toInt64) hC hO hS (Or.inr rfl) (by decide) (by decide) dL_faultDepth_9 (fun H lo hO hz_ ho_ hS => ?_)
    have hRB := hRB.keepO hBo hoE (by omega) ho_
    refine lv_goto (tgt := 25) hx hb dL_faultDepth_10 (by decide) ?_
    refine lv_iconst (v := 0) hx hb dL_faultDepth_25 (by decide) ?_
    exact g_iretW hC hr dL_faultDepth_26 hS (Nat.le_of_ble_eq_true rfl) (Nat.le_of_ble_eq_true rfl) ⟨by rw [hk0]; decide, wPost_0 hk0 hRB rfl rfl hO ⟨_, hval, rfl⟩⟩
set_option maxHeartbeats 4000000 in
set_option maxRecDepth 100000 in
theorem w_reach {l : Launch} {E : gV} (hE : gOK l E) {α : Nat → Nat → Nat} {ξ : F2} {M : Nat → F2} {N : Nat → Nat} {B : Nat → Prop} (p0 : Int32) {o : Nat} {f0 : Nat → Int64} (hBo : B o) (hoE : E.2.1.heap.size ≤ o) : gMH l E yL_reach cL_reach 4 (some .int) [(0, 9, 12, 19)] ({ frames := 10, cells := 1, slots := 6, locals := 182 } : Room) [.ref (α 3 0), .int p0, .ref o] (fun H => RB E B α ξ M N H ∧ gA E o (.inl (E.2.2.2 4, 1, .inr (.inl f0))) H) (gQW (fun q => gAB E B q ∨ q = o) (gWi (fun r H => r = nI (kPow (N 0) p0) ∧ wPost E B (α 3 0) o ξ M N (kPow (N 0) p0) (ξ) (M 0) (N) (fun z => ∃ r : Int32, (r = xReach (xv ξ (M 0)) (M 0 5 0) (ix p0)) ∧ z = r.toInt64) H))) (fun _ => False) (fun q => gAB E B q ∨ q = o) := by
  refine gMH_body hE (by decide +kernel) (Nat.le_of_ble_eq_true rfl) k_601 ?_
  intro p_ e_ s m args below meth c hC ht hr hP ls hl
  have hx := hC.2.2.1
  have hb := hC.2.2.2.1
  have hl : lv_has ls 4 [(0, .ref (α 3 0)), (1, .int p0), (2, .ref o)] := hl
  obtain ⟨hRB, hO⟩ := hP
  have hR := hRB.1
  have hS : va_S (fun q => gAB E B q ∨ q = o) s.heap s.heap [] := va_S.rf
  refine lv_aload_n hx hb dL_reach_0 rfl (lv_at hl 2 rfl) ?_
  refine lv_iconst (v := 0) hx hb dL_reach_1 (by decide) ?_
  refine lv_aload_n hx hb dL_reach_2 rfl (lv_at hl 0 rfl) ?_
  refine lv_iload_n hx hb dL_reach_3 rfl (lv_at hl 1 rfl) ?_
  refine g_cRi (k2 := 1) (n2 := 6) (g_runV (rest := [.int 0, .ref o]) hC (c_X4_reach hE (α := α) (ξ := ξ) (M := M) (N := N) p0) Y_X4_reach k_602 I_X4_reach V_X4_reach hRB.1.sig rfl hR rfl hl.1 dL_reach_4 ⟨Nat.le_of_ble_eq_true rfl, Nat.le_of_ble_eq_true rfl⟩ ⟨Nat.le_of_ble_eq_true rfl, Nat.le_of_ble_eq_true rfl⟩ rfl (Nat.le_of_ble_eq_true rfl)) rfl rfl (fun X ce q H hpx hz_ ho_ hq hv hcl => ?_) (fun r hw => ?_)
  · have hRB := hRB.keep hz_ ho_
    have hO := hO.kept (ho_ o hO.lt)
    have hS : va_S (fun q => gAB E B q ∨ q = o) s.heap H [] := ⟨hz_, fun q h1 _ => ho_ q h1, fun z hz => nomatch hz⟩
    obtain ⟨i_, hi_, hkc_⟩ := hpx
    rcases i_ with _ | i_
    · have hX_ : "java/lang/IndexOutOfBoundsException" = X := Option.some.inj hi_
      subst hX_
      refine vx_catch (own := "SignatoryLaw") (name := "java/lang/IndexOutOfBoundsException") hC.2.2.2.2.2.1 [] ⟨0, 9, 12, 19⟩ [] (by rw [ht]; rfl) (fun z hz => nomatch hz) rfl (by decide) (gw hC.1 hC.2.1 k_237 rfl) (va_Nw.use rfl (va_Nw.warmC hC.2.1 (va_Nw.of rfl (hC.1.2.1 _ k_252)))) hq hv hcl ?_
      refine lv_astore_n (lv' := [(3, .ref q), (0, .ref (α 3 0)), (1, .int p0), (2, .ref o)]) hx hb dL_reach_12 rfl hl (by decide) rfl (fun ls hl => ?_)
      refine lv_iconst (v := 1) hx hb dL_reach_13 (by decide) ?_
      exact g_iretW hC hr dL_reach_14 hS (Nat.le_of_ble_eq_true rfl) (Nat.le_of_ble_eq_true rfl) ⟨by rw [hkc_]; decide, wPost_k (by rw [hkc_]; omega) hRB hO⟩
    · exact absurd (show (none : Option String) = some X from hi_) (by simp)
  · obtain ⟨hk0, hval⟩ := hw
    refine lv_i2l (v := (r).toInt64) hx hb dL_reach_7 rfl ?_
    refine g_last (n := 1) (j := 0) (x := (r).toInt64) hC hO hS (Or.inr rfl) (by decide) (by decide) dL_reach_8 (fun H lo hO hz_ ho_ hS => ?_)
    have hRB := hRB.keepO hBo hoE (by omega) ho_
    refine lv_goto (tgt := 15) hx hb dL_reach_9 (by decide) ?_
    refine lv_iconst (v := 0) hx hb dL_reach_15 (by decide) ?_
    exact g_iretW hC hr dL_reach_16 hS (Nat.le_of_ble_eq_true rfl) (Nat.le_of_ble_eq_true rfl) ⟨by rw [hk0]; decide, wPost_0 hk0 hRB rfl rfl hO ⟨_, hval, rfl⟩⟩
set_option maxHeartbeats 4000000 in
set_option maxRecDepth 100000 in
theorem w_canSign {l : Launch} {E : gV} (hE : gOK l E) {α : Nat → Nat → Nat} {ξ : F2} {M : Nat → F2} {N : Nat → Nat} {B : Nat → Prop} (p0 : Int32) (k0 : Int32) (s0 : Int32) {o : Nat} {f0 : Nat → Int64} (hBo : B o) (hoE : E.2.1.heap.size ≤ o) : gMH l E yL_canSign cL_canSign 6 (some .int) [(0, 19, 22, 19), (0, 19, 26, 21)] ({ frames := 10, cells := 3, slots := 18, locals := 184 } : Room) [.ref (α 3 0), .int p0, .int k0, .int s0, .ref o] (fun H => RB E B α ξ M N H ∧ gA E o (.inl (E.2.2.2 4, 1, .inr (.inl f0))) H) (gQW (fun q => gAB E B q ∨ q = o) (gWi (fun r H => r = nI (kCan (N 3) p0 k0 s0) ∧ wPost E B (α 3 0) o ξ M N (kCan (N 3) p0 k0 s0) (ξ) (M 0) (N) (fun z => ∃ r : Int32, (bz (fHas (xv ξ (M 0)) (N 0) (M 0 5 0) p0 k0 115 s0) r) ∧ z = if r = 0 then 0 else 1) H))) (fun _ => False) (fun q => gAB E B q ∨ q = o) := by
  refine gMH_body hE (by decide +kernel) (Nat.le_of_ble_eq_true rfl) k_614 ?_
  intro p_ e_ s m args below meth c hC ht hr hP ls hl
  have hx := hC.2.2.1
  have hb := hC.2.2.2.1
  have hl : lv_has ls 6 [(0, .ref (α 3 0)), (1, .int p0), (2, .int k0), (3, .int s0), (4, .ref o)] := hl
  obtain ⟨hRB, hO⟩ := hP
  have hR := hRB.1
  have hS : va_S (fun q => gAB E B q ∨ q = o) s.heap s.heap [] := va_S.rf
  refine lv_aload hx hb dL_canSign_0 (lv_at hl 4 rfl) ?_
  refine lv_iconst (v := 0) hx hb dL_canSign_2 (by decide) ?_
  refine lv_aload_n hx hb dL_canSign_3 rfl (lv_at hl 0 rfl) ?_
  refine lv_iload_n hx hb dL_canSign_4 rfl (lv_at hl 1 rfl) ?_
  refine lv_iload_n hx hb dL_canSign_5 rfl (lv_at hl 2 rfl) ?_
  refine lv_iload_n hx hb dL_canSign_6 rfl (lv_at hl 3 rfl) ?_
  refine g_cRi (k2 := 3) (n2 := 18) (g_runV (rest := [.int 0, .ref o]) hC (c_X4_canSign hE (α := α) (ξ := ξ) (M := M) (N := N) p0 k0 s0) Y_X4_canSign k_615 I_X4_canSign V_X4_canSign hRB.1.sig rfl hR rfl hl.1 dL_canSign_7 ⟨Nat.le_of_ble_eq_true rfl, Nat.le_of_ble_eq_true rfl⟩ ⟨Nat.le_of_ble_eq_true rfl, Nat.le_of_ble_eq_true rfl⟩ rfl (Nat.le_of_ble_eq_true rfl)) rfl rfl (fun X ce q H hpx hz_ ho_ hq hv hcl => ?_) (fun r hw => ?_)
  · have hRB := hRB.keep hz_ ho_
    have hO := hO.kept (ho_ o hO.lt)
    have hS : va_S (fun q => gAB E B q ∨ q = o) s.heap H [] := ⟨hz_, fun q h1 _ => ho_ q h1, fun z hz => nomatch hz⟩
    obtain ⟨i_, hi_, hkc_⟩ := hpx
    rcases i_ with _ | _ | i_
    · have hX_ : "java/lang/IndexOutOfBoundsException" = X := Option.some.inj hi_
      subst hX_
      refine vx_catch (own := "SignatoryLaw") (name := "java/lang/IndexOutOfBoundsException") hC.2.2.2.2.2.1 [] ⟨0, 19, 22, 19⟩ [⟨0, 19, 26, 21⟩] (by rw [ht]; rfl) (fun z hz => nomatch hz) rfl (by decide) (gw hC.1 hC.2.1 k_237 rfl) (va_Nw.use rfl (va_Nw.warmC hC.2.1 (va_Nw.of rfl (hC.1.2.1 _ k_252)))) hq hv hcl ?_
      refine lv_astore (lv' := [(5, .ref q), (0, .ref (α 3 0)), (1, .int p0), (2, .int k0), (3, .int s0), (4, .ref o)]) hx hb dL_canSign_22 hl (by decide) rfl (fun ls hl => ?_)
      refine lv_iconst (v := 1) hx hb dL_canSign_24 (by decide) ?_
      exact g_iretW hC hr dL_canSign_25 hS (Nat.le_of_ble_eq_true rfl) (Nat.le_of_ble_eq_true rfl) ⟨by rw [hkc_]; decide, wPost_k (by rw [hkc_]; omega) hRB hO⟩
    · have hX_ : "java/lang/IllegalArgumentException" = X := Option.some.inj hi_
      subst hX_
      refine vx_catch (own := "SignatoryLaw") (name := "java/lang/IllegalArgumentException") hC.2.2.2.2.2.1 [⟨0, 19, 22, 19⟩] ⟨0, 19, 26, 21⟩ [] (by rw [ht]; rfl) (List.forall_mem_cons.mpr ⟨Or.inr ⟨by decide, "java/lang/IndexOutOfBoundsException", gw hC.1 hC.2.1 k_237 rfl, va_Nc.moved hC.2.1.alike (va_Nc.of (flat_of_before _ hC.1.2.2.1 _ nc_IAE_IOO))⟩, (fun z hz => nomatch hz)⟩) rfl (by decide) (gw hC.1 hC.2.1 k_238 rfl) (va_Nw.use rfl (va_Nw.warmC hC.2.1 (va_Nw.of rfl (hC.1.2.1 _ k_268)))) hq hv hcl ?_
      refine lv_astore (lv' := [(5, .ref q), (0, .ref (α 3 0)), (1, .int p0), (2, .int k0), (3, .int s0), (4, .ref o)]) hx hb dL_canSign_26 hl (by decide) rfl (fun ls hl => ?_)
      refine lv_iconst (v := 2) hx hb dL_canSign_28 (by decide) ?_
      exact g_iretW hC hr dL_canSign_29 hS (Nat.le_of_ble_eq_true rfl) (Nat.le_of_ble_eq_true rfl) ⟨by rw [hkc_]; decide, wPost_k (by rw [hkc_]; omega) hRB hO⟩
    · exact absurd (show (none : Option String) = some X from hi_) (by simp)
  · obtain ⟨hk0, hval⟩ := hw
    refine lv_if_eq (tgt := 17) hx hb dL_canSign_10 (by decide) (fun c1_ => ?_) (fun c1_ => ?_)
    · refine lv_lconst (v := 0) hx hb dL_canSign_17 (by decide) ?_
      refine g_last (n := 1) (j := 0) (x := 0) hC hO hS (Or.inr rfl) (by decide) (by decide) dL_canSign_18 (fun H lo hO hz_ ho_ hS => ?_)
      have hRB := hRB.keepO hBo hoE (by omega) ho_
      refine lv_goto (tgt := 30) hx hb dL_canSign_19 (by decide) ?_
      refine lv_iconst (v := 0) hx hb dL_canSign_30 (by decide) ?_
      exact g_iretW hC hr dL_canSign_31 hS (Nat.le_of_ble_eq_true rfl) (Nat.le_of_ble_eq_true rfl) ⟨by rw [hk0]; decide, wPost_0 hk0 hRB rfl rfl hO ⟨_, hval, (if_pos c1_).symm⟩⟩
    · refine lv_lconst (v := 1) hx hb dL_canSign_13 (by decide) ?_
      refine lv_goto (tgt := 18) hx hb dL_canSign_14 (by decide) ?_
      refine g_last (n := 1) (j := 0) (x := 1) hC hO hS (Or.inr rfl) (by decide) (by decide) dL_canSign_18 (fun H lo hO hz_ ho_ hS => ?_)
      have hRB := hRB.keepO hBo hoE (by omega) ho_
      refine lv_goto (tgt := 30) hx hb dL_canSign_19 (by decide) ?_
      refine lv_iconst (v := 0) hx hb dL_canSign_30 (by decide) ?_
      exact g_iretW hC hr dL_canSign_31 hS (Nat.le_of_ble_eq_true rfl) (Nat.le_of_ble_eq_true rfl) ⟨by rw [hk0]; decide, wPost_0 hk0 hRB rfl rfl hO ⟨_, hval, (if_neg c1_).symm⟩⟩
set_option maxHeartbeats 4000000 in
set_option maxRecDepth 100000 in
theorem w_canSignTogether {l : Launch} {E : gV} (hE : gOK l E) {α : Nat → Nat → Nat} {ξ : F2} {M : Nat → F2} {N : Nat → Nat} {B : Nat → Prop} (p0 : Int32) (o0 : Int32) (k0 : Int32) (s0 : Int32) {o : Nat} {f0 : Nat → Int64} (hBo : B o) (hoE : E.2.1.heap.size ≤ o) : gMH l E yL_canSignTogether cL_canSignTogether 7 (some .int) [(0, 21, 24, 19), (0, 21, 28, 21), (0, 21, 32, 39)] ({ frames := 10, cells := 5, slots := 30, locals := 185 } : Room) [.ref (α 3 0), .int p0, .int o0, .int k0, .int s0, .ref o] (fun H => RB E B α ξ M N H ∧ gA E o (.inl (E.2.2.2 4, 1, .inr (.inl f0))) H) (gQW (fun q => gAB E B q ∨ q = o) (gWi (fun r H => r = nI (kTog (N 3) p0 o0 k0 s0) ∧ wPost E B (α 3 0) o ξ M N (kTog (N 3) p0 o0 k0 s0) (ξ) (M 0) (N) (fun z => ∃ r : Int32, (bz (fTog (xv ξ (M 0)) (N 0) (M 0 5 0) p0 o0 k0 s0) r) ∧ z = if r = 0 then 0 else 1) H))) (fun _ => False) (fun q => gAB E B q ∨ q = o) := by
  refine gMH_body hE (by decide +kernel) (Nat.le_of_ble_eq_true rfl) k_632 ?_
  intro p_ e_ s m args below meth c hC ht hr hP ls hl
  have hx := hC.2.2.1
  have hb := hC.2.2.2.1
  have hl : lv_has ls 7 [(0, .ref (α 3 0)), (1, .int p0), (2, .int o0), (3, .int k0), (4, .int s0), (5, .ref o)] := hl
  obtain ⟨hRB, hO⟩ := hP
  have hR := hRB.1
  have hS : va_S (fun q => gAB E B q ∨ q = o) s.heap s.heap [] := va_S.rf
  refine lv_aload hx hb dL_canSignTogether_0 (lv_at hl 5 rfl) ?_
  refine lv_iconst (v := 0) hx hb dL_canSignTogether_2 (by decide) ?_
  refine lv_aload_n hx hb dL_canSignTogether_3 rfl (lv_at hl 0 rfl) ?_
  refine lv_iload_n hx hb dL_canSignTogether_4 rfl (lv_at hl 1 rfl) ?_
  refine lv_iload_n hx hb dL_canSignTogether_5 rfl (lv_at hl 2 rfl) ?_
  refine lv_iload_n hx hb dL_canSignTogether_6 rfl (lv_at hl 3 rfl) ?_
  refine lv_iload hx hb dL_canSignTogether_7 (lv_at hl 4 rfl) ?_
  refine g_cRi (k2 := 5) (n2 := 30) (g_runV (rest := [.int 0, .ref o]) hC (c_X4_canSignTogether hE (α := α) (ξ := ξ) (M := M) (N := N) p0 o0 k0 s0) Y_X4_canSignTogether k_633 I_X4_canSignTogether V_X4_canSignTogether hRB.1.sig rfl hR rfl hl.1 dL_canSignTogether_9 ⟨Nat.le_of_ble_eq_true rfl, Nat.le_of_ble_eq_true rfl⟩ ⟨Nat.le_of_ble_eq_true rfl, Nat.le_of_ble_eq_true rfl⟩ rfl (Nat.le_of_ble_eq_true rfl)) rfl rfl (fun X ce q H hpx hz_ ho_ hq hv hcl => ?_) (fun r hw => ?_)
  · have hRB := hRB.keep hz_ ho_
    have hO := hO.kept (ho_ o hO.lt)
    have hS : va_S (fun q => gAB E B q ∨ q = o) s.heap H [] := ⟨hz_, fun q h1 _ => ho_ q h1, fun z hz => nomatch hz⟩
    obtain ⟨i_, hi_, hkc_⟩ := hpx
    rcases i_ with _ | _ | _ | i_
    · have hX_ : "java/lang/IndexOutOfBoundsException" = X := Option.some.inj hi_
      subst hX_
      refine vx_catch (own := "SignatoryLaw") (name := "java/lang/IndexOutOfBoundsException") hC.2.2.2.2.2.1 [] ⟨0, 21, 24, 19⟩ [⟨0, 21, 28, 21⟩, ⟨0, 21, 32, 39⟩] (by rw [ht]; rfl) (fun z hz => nomatch hz) rfl (by decide) (gw hC.1 hC.2.1 k_237 rfl) (va_Nw.use rfl (va_Nw.warmC hC.2.1 (va_Nw.of rfl (hC.1.2.1 _ k_252)))) hq hv hcl ?_
      refine lv_astore (lv' := [(6, .ref q), (0, .ref (α 3 0)), (1, .int p0), (2, .int o0), (3, .int k0), (4, .int s0), (5, .ref o)]) hx hb dL_canSignTogether_24 hl (by decide) rfl (fun ls hl => ?_)
      refine lv_iconst (v := 1) hx hb dL_canSignTogether_26 (by decide) ?_
      exact g_iretW hC hr dL_canSignTogether_27 hS (Nat.le_of_ble_eq_true rfl) (Nat.le_of_ble_eq_true rfl) ⟨by rw [hkc_]; decide, wPost_k (by rw [hkc_]; omega) hRB hO⟩
    · have hX_ : "java/lang/IllegalArgumentException" = X := Option.some.inj hi_
      subst hX_
      refine vx_catch (own := "SignatoryLaw") (name := "java/lang/IllegalArgumentException") hC.2.2.2.2.2.1 [⟨0, 21, 24, 19⟩] ⟨0, 21, 28, 21⟩ [⟨0, 21, 32, 39⟩] (by rw [ht]; rfl) (List.forall_mem_cons.mpr ⟨Or.inr ⟨by decide, "java/lang/IndexOutOfBoundsException", gw hC.1 hC.2.1 k_237 rfl, va_Nc.moved hC.2.1.alike (va_Nc.of (flat_of_before _ hC.1.2.2.1 _ nc_IAE_IOO))⟩, (fun z hz => nomatch hz)⟩) rfl (by decide) (gw hC.1 hC.2.1 k_238 rfl) (va_Nw.use rfl (va_Nw.warmC hC.2.1 (va_Nw.of rfl (hC.1.2.1 _ k_268)))) hq hv hcl ?_
      refine lv_astore (lv' := [(6, .ref q), (0, .ref (α 3 0)), (1, .int p0), (2, .int o0), (3, .int k0), (4, .int s0), (5, .ref o)]) hx hb dL_canSignTogether_28 hl (by decide) rfl (fun ls hl => ?_)
      refine lv_iconst (v := 2) hx hb dL_canSignTogether_30 (by decide) ?_
      exact g_iretW hC hr dL_canSignTogether_31 hS (Nat.le_of_ble_eq_true rfl) (Nat.le_of_ble_eq_true rfl) ⟨by rw [hkc_]; decide, wPost_k (by rw [hkc_]; omega) hRB hO⟩
    · have hX_ : "java/lang/UnsupportedOperationException" = X := Option.some.inj hi_
      subst hX_
      refine vx_catch (own := "SignatoryLaw") (name := "java/lang/UnsupportedOperationException") hC.2.2.2.2.2.1 [⟨0, 21, 24, 19⟩, ⟨0, 21, 28, 21⟩] ⟨0, 21, 32, 39⟩ [] (by rw [ht]; rfl) (List.forall_mem_cons.mpr ⟨Or.inr ⟨by decide, "java/lang/IndexOutOfBoundsException", gw hC.1 hC.2.1 k_237 rfl, va_Nc.moved hC.2.1.alike (va_Nc.of (flat_of_before _ hC.1.2.2.1 _ nc_UOE_IOO))⟩, (List.forall_mem_cons.mpr ⟨Or.inr ⟨by decide, "java/lang/IllegalArgumentException", gw hC.1 hC.2.1 k_238 rfl, va_Nc.moved hC.2.1.alike (va_Nc.of (flat_of_before _ hC.1.2.2.1 _ nc_UOE_IAE))⟩, (fun z hz => nomatch hz)⟩)⟩) rfl (by decide) (gw hC.1 hC.2.1 k_477 rfl) (va_Nw.use rfl (va_Nw.warmC hC.2.1 (va_Nw.of rfl (hC.1.2.1 _ k_493)))) hq hv hcl ?_
      refine lv_astore (lv' := [(6, .ref q), (0, .ref (α 3 0)), (1, .int p0), (2, .int o0), (3, .int k0), (4, .int s0), (5, .ref o)]) hx hb dL_canSignTogether_32 hl (by decide) rfl (fun ls hl => ?_)
      refine lv_iconst (v := 3) hx hb dL_canSignTogether_34 (by decide) ?_
      exact g_iretW hC hr dL_canSignTogether_35 hS (Nat.le_of_ble_eq_true rfl) (Nat.le_of_ble_eq_true rfl) ⟨by rw [hkc_]; decide, wPost_k (by rw [hkc_]; omega) hRB hO⟩
    · exact absurd (show (none : Option String) = some X from hi_) (by simp)
  · obtain ⟨hk0, hval⟩ := hw
    refine lv_if_eq (tgt := 19) hx hb dL_canSignTogether_12 (by decide) (fun c1_ => ?_) (fun c1_ => ?_)
    · refine lv_lconst (v := 0) hx hb dL_canSignTogether_19 (by decide) ?_
      refine g_last (n := 1) (j := 0) (x := 0) hC hO hS (Or.inr rfl) (by decide) (by decide) dL_canSignTogether_20 (fun H lo hO hz_ ho_ hS => ?_)
      have hRB := hRB.keepO hBo hoE (by omega) ho_
      refine lv_goto (tgt := 36) hx hb dL_canSignTogether_21 (by decide) ?_
      refine lv_iconst (v := 0) hx hb dL_canSignTogether_36 (by decide) ?_
      exact g_iretW hC hr dL_canSignTogether_37 hS (Nat.le_of_ble_eq_true rfl) (Nat.le_of_ble_eq_true rfl) ⟨by rw [hk0]; decide, wPost_0 hk0 hRB rfl rfl hO ⟨_, hval, (if_pos c1_).symm⟩⟩
    · refine lv_lconst (v := 1) hx hb dL_canSignTogether_15 (by decide) ?_
      refine lv_goto (tgt := 20) hx hb dL_canSignTogether_16 (by decide) ?_
      refine g_last (n := 1) (j := 0) (x := 1) hC hO hS (Or.inr rfl) (by decide) (by decide) dL_canSignTogether_20 (fun H lo hO hz_ ho_ hS => ?_)
      have hRB := hRB.keepO hBo hoE (by omega) ho_
      refine lv_goto (tgt := 36) hx hb dL_canSignTogether_21 (by decide) ?_
      refine lv_iconst (v := 0) hx hb dL_canSignTogether_36 (by decide) ?_
      exact g_iretW hC hr dL_canSignTogether_37 hS (Nat.le_of_ble_eq_true rfl) (Nat.le_of_ble_eq_true rfl) ⟨by rw [hk0]; decide, wPost_0 hk0 hRB rfl rfl hO ⟨_, hval, (if_neg c1_).symm⟩⟩
set_option maxHeartbeats 4000000 in
set_option maxRecDepth 100000 in
theorem w_signers {l : Launch} {E : gV} (hE : gOK l E) {α : Nat → Nat → Nat} {ξ : F2} {M : Nat → F2} {N : Nat → Nat} {B : Nat → Prop} (k0 : Int32) (s0 : Int32) {o : Nat} {f0 : Nat → Int64} (hBo : B o) (hoE : E.2.1.heap.size ≤ o) : gMH l E yL_signers cL_signers 5 (some .int) [(0, 10, 13, 21)] ({ frames := 10, cells := 2, slots := 12, locals := 184 } : Room) [.ref (α 3 0), .int k0, .int s0, .ref o] (fun H => RB E B α ξ M N H ∧ gA E o (.inl (E.2.2.2 4, 1, .inr (.inl f0))) H) (gQW (fun q => gAB E B q ∨ q = o) (gWi (fun r H => r = nI (kAsk k0 s0) ∧ wPost E B (α 3 0) o ξ M N (kAsk k0 s0) (ξ) (M 0) (N) (fun z => ∃ r : Int32, (r = nI (fCnt (fun t => fHas (xv ξ (M 0)) (N 0) (M 0 5 0) (nI t) k0 115 s0) (N 3))) ∧ z = r.toInt64) H))) (fun _ => False) (fun q => gAB E B q ∨ q = o) := by
  refine gMH_body hE (by decide +kernel) (Nat.le_of_ble_eq_true rfl) k_647 ?_
  intro p_ e_ s m args below meth c hC ht hr hP ls hl
  have hx := hC.2.2.1
  have hb := hC.2.2.2.1
  have hl : lv_has ls 5 [(0, .ref (α 3 0)), (1, .int k0), (2, .int s0), (3, .ref o)] := hl
  obtain ⟨hRB, hO⟩ := hP
  have hR := hRB.1
  have hS : va_S (fun q => gAB E B q ∨ q = o) s.heap s.heap [] := va_S.rf
  refine lv_aload_n hx hb dL_signers_0 rfl (lv_at hl 3 rfl) ?_
  refine lv_iconst (v := 0) hx hb dL_signers_1 (by decide) ?_
  refine lv_aload_n hx hb dL_signers_2 rfl (lv_at hl 0 rfl) ?_
  refine lv_iload_n hx hb dL_signers_3 rfl (lv_at hl 1 rfl) ?_
  refine lv_iload_n hx hb dL_signers_4 rfl (lv_at hl 2 rfl) ?_
  refine g_cRi (k2 := 2) (n2 := 12) (g_runV (rest := [.int 0, .ref o]) hC (c_X4_signers hE (α := α) (ξ := ξ) (M := M) (N := N) k0 s0) Y_X4_signers k_648 I_X4_signers V_X4_signers hRB.1.sig rfl hR rfl hl.1 dL_signers_5 ⟨Nat.le_of_ble_eq_true rfl, Nat.le_of_ble_eq_true rfl⟩ ⟨Nat.le_of_ble_eq_true rfl, Nat.le_of_ble_eq_true rfl⟩ rfl (Nat.le_of_ble_eq_true rfl)) rfl rfl (fun X ce q H hpx hz_ ho_ hq hv hcl => ?_) (fun r hw => ?_)
  · have hRB := hRB.keep hz_ ho_
    have hO := hO.kept (ho_ o hO.lt)
    have hS : va_S (fun q => gAB E B q ∨ q = o) s.heap H [] := ⟨hz_, fun q h1 _ => ho_ q h1, fun z hz => nomatch hz⟩
    obtain ⟨i_, hi_, hkc_⟩ := hpx
    rcases i_ with _ | i_
    · have hX_ : "java/lang/IllegalArgumentException" = X := Option.some.inj hi_
      subst hX_
      refine vx_catch (own := "SignatoryLaw") (name := "java/lang/IllegalArgumentException") hC.2.2.2.2.2.1 [] ⟨0, 10, 13, 21⟩ [] (by rw [ht]; rfl) (fun z hz => nomatch hz) rfl (by decide) (gw hC.1 hC.2.1 k_238 rfl) (va_Nw.use rfl (va_Nw.warmC hC.2.1 (va_Nw.of rfl (hC.1.2.1 _ k_268)))) hq hv hcl ?_
      refine lv_astore (lv' := [(4, .ref q), (0, .ref (α 3 0)), (1, .int k0), (2, .int s0), (3, .ref o)]) hx hb dL_signers_13 hl (by decide) rfl (fun ls hl => ?_)
      refine lv_iconst (v := 1) hx hb dL_signers_15 (by decide) ?_
      exact g_iretW hC hr dL_signers_16 hS (Nat.le_of_ble_eq_true rfl) (Nat.le_of_ble_eq_true rfl) ⟨by rw [hkc_]; decide, wPost_k (by rw [hkc_]; omega) hRB hO⟩
    · exact absurd (show (none : Option String) = some X from hi_) (by simp)
  · obtain ⟨hk0, hval⟩ := hw
    refine lv_i2l (v := (r).toInt64) hx hb dL_signers_8 rfl ?_
    refine g_last (n := 1) (j := 0) (x := (r).toInt64) hC hO hS (Or.inr rfl) (by decide) (by decide) dL_signers_9 (fun H lo hO hz_ ho_ hS => ?_)
    have hRB := hRB.keepO hBo hoE (by omega) ho_
    refine lv_goto (tgt := 17) hx hb dL_signers_10 (by decide) ?_
    refine lv_iconst (v := 0) hx hb dL_signers_17 (by decide) ?_
    exact g_iretW hC hr dL_signers_18 hS (Nat.le_of_ble_eq_true rfl) (Nat.le_of_ble_eq_true rfl) ⟨by rw [hk0]; decide, wPost_0 hk0 hRB rfl rfl hO ⟨_, hval, rfl⟩⟩
