theorem Z_addPerson : Cond.initialized yL_addPerson.cls ∈ lw_tbl ∧ Cond.codeWith yL_addPerson cL_addPerson 2 (some .int) [(0, 4, 5, 15)] ∈ lw_tbl ∧ (yL_addPerson.cls ≠ "java/lang/invoke/MethodHandle" ∧ yL_addPerson.cls ≠ "java/lang/invoke/VarHandle" ∧ (parseMethodDescriptor yL_addPerson.desc).map (fun d => d.parameters.length) = some 1) ∧ Cond.static yL_addPerson ∈ lw_tbl := ⟨k_0, k_747, by decide +kernel, k_746⟩
set_option maxHeartbeats 4000000 in
set_option maxRecDepth 100000 in
theorem w_addPerson {l : Launch} {E : gV} (hE : gOK l E) {nb oa n : Nat} {μ : F2} {K : Nat → Nat}  : gMH l E yL_addPerson cL_addPerson 2 (some .int) [(0, 4, 5, 15)] ({ frames := 9, cells := 1, slots := 6, locals := 160 } : Room) [.ref oa] (fun H => SI E nb oa μ K n H) (gQW (gAB E (nB nb)) (gWi (fun r H => wP E nb oa μ K n (kAdd (K 0)) (up2 μ 2 (K 0) (-1)) (updN K 0 (K 0 + 1)) (n) (fun r => r = nI (K 0)) r H))) (fun _ => False) (gAB E (nB nb)) := by
  refine gMH_body hE (by decide +kernel) (Nat.le_of_ble_eq_true rfl) k_747 ?_
  intro p_ e_ s m args below meth c hC ht hr hP ls hl
  have hx := hC.2.2.1
  have hb := hC.2.2.2.1
  obtain ⟨α, ξ, M, N, hRB, ha, hK, hn2⟩ := hP
  subst ha
  have hl : lv_has ls 2 [(0, .ref (α 3 0))] := hl
  have hR := hRB.1
  have hS : va_S (gAB E (nB nb)) s.heap s.heap [] := va_S.rf
  refine lv_aload_n hx hb dL_addPerson_0 rfl (lv_at hl 0 rfl) ?_
  refine g_cXi (k2 := 1) (n2 := 6) (g_runV (rest := []) hC (c_X4_addPerson hE (α := α) (ξ := ξ) (M := M) (N := N) (B := nB nb) ) Y_X4_addPerson k_748 I_X4_addPerson V_X4_addPerson hRB.1.sig rfl hRB rfl hl.1 dL_addPerson_1 ⟨Nat.le_of_ble_eq_true rfl, Nat.le_of_ble_eq_true rfl⟩ ⟨Nat.le_of_ble_eq_true rfl, Nat.le_of_ble_eq_true rfl⟩ rfl (Nat.le_of_ble_eq_true rfl)) hS (fun _ h => h) rfl rfl (fun X ce q H lo hpx hz_ ho_ hS hq hv hcl => ?_) (fun r H lo hw hz_ hk_ hS => ?_)
  · have hRB := hRB.keep hz_ ho_
    obtain ⟨i_, hi_, hkc_⟩ := hpx
    rcases i_ with _ | i_
    · have hX_ : "java/lang/IllegalStateException" = X := Option.some.inj hi_
      subst hX_
      refine vx_catch (own := "SignatoryLaw") (name := "java/lang/IllegalStateException") hC.2.2.2.2.2.1 [] ⟨0, 4, 5, 15⟩ [] (by rw [ht]; rfl) (fun z hz => nomatch hz) rfl (by decide) (gw hC.1 hC.2.1 k_249 rfl) (va_Nw.use rfl (va_Nw.warmC hC.2.1 (va_Nw.of rfl (hC.1.2.1 _ k_256)))) hq hv hcl ?_
      refine lv_astore_n (lv' := [(1, .ref q), (0, .ref (α 3 0))]) hx hb dL_addPerson_5 rfl hl (by decide) rfl (fun ls hl => ?_)
      refine lv_ldc (own := "SignatoryLaw") (v := -900001) hx hb hC.2.2.2.2.2.1 (gw hC.1 hC.2.1 k_244 rfl) dL_addPerson_6 ?_
      exact g_iretW hC hr dL_addPerson_8 hS (Nat.le_of_ble_eq_true rfl) (Nat.le_of_ble_eq_true rfl) (Or.inr ⟨0, ((lk_addPerson hK ).1).symm.trans hkc_, rfl, ⟨α, ξ, M, N, hRB, rfl, hK, hn2⟩⟩)
    · exact absurd (show (none : Option String) = some X from hi_) (by simp)
  · obtain ⟨hk0, hval, α1, M1, hRB, hm_, ha_⟩ := hw
    have hc_ : kAdd (K 0) = 0 := ((lk_addPerson hK ).1).symm.trans hk0
    have hve_ := ((lk_addPerson hK ).2 hc_).1
    have hlk_ := ((lk_addPerson hK ).2 hc_).2
    exact g_iretW hC hr dL_addPerson_4 hS (Nat.le_of_ble_eq_true rfl) (Nat.le_of_ble_eq_true rfl) (Or.inl ⟨hc_, hval.trans hve_, ⟨α1, _, M1, _, hRB, ha_, (by rw [hm_]; exact hlk_), hn2⟩⟩)
theorem Z_leave : Cond.initialized yL_leave.cls ∈ lw_tbl ∧ Cond.codeWith yL_leave cL_leave 4 (some .int) [(0, 6, 7, 22), (0, 6, 11, 24)] ∈ lw_tbl ∧ (yL_leave.cls ≠ "java/lang/invoke/MethodHandle" ∧ yL_leave.cls ≠ "java/lang/invoke/VarHandle" ∧ (parseMethodDescriptor yL_leave.desc).map (fun d => d.parameters.length) = some 3) ∧ Cond.static yL_leave ∈ lw_tbl := ⟨k_0, k_29, by decide +kernel, k_28⟩
set_option maxHeartbeats 4000000 in
set_option maxRecDepth 100000 in
theorem w_leave {l : Launch} {E : gV} (hE : gOK l E) {nb oa n : Nat} {μ : F2} {K : Nat → Nat} (p0 : Int32) (s0 : Int32) (hn : n < 512) : gMH l E yL_leave cL_leave 4 (some .int) [(0, 6, 7, 22), (0, 6, 11, 24)] ({ frames := 11, cells := 4, slots := 1030, locals := 278 } : Room) [.ref oa, .int p0, .int s0] (fun H => SI E nb oa μ K n H) (gQW (gAB E (nB nb)) (gWi (fun r H => wP E nb oa μ K n (kLeave (K 0) p0 s0) (up2 (up2 μ 0 (ix p0) 1) 2 (ix p0) s0) (K) (n + 1) (fun r => r = μ 2 (ix p0)) r H))) (fun _ => False) (gAB E (nB nb)) := by
  refine gMH_body hE (by decide +kernel) (Nat.le_of_ble_eq_true rfl) k_29 ?_
  intro p_ e_ s m args below meth c hC ht hr hP ls hl
  have hx := hC.2.2.1
  have hb := hC.2.2.2.1
  obtain ⟨α, ξ, M, N, hRB, ha, hK, hn2⟩ := hP
  subst ha
  have hl : lv_has ls 4 [(0, .ref (α 3 0)), (1, .int p0), (2, .int s0)] := hl
  have hR := hRB.1
  have hS : va_S (gAB E (nB nb)) s.heap s.heap [] := va_S.rf
  refine lv_aload_n hx hb dL_leave_0 rfl (lv_at hl 0 rfl) ?_
  refine lv_iload_n hx hb dL_leave_1 rfl (lv_at hl 1 rfl) ?_
  refine lv_iload_n hx hb dL_leave_2 rfl (lv_at hl 2 rfl) ?_
  refine g_cXi (k2 := 4) (n2 := 1030) (g_runV (rest := []) hC (c_X4_leave hE (α := α) (ξ := ξ) (M := M) (N := N) (B := nB nb) p0 s0 (by omega)) Y_X4_leave k_32 I_X4_leave V_X4_leave hRB.1.sig rfl hRB rfl hl.1 dL_leave_3 ⟨Nat.le_of_ble_eq_true rfl, Nat.le_of_ble_eq_true rfl⟩ ⟨Nat.le_of_ble_eq_true rfl, Nat.le_of_ble_eq_true rfl⟩ rfl (Nat.le_of_ble_eq_true rfl)) hS (fun _ h => h) rfl rfl (fun X ce q H lo hpx hz_ ho_ hS hq hv hcl => ?_) (fun r H lo hw hz_ hk_ hS => ?_)
  · have hRB := hRB.keep hz_ ho_
    obtain ⟨i_, hi_, hkc_⟩ := hpx
    rcases i_ with _ | _ | i_
    · have hX_ : "java/lang/IndexOutOfBoundsException" = X := Option.some.inj hi_
      subst hX_
      refine vx_catch (own := "SignatoryLaw") (name := "java/lang/IndexOutOfBoundsException") hC.2.2.2.2.2.1 [] ⟨0, 6, 7, 22⟩ [⟨0, 6, 11, 24⟩] (by rw [ht]; rfl) (fun z hz => nomatch hz) rfl (by decide) (gw hC.1 hC.2.1 k_30 rfl) (va_Nw.use rfl (va_Nw.warmC hC.2.1 (va_Nw.of rfl (hC.1.2.1 _ k_46)))) hq hv hcl ?_
      refine lv_astore_n (lv' := [(3, .ref q), (0, .ref (α 3 0)), (1, .int p0), (2, .int s0)]) hx hb dL_leave_7 rfl hl (by decide) rfl (fun ls hl => ?_)
      refine lv_ldc (own := "SignatoryLaw") (v := -900001) hx hb hC.2.2.2.2.2.1 (gw hC.1 hC.2.1 k_244 rfl) dL_leave_8 ?_
      exact g_iretW hC hr dL_leave_10 hS (Nat.le_of_ble_eq_true rfl) (Nat.le_of_ble_eq_true rfl) (Or.inr ⟨0, ((lk_leave hK p0 s0).1).symm.trans hkc_, rfl, ⟨α, ξ, M, N, hRB, rfl, hK, hn2⟩⟩)
    · have hX_ : "java/lang/IllegalArgumentException" = X := Option.some.inj hi_
      subst hX_
      refine vx_catch (own := "SignatoryLaw") (name := "java/lang/IllegalArgumentException") hC.2.2.2.2.2.1 [⟨0, 6, 7, 22⟩] ⟨0, 6, 11, 24⟩ [] (by rw [ht]; rfl) (List.forall_mem_cons.mpr ⟨Or.inr ⟨by decide, "java/lang/IndexOutOfBoundsException", gw hC.1 hC.2.1 k_30 rfl, va_Nc.moved hC.2.1.alike (va_Nc.of (flat_of_before _ hC.1.2.2.1 _ nc_IAE_IOO))⟩, (fun z hz => nomatch hz)⟩) rfl (by decide) (gw hC.1 hC.2.1 k_31 rfl) (va_Nw.use rfl (va_Nw.warmC hC.2.1 (va_Nw.of rfl (hC.1.2.1 _ k_118)))) hq hv hcl ?_
      refine lv_astore_n (lv' := [(3, .ref q), (0, .ref (α 3 0)), (1, .int p0), (2, .int s0)]) hx hb dL_leave_11 rfl hl (by decide) rfl (fun ls hl => ?_)
      refine lv_ldc (own := "SignatoryLaw") (v := -900002) hx hb hC.2.2.2.2.2.1 (gw hC.1 hC.2.1 k_245 rfl) dL_leave_12 ?_
      exact g_iretW hC hr dL_leave_14 hS (Nat.le_of_ble_eq_true rfl) (Nat.le_of_ble_eq_true rfl) (Or.inr ⟨1, ((lk_leave hK p0 s0).1).symm.trans hkc_, rfl, ⟨α, ξ, M, N, hRB, rfl, hK, hn2⟩⟩)
    · exact absurd (show (none : Option String) = some X from hi_) (by simp)
  · obtain ⟨hk0, hval, α1, M1, hRB, hm_, ha_⟩ := hw
    have hc_ : kLeave (K 0) p0 s0 = 0 := ((lk_leave hK p0 s0).1).symm.trans hk0
    have hve_ := ((lk_leave hK p0 s0).2 hc_).1
    have hlk_ := ((lk_leave hK p0 s0).2 hc_).2
    exact g_iretW hC hr dL_leave_6 hS (Nat.le_of_ble_eq_true rfl) (Nat.le_of_ble_eq_true rfl) (Or.inl ⟨hc_, hval.trans hve_, ⟨α1, _, M1, _, hRB, ha_, (by rw [hm_]; exact hlk_), (show N 2 + 1 ≤ n + 1 by omega)⟩⟩)
theorem Z_comeBack : Cond.initialized yL_comeBack.cls ∈ lw_tbl ∧ Cond.codeWith yL_comeBack cL_comeBack 3 (some .int) [(0, 5, 6, 22), (0, 5, 10, 15)] ∈ lw_tbl ∧ (yL_comeBack.cls ≠ "java/lang/invoke/MethodHandle" ∧ yL_comeBack.cls ≠ "java/lang/invoke/VarHandle" ∧ (parseMethodDescriptor yL_comeBack.desc).map (fun d => d.parameters.length) = some 2) ∧ Cond.static yL_comeBack ∈ lw_tbl := ⟨k_0, k_248, by decide +kernel, k_247⟩
set_option maxHeartbeats 4000000 in
set_option maxRecDepth 100000 in
theorem w_comeBack {l : Launch} {E : gV} (hE : gOK l E) {nb oa n : Nat} {μ : F2} {K : Nat → Nat} (p0 : Int32) (hn : n < 512) : gMH l E yL_comeBack cL_comeBack 3 (some .int) [(0, 5, 6, 22), (0, 5, 10, 15)] ({ frames := 11, cells := 4, slots := 1030, locals := 277 } : Room) [.ref oa, .int p0] (fun H => SI E nb oa μ K n H) (gQW (gAB E (nB nb)) (gWi (fun r H => wP E nb oa μ K n (kBack (μ 0 (ix p0) = 0) (K 0) p0) (up2 (up2 μ 0 (ix p0) 0) 2 (ix p0) (-1)) (K) (n + 1) (fun r => r = μ 2 (ix p0)) r H))) (fun _ => False) (gAB E (nB nb)) := by
  refine gMH_body hE (by decide +kernel) (Nat.le_of_ble_eq_true rfl) k_248 ?_
  intro p_ e_ s m args below meth c hC ht hr hP ls hl
  have hx := hC.2.2.1
  have hb := hC.2.2.2.1
  obtain ⟨α, ξ, M, N, hRB, ha, hK, hn2⟩ := hP
  subst ha
  have hl : lv_has ls 3 [(0, .ref (α 3 0)), (1, .int p0)] := hl
  have hR := hRB.1
  have hS : va_S (gAB E (nB nb)) s.heap s.heap [] := va_S.rf
  refine lv_aload_n hx hb dL_comeBack_0 rfl (lv_at hl 0 rfl) ?_
  refine lv_iload_n hx hb dL_comeBack_1 rfl (lv_at hl 1 rfl) ?_
  refine g_cXi (k2 := 4) (n2 := 1030) (g_runV (rest := []) hC (c_X4_comeBack hE (α := α) (ξ := ξ) (M := M) (N := N) (B := nB nb) p0 (by omega)) Y_X4_comeBack k_250 I_X4_comeBack V_X4_comeBack hRB.1.sig rfl hRB rfl hl.1 dL_comeBack_2 ⟨Nat.le_of_ble_eq_true rfl, Nat.le_of_ble_eq_true rfl⟩ ⟨Nat.le_of_ble_eq_true rfl, Nat.le_of_ble_eq_true rfl⟩ rfl (Nat.le_of_ble_eq_true rfl)) hS (fun _ h => h) rfl rfl (fun X ce q H lo hpx hz_ ho_ hS hq hv hcl => ?_) (fun r H lo hw hz_ hk_ hS => ?_)
  · have hRB := hRB.keep hz_ ho_
    obtain ⟨i_, hi_, hkc_⟩ := hpx
    rcases i_ with _ | _ | i_
    · have hX_ : "java/lang/IndexOutOfBoundsException" = X := Option.some.inj hi_
      subst hX_
      refine vx_catch (own := "SignatoryLaw") (name := "java/lang/IndexOutOfBoundsException") hC.2.2.2.2.2.1 [] ⟨0, 5, 6, 22⟩ [⟨0, 5, 10, 15⟩] (by rw [ht]; rfl) (fun z hz => nomatch hz) rfl (by decide) (gw hC.1 hC.2.1 k_30 rfl) (va_Nw.use rfl (va_Nw.warmC hC.2.1 (va_Nw.of rfl (hC.1.2.1 _ k_46)))) hq hv hcl ?_
      refine lv_astore_n (lv' := [(2, .ref q), (0, .ref (α 3 0)), (1, .int p0)]) hx hb dL_comeBack_6 rfl hl (by decide) rfl (fun ls hl => ?_)
      refine lv_ldc (own := "SignatoryLaw") (v := -900001) hx hb hC.2.2.2.2.2.1 (gw hC.1 hC.2.1 k_244 rfl) dL_comeBack_7 ?_
      exact g_iretW hC hr dL_comeBack_9 hS (Nat.le_of_ble_eq_true rfl) (Nat.le_of_ble_eq_true rfl) (Or.inr ⟨0, ((lk_comeBack hK p0).1).symm.trans hkc_, rfl, ⟨α, ξ, M, N, hRB, rfl, hK, hn2⟩⟩)
    · have hX_ : "java/lang/IllegalStateException" = X := Option.some.inj hi_
      subst hX_
      refine vx_catch (own := "SignatoryLaw") (name := "java/lang/IllegalStateException") hC.2.2.2.2.2.1 [⟨0, 5, 6, 22⟩] ⟨0, 5, 10, 15⟩ [] (by rw [ht]; rfl) (List.forall_mem_cons.mpr ⟨Or.inr ⟨by decide, "java/lang/IndexOutOfBoundsException", gw hC.1 hC.2.1 k_30 rfl, va_Nc.moved hC.2.1.alike (va_Nc.of (flat_of_before _ hC.1.2.2.1 _ nc_ISE_IOO))⟩, (fun z hz => nomatch hz)⟩) rfl (by decide) (gw hC.1 hC.2.1 k_249 rfl) (va_Nw.use rfl (va_Nw.warmC hC.2.1 (va_Nw.of rfl (hC.1.2.1 _ k_256)))) hq hv hcl ?_
      refine lv_astore_n (lv' := [(2, .ref q), (0, .ref (α 3 0)), (1, .int p0)]) hx hb dL_comeBack_10 rfl hl (by decide) rfl (fun ls hl => ?_)
      refine lv_ldc (own := "SignatoryLaw") (v := -900002) hx hb hC.2.2.2.2.2.1 (gw hC.1 hC.2.1 k_245 rfl) dL_comeBack_11 ?_
      exact g_iretW hC hr dL_comeBack_13 hS (Nat.le_of_ble_eq_true rfl) (Nat.le_of_ble_eq_true rfl) (Or.inr ⟨1, ((lk_comeBack hK p0).1).symm.trans hkc_, rfl, ⟨α, ξ, M, N, hRB, rfl, hK, hn2⟩⟩)
    · exact absurd (show (none : Option String) = some X from hi_) (by simp)
  · obtain ⟨hk0, hval, α1, M1, hRB, hm_, ha_⟩ := hw
    have hc_ : kBack (μ 0 (ix p0) = 0) (K 0) p0 = 0 := ((lk_comeBack hK p0).1).symm.trans hk0
    have hve_ := ((lk_comeBack hK p0).2 hc_).1
    have hlk_ := ((lk_comeBack hK p0).2 hc_).2
    exact g_iretW hC hr dL_comeBack_5 hS (Nat.le_of_ble_eq_true rfl) (Nat.le_of_ble_eq_true rfl) (Or.inl ⟨hc_, hval.trans hve_, ⟨α1, _, M1, _, hRB, ha_, (by rw [hm_]; exact hlk_), (show N 2 + 1 ≤ n + 1 by omega)⟩⟩)
theorem Z_grant : Cond.initialized yL_grant.cls ∈ lw_tbl ∧ Cond.codeWith yL_grant cL_grant 8 (some .int) [(0, 13, 14, 22), (0, 13, 19, 24), (0, 13, 24, 15)] ∈ lw_tbl ∧ (yL_grant.cls ≠ "java/lang/invoke/MethodHandle" ∧ yL_grant.cls ≠ "java/lang/invoke/VarHandle" ∧ (parseMethodDescriptor yL_grant.desc).map (fun d => d.parameters.length) = some 7) ∧ Cond.static yL_grant ∈ lw_tbl := ⟨k_0, k_763, by decide +kernel, k_762⟩
set_option maxHeartbeats 4000000 in
set_option maxRecDepth 100000 in
theorem w_grant {l : Launch} {E : gV} (hE : gOK l E) {nb oa n : Nat} {μ : F2} {K : Nat → Nat} (h0 : Int32) (k0 : Int32) (ha : Int32) (li : Int32) (fi : Int32) (la : Int32) (hn : n < 512) : gMH l E yL_grant cL_grant 8 (some .int) [(0, 13, 14, 22), (0, 13, 19, 24), (0, 13, 24, 15)] ({ frames := 12, cells := 8, slots := 2050, locals := 303 } : Room) [.ref oa, .int h0, .int k0, .int ha, .int li, .int fi, .int la] (fun H => SI E nb oa μ K n H) (gQW (gAB E (nB nb)) (gWi (fun r H => wP E nb oa μ K n (kGrant (K 0) (K 1) h0 k0 ha li fi la) (mAdds μ (K 1) h0 k0 ha li fi la (-1)) (updN K 1 (K 1 + 1)) (n + 1) (fun r => r = nI (K 1)) r H))) (fun _ => False) (gAB E (nB nb)) := by
  refine gMH_body hE (by decide +kernel) (Nat.le_of_ble_eq_true rfl) k_763 ?_
  intro p_ e_ s m args below meth c hC ht hr hP ls hl
  have hx := hC.2.2.1
  have hb := hC.2.2.2.1
  obtain ⟨α, ξ, M, N, hRB, ha, hK, hn2⟩ := hP
  subst ha
  have hl : lv_has ls 8 [(0, .ref (α 3 0)), (1, .int h0), (2, .int k0), (3, .int ha), (4, .int li), (5, .int fi), (6, .int la)] := hl
  have hR := hRB.1
  have hS : va_S (gAB E (nB nb)) s.heap s.heap [] := va_S.rf
  refine lv_aload_n hx hb dL_grant_0 rfl (lv_at hl 0 rfl) ?_
  refine lv_iload_n hx hb dL_grant_1 rfl (lv_at hl 1 rfl) ?_
  refine lv_iload_n hx hb dL_grant_2 rfl (lv_at hl 2 rfl) ?_
  refine lv_iload_n hx hb dL_grant_3 rfl (lv_at hl 3 rfl) ?_
  refine lv_iload hx hb dL_grant_4 (lv_at hl 4 rfl) ?_
  refine lv_iload hx hb dL_grant_6 (lv_at hl 5 rfl) ?_
  refine lv_iload hx hb dL_grant_8 (lv_at hl 6 rfl) ?_
  refine g_cXi (k2 := 8) (n2 := 2050) (g_runV (rest := []) hC (c_X4_grant hE (α := α) (ξ := ξ) (M := M) (N := N) (B := nB nb) h0 k0 ha li fi la (by omega)) Y_X4_grant k_764 I_X4_grant V_X4_grant hRB.1.sig rfl hRB rfl hl.1 dL_grant_10 ⟨Nat.le_of_ble_eq_true rfl, Nat.le_of_ble_eq_true rfl⟩ ⟨Nat.le_of_ble_eq_true rfl, Nat.le_of_ble_eq_true rfl⟩ rfl (Nat.le_of_ble_eq_true rfl)) hS (fun _ h => h) rfl rfl (fun X ce q H lo hpx hz_ ho_ hS hq hv hcl => ?_) (fun r H lo hw hz_ hk_ hS => ?_)
  · have hRB := hRB.keep hz_ ho_
    obtain ⟨i_, hi_, hkc_⟩ := hpx
    rcases i_ with _ | _ | _ | i_
    · have hX_ : "java/lang/IndexOutOfBoundsException" = X := Option.some.inj hi_
      subst hX_
      refine vx_catch (own := "SignatoryLaw") (name := "java/lang/IndexOutOfBoundsException") hC.2.2.2.2.2.1 [] ⟨0, 13, 14, 22⟩ [⟨0, 13, 19, 24⟩, ⟨0, 13, 24, 15⟩] (by rw [ht]; rfl) (fun z hz => nomatch hz) rfl (by decide) (gw hC.1 hC.2.1 k_30 rfl) (va_Nw.use rfl (va_Nw.warmC hC.2.1 (va_Nw.of rfl (hC.1.2.1 _ k_46)))) hq hv hcl ?_
      refine lv_astore (lv' := [(7, .ref q), (0, .ref (α 3 0)), (1, .int h0), (2, .int k0), (3, .int ha), (4, .int li), (5, .int fi), (6, .int la)]) hx hb dL_grant_14 hl (by decide) rfl (fun ls hl => ?_)
      refine lv_ldc (own := "SignatoryLaw") (v := -900001) hx hb hC.2.2.2.2.2.1 (gw hC.1 hC.2.1 k_244 rfl) dL_grant_16 ?_
      exact g_iretW hC hr dL_grant_18 hS (Nat.le_of_ble_eq_true rfl) (Nat.le_of_ble_eq_true rfl) (Or.inr ⟨0, ((lk_grant hK h0 k0 ha li fi la).1).symm.trans hkc_, rfl, ⟨α, ξ, M, N, hRB, rfl, hK, hn2⟩⟩)
    · have hX_ : "java/lang/IllegalArgumentException" = X := Option.some.inj hi_
      subst hX_
      refine vx_catch (own := "SignatoryLaw") (name := "java/lang/IllegalArgumentException") hC.2.2.2.2.2.1 [⟨0, 13, 14, 22⟩] ⟨0, 13, 19, 24⟩ [⟨0, 13, 24, 15⟩] (by rw [ht]; rfl) (List.forall_mem_cons.mpr ⟨Or.inr ⟨by decide, "java/lang/IndexOutOfBoundsException", gw hC.1 hC.2.1 k_30 rfl, va_Nc.moved hC.2.1.alike (va_Nc.of (flat_of_before _ hC.1.2.2.1 _ nc_IAE_IOO))⟩, (fun z hz => nomatch hz)⟩) rfl (by decide) (gw hC.1 hC.2.1 k_31 rfl) (va_Nw.use rfl (va_Nw.warmC hC.2.1 (va_Nw.of rfl (hC.1.2.1 _ k_118)))) hq hv hcl ?_
      refine lv_astore (lv' := [(7, .ref q), (0, .ref (α 3 0)), (1, .int h0), (2, .int k0), (3, .int ha), (4, .int li), (5, .int fi), (6, .int la)]) hx hb dL_grant_19 hl (by decide) rfl (fun ls hl => ?_)
      refine lv_ldc (own := "SignatoryLaw") (v := -900002) hx hb hC.2.2.2.2.2.1 (gw hC.1 hC.2.1 k_245 rfl) dL_grant_21 ?_
      exact g_iretW hC hr dL_grant_23 hS (Nat.le_of_ble_eq_true rfl) (Nat.le_of_ble_eq_true rfl) (Or.inr ⟨1, ((lk_grant hK h0 k0 ha li fi la).1).symm.trans hkc_, rfl, ⟨α, ξ, M, N, hRB, rfl, hK, hn2⟩⟩)
    · have hX_ : "java/lang/IllegalStateException" = X := Option.some.inj hi_
      subst hX_
      refine vx_catch (own := "SignatoryLaw") (name := "java/lang/IllegalStateException") hC.2.2.2.2.2.1 [⟨0, 13, 14, 22⟩, ⟨0, 13, 19, 24⟩] ⟨0, 13, 24, 15⟩ [] (by rw [ht]; rfl) (List.forall_mem_cons.mpr ⟨Or.inr ⟨by decide, "java/lang/IndexOutOfBoundsException", gw hC.1 hC.2.1 k_30 rfl, va_Nc.moved hC.2.1.alike (va_Nc.of (flat_of_before _ hC.1.2.2.1 _ nc_ISE_IOO))⟩, (List.forall_mem_cons.mpr ⟨Or.inr ⟨by decide, "java/lang/IllegalArgumentException", gw hC.1 hC.2.1 k_31 rfl, va_Nc.moved hC.2.1.alike (va_Nc.of (flat_of_before _ hC.1.2.2.1 _ nc_ISE_IAE))⟩, (fun z hz => nomatch hz)⟩)⟩) rfl (by decide) (gw hC.1 hC.2.1 k_249 rfl) (va_Nw.use rfl (va_Nw.warmC hC.2.1 (va_Nw.of rfl (hC.1.2.1 _ k_256)))) hq hv hcl ?_
      refine lv_astore (lv' := [(7, .ref q), (0, .ref (α 3 0)), (1, .int h0), (2, .int k0), (3, .int ha), (4, .int li), (5, .int fi), (6, .int la)]) hx hb dL_grant_24 hl (by decide) rfl (fun ls hl => ?_)
      refine lv_ldc (own := "SignatoryLaw") (v := -900003) hx hb hC.2.2.2.2.2.1 (gw hC.1 hC.2.1 k_525 rfl) dL_grant_26 ?_
      exact g_iretW hC hr dL_grant_28 hS (Nat.le_of_ble_eq_true rfl) (Nat.le_of_ble_eq_true rfl) (Or.inr ⟨2, ((lk_grant hK h0 k0 ha li fi la).1).symm.trans hkc_, rfl, ⟨α, ξ, M, N, hRB, rfl, hK, hn2⟩⟩)
    · exact absurd (show (none : Option String) = some X from hi_) (by simp)
  · obtain ⟨hk0, hval, α1, M1, hRB, hm_, ha_⟩ := hw
    have hc_ : kGrant (K 0) (K 1) h0 k0 ha li fi la = 0 := ((lk_grant hK h0 k0 ha li fi la).1).symm.trans hk0
    have hve_ := ((lk_grant hK h0 k0 ha li fi la).2 hc_).1
    have hlk_ := ((lk_grant hK h0 k0 ha li fi la).2 hc_).2
    exact g_iretW hC hr dL_grant_13 hS (Nat.le_of_ble_eq_true rfl) (Nat.le_of_ble_eq_true rfl) (Or.inl ⟨hc_, hval.trans hve_, ⟨α1, _, M1, _, hRB, ha_, (by rw [hm_]; exact hlk_), (show N 2 + 1 ≤ n + 1 by omega)⟩⟩)
theorem Z_delegate : Cond.initialized yL_delegate.cls ∈ lw_tbl ∧ Cond.codeWith yL_delegate cL_delegate 7 (some .int) [(0, 11, 12, 22), (0, 11, 17, 24), (0, 11, 22, 40), (0, 11, 27, 15)] ∈ lw_tbl ∧ (yL_delegate.cls ≠ "java/lang/invoke/MethodHandle" ∧ yL_delegate.cls ≠ "java/lang/invoke/VarHandle" ∧ (parseMethodDescriptor yL_delegate.desc).map (fun d => d.parameters.length) = some 6) ∧ Cond.static yL_delegate ∈ lw_tbl := ⟨k_0, k_829, by decide +kernel, k_828⟩
set_option maxHeartbeats 4000000 in
set_option maxRecDepth 100000 in
theorem w_delegate {l : Launch} {E : gV} (hE : gOK l E) {nb oa n : Nat} {μ : F2} {K : Nat → Nat} (p0 : Int32) (h0 : Int32) (li : Int32) (fi : Int32) (la : Int32) (hn : n < 512) : gMH l E yL_delegate cL_delegate 7 (some .int) [(0, 11, 12, 22), (0, 11, 17, 24), (0, 11, 22, 40), (0, 11, 27, 15)] ({ frames := 12, cells := 8, slots := 2050, locals := 303 } : Room) [.ref oa, .int p0, .int h0, .int li, .int fi, .int la] (fun H => SI E nb oa μ K n H) (gQW (gAB E (nB nb)) (gWi (fun r H => wP E nb oa μ K n (kDel (mv μ) (K 0) (K 1) p0 h0 li fi la) (mAdds μ (K 1) h0 (μ 4 (ix p0)) (μ 9 (ix p0)) li fi la p0) (updN K 1 (K 1 + 1)) (n + 1) (fun r => r = nI (K 1)) r H))) (fun _ => False) (gAB E (nB nb)) := by
  refine gMH_body hE (by decide +kernel) (Nat.le_of_ble_eq_true rfl) k_829 ?_
  intro p_ e_ s m args below meth c hC ht hr hP ls hl
  have hx := hC.2.2.1
  have hb := hC.2.2.2.1
  obtain ⟨α, ξ, M, N, hRB, ha, hK, hn2⟩ := hP
  subst ha
  have hl : lv_has ls 7 [(0, .ref (α 3 0)), (1, .int p0), (2, .int h0), (3, .int li), (4, .int fi), (5, .int la)] := hl
  have hR := hRB.1
  have hS : va_S (gAB E (nB nb)) s.heap s.heap [] := va_S.rf
  refine lv_aload_n hx hb dL_delegate_0 rfl (lv_at hl 0 rfl) ?_
  refine lv_iload_n hx hb dL_delegate_1 rfl (lv_at hl 1 rfl) ?_
  refine lv_iload_n hx hb dL_delegate_2 rfl (lv_at hl 2 rfl) ?_
  refine lv_iload_n hx hb dL_delegate_3 rfl (lv_at hl 3 rfl) ?_
  refine lv_iload hx hb dL_delegate_4 (lv_at hl 4 rfl) ?_
  refine lv_iload hx hb dL_delegate_6 (lv_at hl 5 rfl) ?_
  refine g_cXi (k2 := 8) (n2 := 2050) (g_runV (rest := []) hC (c_X4_delegate hE (α := α) (ξ := ξ) (M := M) (N := N) (B := nB nb) p0 h0 li fi la (by omega)) Y_X4_delegate k_830 I_X4_delegate V_X4_delegate hRB.1.sig rfl hRB rfl hl.1 dL_delegate_8 ⟨Nat.le_of_ble_eq_true rfl, Nat.le_of_ble_eq_true rfl⟩ ⟨Nat.le_of_ble_eq_true rfl, Nat.le_of_ble_eq_true rfl⟩ rfl (Nat.le_of_ble_eq_true rfl)) hS (fun _ h => h) rfl rfl (fun X ce q H lo hpx hz_ ho_ hS hq hv hcl => ?_) (fun r H lo hw hz_ hk_ hS => ?_)
  · have hRB := hRB.keep hz_ ho_
    obtain ⟨i_, hi_, hkc_⟩ := hpx
    rcases i_ with _ | _ | _ | _ | i_
    · have hX_ : "java/lang/IndexOutOfBoundsException" = X := Option.some.inj hi_
      subst hX_
      refine vx_catch (own := "SignatoryLaw") (name := "java/lang/IndexOutOfBoundsException") hC.2.2.2.2.2.1 [] ⟨0, 11, 12, 22⟩ [⟨0, 11, 17, 24⟩, ⟨0, 11, 22, 40⟩, ⟨0, 11, 27, 15⟩] (by rw [ht]; rfl) (fun z hz => nomatch hz) rfl (by decide) (gw hC.1 hC.2.1 k_30 rfl) (va_Nw.use rfl (va_Nw.warmC hC.2.1 (va_Nw.of rfl (hC.1.2.1 _ k_46)))) hq hv hcl ?_
      refine lv_astore (lv' := [(6, .ref q), (0, .ref (α 3 0)), (1, .int p0), (2, .int h0), (3, .int li), (4, .int fi), (5, .int la)]) hx hb dL_delegate_12 hl (by decide) rfl (fun ls hl => ?_)
      refine lv_ldc (own := "SignatoryLaw") (v := -900001) hx hb hC.2.2.2.2.2.1 (gw hC.1 hC.2.1 k_244 rfl) dL_delegate_14 ?_
      exact g_iretW hC hr dL_delegate_16 hS (Nat.le_of_ble_eq_true rfl) (Nat.le_of_ble_eq_true rfl) (Or.inr ⟨0, ((lk_delegate hK p0 h0 li fi la).1).symm.trans hkc_, rfl, ⟨α, ξ, M, N, hRB, rfl, hK, hn2⟩⟩)
    · have hX_ : "java/lang/IllegalArgumentException" = X := Option.some.inj hi_
      subst hX_
      refine vx_catch (own := "SignatoryLaw") (name := "java/lang/IllegalArgumentException") hC.2.2.2.2.2.1 [⟨0, 11, 12, 22⟩] ⟨0, 11, 17, 24⟩ [⟨0, 11, 22, 40⟩, ⟨0, 11, 27, 15⟩] (by rw [ht]; rfl) (List.forall_mem_cons.mpr ⟨Or.inr ⟨by decide, "java/lang/IndexOutOfBoundsException", gw hC.1 hC.2.1 k_30 rfl, va_Nc.moved hC.2.1.alike (va_Nc.of (flat_of_before _ hC.1.2.2.1 _ nc_IAE_IOO))⟩, (fun z hz => nomatch hz)⟩) rfl (by decide) (gw hC.1 hC.2.1 k_31 rfl) (va_Nw.use rfl (va_Nw.warmC hC.2.1 (va_Nw.of rfl (hC.1.2.1 _ k_118)))) hq hv hcl ?_
      refine lv_astore (lv' := [(6, .ref q), (0, .ref (α 3 0)), (1, .int p0), (2, .int h0), (3, .int li), (4, .int fi), (5, .int la)]) hx hb dL_delegate_17 hl (by decide) rfl (fun ls hl => ?_)
      refine lv_ldc (own := "SignatoryLaw") (v := -900002) hx hb hC.2.2.2.2.2.1 (gw hC.1 hC.2.1 k_245 rfl) dL_delegate_19 ?_
      exact g_iretW hC hr dL_delegate_21 hS (Nat.le_of_ble_eq_true rfl) (Nat.le_of_ble_eq_true rfl) (Or.inr ⟨1, ((lk_delegate hK p0 h0 li fi la).1).symm.trans hkc_, rfl, ⟨α, ξ, M, N, hRB, rfl, hK, hn2⟩⟩)
    · have hX_ : "java/lang/UnsupportedOperationException" = X := Option.some.inj hi_
      subst hX_
      refine vx_catch (own := "SignatoryLaw") (name := "java/lang/UnsupportedOperationException") hC.2.2.2.2.2.1 [⟨0, 11, 12, 22⟩, ⟨0, 11, 17, 24⟩] ⟨0, 11, 22, 40⟩ [⟨0, 11, 27, 15⟩] (by rw [ht]; rfl) (List.forall_mem_cons.mpr ⟨Or.inr ⟨by decide, "java/lang/IndexOutOfBoundsException", gw hC.1 hC.2.1 k_30 rfl, va_Nc.moved hC.2.1.alike (va_Nc.of (flat_of_before _ hC.1.2.2.1 _ nc_UOE_IOO))⟩, (List.forall_mem_cons.mpr ⟨Or.inr ⟨by decide, "java/lang/IllegalArgumentException", gw hC.1 hC.2.1 k_31 rfl, va_Nc.moved hC.2.1.alike (va_Nc.of (flat_of_before _ hC.1.2.2.1 _ nc_UOE_IAE))⟩, (fun z hz => nomatch hz)⟩)⟩) rfl (by decide) (gw hC.1 hC.2.1 k_529 rfl) (va_Nw.use rfl (va_Nw.warmC hC.2.1 (va_Nw.of rfl (hC.1.2.1 _ k_539)))) hq hv hcl ?_
      refine lv_astore (lv' := [(6, .ref q), (0, .ref (α 3 0)), (1, .int p0), (2, .int h0), (3, .int li), (4, .int fi), (5, .int la)]) hx hb dL_delegate_22 hl (by decide) rfl (fun ls hl => ?_)
      refine lv_ldc (own := "SignatoryLaw") (v := -900003) hx hb hC.2.2.2.2.2.1 (gw hC.1 hC.2.1 k_525 rfl) dL_delegate_24 ?_
      exact g_iretW hC hr dL_delegate_26 hS (Nat.le_of_ble_eq_true rfl) (Nat.le_of_ble_eq_true rfl) (Or.inr ⟨2, ((lk_delegate hK p0 h0 li fi la).1).symm.trans hkc_, rfl, ⟨α, ξ, M, N, hRB, rfl, hK, hn2⟩⟩)
    · have hX_ : "java/lang/IllegalStateException" = X := Option.some.inj hi_
      subst hX_
      refine vx_catch (own := "SignatoryLaw") (name := "java/lang/IllegalStateException") hC.2.2.2.2.2.1 [⟨0, 11, 12, 22⟩, ⟨0, 11, 17, 24⟩, ⟨0, 11, 22, 40⟩] ⟨0, 11, 27, 15⟩ [] (by rw [ht]; rfl) (List.forall_mem_cons.mpr ⟨Or.inr ⟨by decide, "java/lang/IndexOutOfBoundsException", gw hC.1 hC.2.1 k_30 rfl, va_Nc.moved hC.2.1.alike (va_Nc.of (flat_of_before _ hC.1.2.2.1 _ nc_ISE_IOO))⟩, (List.forall_mem_cons.mpr ⟨Or.inr ⟨by decide, "java/lang/IllegalArgumentException", gw hC.1 hC.2.1 k_31 rfl, va_Nc.moved hC.2.1.alike (va_Nc.of (flat_of_before _ hC.1.2.2.1 _ nc_ISE_IAE))⟩, (List.forall_mem_cons.mpr ⟨Or.inr ⟨by decide, "java/lang/UnsupportedOperationException", gw hC.1 hC.2.1 k_529 rfl, va_Nc.moved hC.2.1.alike (va_Nc.of (flat_of_before _ hC.1.2.2.1 _ nc_ISE_UOE))⟩, (fun z hz => nomatch hz)⟩)⟩)⟩) rfl (by decide) (gw hC.1 hC.2.1 k_249 rfl) (va_Nw.use rfl (va_Nw.warmC hC.2.1 (va_Nw.of rfl (hC.1.2.1 _ k_256)))) hq hv hcl ?_
      refine lv_astore (lv' := [(6, .ref q), (0, .ref (α 3 0)), (1, .int p0), (2, .int h0), (3, .int li), (4, .int fi), (5, .int la)]) hx hb dL_delegate_27 hl (by decide) rfl (fun ls hl => ?_)
      refine lv_ldc (own := "SignatoryLaw") (v := -900004) hx hb hC.2.2.2.2.2.1 (gw hC.1 hC.2.1 k_553 rfl) dL_delegate_29 ?_
      exact g_iretW hC hr dL_delegate_31 hS (Nat.le_of_ble_eq_true rfl) (Nat.le_of_ble_eq_true rfl) (Or.inr ⟨3, ((lk_delegate hK p0 h0 li fi la).1).symm.trans hkc_, rfl, ⟨α, ξ, M, N, hRB, rfl, hK, hn2⟩⟩)
    · exact absurd (show (none : Option String) = some X from hi_) (by simp)
  · obtain ⟨hk0, hval, α1, M1, hRB, hm_, ha_⟩ := hw
    have hc_ : kDel (mv μ) (K 0) (K 1) p0 h0 li fi la = 0 := ((lk_delegate hK p0 h0 li fi la).1).symm.trans hk0
    have hve_ := ((lk_delegate hK p0 h0 li fi la).2 hc_).1
    have hlk_ := ((lk_delegate hK p0 h0 li fi la).2 hc_).2
    exact g_iretW hC hr dL_delegate_11 hS (Nat.le_of_ble_eq_true rfl) (Nat.le_of_ble_eq_true rfl) (Or.inl ⟨hc_, hval.trans hve_, ⟨α1, _, M1, _, hRB, ha_, (by rw [hm_]; exact hlk_), (show N 2 + 1 ≤ n + 1 by omega)⟩⟩)
theorem Z_lower : Cond.initialized yL_lower.cls ∈ lw_tbl ∧ Cond.codeWith yL_lower cL_lower 4 (some .int) [(0, 6, 7, 22), (0, 6, 11, 24)] ∈ lw_tbl ∧ (yL_lower.cls ≠ "java/lang/invoke/MethodHandle" ∧ yL_lower.cls ≠ "java/lang/invoke/VarHandle" ∧ (parseMethodDescriptor yL_lower.desc).map (fun d => d.parameters.length) = some 3) ∧ Cond.static yL_lower ∈ lw_tbl := ⟨k_0, k_884, by decide +kernel, k_883⟩
set_option maxHeartbeats 4000000 in
set_option maxRecDepth 100000 in
theorem w_lower {l : Launch} {E : gV} (hE : gOK l E) {nb oa n : Nat} {μ : F2} {K : Nat → Nat} (p0 : Int32) (li : Int32) (hn : n < 512) : gMH l E yL_lower cL_lower 4 (some .int) [(0, 6, 7, 22), (0, 6, 11, 24)] ({ frames := 11, cells := 4, slots := 1030, locals := 279 } : Room) [.ref oa, .int p0, .int li] (fun H => SI E nb oa μ K n H) (gQW (gAB E (nB nb)) (gWi (fun r H => wP E nb oa μ K n (kLower (mv μ) (K 1) p0 li) (up2 μ 5 (ix p0) li) (K) (n + 1) (fun r => r = μ 5 (ix p0)) r H))) (fun _ => False) (gAB E (nB nb)) := by
  refine gMH_body hE (by decide +kernel) (Nat.le_of_ble_eq_true rfl) k_884 ?_
  intro p_ e_ s m args below meth c hC ht hr hP ls hl
  have hx := hC.2.2.1
  have hb := hC.2.2.2.1
  obtain ⟨α, ξ, M, N, hRB, ha, hK, hn2⟩ := hP
  subst ha
  have hl : lv_has ls 4 [(0, .ref (α 3 0)), (1, .int p0), (2, .int li)] := hl
  have hR := hRB.1
  have hS : va_S (gAB E (nB nb)) s.heap s.heap [] := va_S.rf
  refine lv_aload_n hx hb dL_lower_0 rfl (lv_at hl 0 rfl) ?_
  refine lv_iload_n hx hb dL_lower_1 rfl (lv_at hl 1 rfl) ?_
  refine lv_iload_n hx hb dL_lower_2 rfl (lv_at hl 2 rfl) ?_
  refine g_cXi (k2 := 4) (n2 := 1030) (g_runV (rest := []) hC (c_X4_lower hE (α := α) (ξ := ξ) (M := M) (N := N) (B := nB nb) p0 li (by omega)) Y_X4_lower k_885 I_X4_lower V_X4_lower hRB.1.sig rfl hRB rfl hl.1 dL_lower_3 ⟨Nat.le_of_ble_eq_true rfl, Nat.le_of_ble_eq_true rfl⟩ ⟨Nat.le_of_ble_eq_true rfl, Nat.le_of_ble_eq_true rfl⟩ rfl (Nat.le_of_ble_eq_true rfl)) hS (fun _ h => h) rfl rfl (fun X ce q H lo hpx hz_ ho_ hS hq hv hcl => ?_) (fun r H lo hw hz_ hk_ hS => ?_)
  · have hRB := hRB.keep hz_ ho_
    obtain ⟨i_, hi_, hkc_⟩ := hpx
    rcases i_ with _ | _ | i_
    · have hX_ : "java/lang/IndexOutOfBoundsException" = X := Option.some.inj hi_
      subst hX_
      refine vx_catch (own := "SignatoryLaw") (name := "java/lang/IndexOutOfBoundsException") hC.2.2.2.2.2.1 [] ⟨0, 6, 7, 22⟩ [⟨0, 6, 11, 24⟩] (by rw [ht]; rfl) (fun z hz => nomatch hz) rfl (by decide) (gw hC.1 hC.2.1 k_30 rfl) (va_Nw.use rfl (va_Nw.warmC hC.2.1 (va_Nw.of rfl (hC.1.2.1 _ k_46)))) hq hv hcl ?_
      refine lv_astore_n (lv' := [(3, .ref q), (0, .ref (α 3 0)), (1, .int p0), (2, .int li)]) hx hb dL_lower_7 rfl hl (by decide) rfl (fun ls hl => ?_)
      refine lv_ldc (own := "SignatoryLaw") (v := -900001) hx hb hC.2.2.2.2.2.1 (gw hC.1 hC.2.1 k_244 rfl) dL_lower_8 ?_
      exact g_iretW hC hr dL_lower_10 hS (Nat.le_of_ble_eq_true rfl) (Nat.le_of_ble_eq_true rfl) (Or.inr ⟨0, ((lk_lower hK p0 li).1).symm.trans hkc_, rfl, ⟨α, ξ, M, N, hRB, rfl, hK, hn2⟩⟩)
    · have hX_ : "java/lang/IllegalArgumentException" = X := Option.some.inj hi_
      subst hX_
      refine vx_catch (own := "SignatoryLaw") (name := "java/lang/IllegalArgumentException") hC.2.2.2.2.2.1 [⟨0, 6, 7, 22⟩] ⟨0, 6, 11, 24⟩ [] (by rw [ht]; rfl) (List.forall_mem_cons.mpr ⟨Or.inr ⟨by decide, "java/lang/IndexOutOfBoundsException", gw hC.1 hC.2.1 k_30 rfl, va_Nc.moved hC.2.1.alike (va_Nc.of (flat_of_before _ hC.1.2.2.1 _ nc_IAE_IOO))⟩, (fun z hz => nomatch hz)⟩) rfl (by decide) (gw hC.1 hC.2.1 k_31 rfl) (va_Nw.use rfl (va_Nw.warmC hC.2.1 (va_Nw.of rfl (hC.1.2.1 _ k_118)))) hq hv hcl ?_
      refine lv_astore_n (lv' := [(3, .ref q), (0, .ref (α 3 0)), (1, .int p0), (2, .int li)]) hx hb dL_lower_11 rfl hl (by decide) rfl (fun ls hl => ?_)
      refine lv_ldc (own := "SignatoryLaw") (v := -900002) hx hb hC.2.2.2.2.2.1 (gw hC.1 hC.2.1 k_245 rfl) dL_lower_12 ?_
      exact g_iretW hC hr dL_lower_14 hS (Nat.le_of_ble_eq_true rfl) (Nat.le_of_ble_eq_true rfl) (Or.inr ⟨1, ((lk_lower hK p0 li).1).symm.trans hkc_, rfl, ⟨α, ξ, M, N, hRB, rfl, hK, hn2⟩⟩)
    · exact absurd (show (none : Option String) = some X from hi_) (by simp)
  · obtain ⟨hk0, hval, α1, M1, hRB, hm_, ha_⟩ := hw
    have hc_ : kLower (mv μ) (K 1) p0 li = 0 := ((lk_lower hK p0 li).1).symm.trans hk0
    have hve_ := ((lk_lower hK p0 li).2 hc_).1
    have hlk_ := ((lk_lower hK p0 li).2 hc_).2
    exact g_iretW hC hr dL_lower_6 hS (Nat.le_of_ble_eq_true rfl) (Nat.le_of_ble_eq_true rfl) (Or.inl ⟨hc_, hval.trans hve_, ⟨α1, _, M1, _, hRB, ha_, (by rw [hm_]; exact hlk_), (show N 2 + 1 ≤ n + 1 by omega)⟩⟩)
theorem Z_revoke : Cond.initialized yL_revoke.cls ∈ lw_tbl ∧ Cond.codeWith yL_revoke cL_revoke 3 (some .int) [(0, 5, 6, 22), (0, 5, 10, 15)] ∈ lw_tbl ∧ (yL_revoke.cls ≠ "java/lang/invoke/MethodHandle" ∧ yL_revoke.cls ≠ "java/lang/invoke/VarHandle" ∧ (parseMethodDescriptor yL_revoke.desc).map (fun d => d.parameters.length) = some 2) ∧ Cond.static yL_revoke ∈ lw_tbl := ⟨k_0, k_866, by decide +kernel, k_865⟩
set_option maxHeartbeats 4000000 in
set_option maxRecDepth 100000 in
theorem w_revoke {l : Launch} {E : gV} (hE : gOK l E) {nb oa n : Nat} {μ : F2} {K : Nat → Nat} (p0 : Int32) (hn : n < 512) : gMH l E yL_revoke cL_revoke 3 (some .int) [(0, 5, 6, 22), (0, 5, 10, 15)] ({ frames := 11, cells := 4, slots := 1030, locals := 277 } : Room) [.ref oa, .int p0] (fun H => SI E nb oa μ K n H) (gQW (gAB E (nB nb)) (gWi (fun r H => wP E nb oa μ K n (kRevoke (mv μ) (K 1) p0) (up2 μ 1 (ix p0) 1) (K) (n + 1) (fun r => r = nI (fCnt (fun t => fCome (mv μ) t (ix p0)) (K 1))) r H))) (fun _ => False) (gAB E (nB nb)) := by
  refine gMH_body hE (by decide +kernel) (Nat.le_of_ble_eq_true rfl) k_866 ?_
  intro p_ e_ s m args below meth c hC ht hr hP ls hl
  have hx := hC.2.2.1
  have hb := hC.2.2.2.1
  obtain ⟨α, ξ, M, N, hRB, ha, hK, hn2⟩ := hP
  subst ha
  have hl : lv_has ls 3 [(0, .ref (α 3 0)), (1, .int p0)] := hl
  have hR := hRB.1
  have hS : va_S (gAB E (nB nb)) s.heap s.heap [] := va_S.rf
  refine lv_aload_n hx hb dL_revoke_0 rfl (lv_at hl 0 rfl) ?_
  refine lv_iload_n hx hb dL_revoke_1 rfl (lv_at hl 1 rfl) ?_
  refine g_cXi (k2 := 4) (n2 := 1030) (g_runV (rest := []) hC (c_X4_revoke hE (α := α) (ξ := ξ) (M := M) (N := N) (B := nB nb) p0 (by omega)) Y_X4_revoke k_867 I_X4_revoke V_X4_revoke hRB.1.sig rfl hRB rfl hl.1 dL_revoke_2 ⟨Nat.le_of_ble_eq_true rfl, Nat.le_of_ble_eq_true rfl⟩ ⟨Nat.le_of_ble_eq_true rfl, Nat.le_of_ble_eq_true rfl⟩ rfl (Nat.le_of_ble_eq_true rfl)) hS (fun _ h => h) rfl rfl (fun X ce q H lo hpx hz_ ho_ hS hq hv hcl => ?_) (fun r H lo hw hz_ hk_ hS => ?_)
  · have hRB := hRB.keep hz_ ho_
    obtain ⟨i_, hi_, hkc_⟩ := hpx
    rcases i_ with _ | _ | i_
    · have hX_ : "java/lang/IndexOutOfBoundsException" = X := Option.some.inj hi_
      subst hX_
      refine vx_catch (own := "SignatoryLaw") (name := "java/lang/IndexOutOfBoundsException") hC.2.2.2.2.2.1 [] ⟨0, 5, 6, 22⟩ [⟨0, 5, 10, 15⟩] (by rw [ht]; rfl) (fun z hz => nomatch hz) rfl (by decide) (gw hC.1 hC.2.1 k_30 rfl) (va_Nw.use rfl (va_Nw.warmC hC.2.1 (va_Nw.of rfl (hC.1.2.1 _ k_46)))) hq hv hcl ?_
      refine lv_astore_n (lv' := [(2, .ref q), (0, .ref (α 3 0)), (1, .int p0)]) hx hb dL_revoke_6 rfl hl (by decide) rfl (fun ls hl => ?_)
      refine lv_ldc (own := "SignatoryLaw") (v := -900001) hx hb hC.2.2.2.2.2.1 (gw hC.1 hC.2.1 k_244 rfl) dL_revoke_7 ?_
      exact g_iretW hC hr dL_revoke_9 hS (Nat.le_of_ble_eq_true rfl) (Nat.le_of_ble_eq_true rfl) (Or.inr ⟨0, ((lk_revoke hK p0).1).symm.trans hkc_, rfl, ⟨α, ξ, M, N, hRB, rfl, hK, hn2⟩⟩)
    · have hX_ : "java/lang/IllegalStateException" = X := Option.some.inj hi_
      subst hX_
      refine vx_catch (own := "SignatoryLaw") (name := "java/lang/IllegalStateException") hC.2.2.2.2.2.1 [⟨0, 5, 6, 22⟩] ⟨0, 5, 10, 15⟩ [] (by rw [ht]; rfl) (List.forall_mem_cons.mpr ⟨Or.inr ⟨by decide, "java/lang/IndexOutOfBoundsException", gw hC.1 hC.2.1 k_30 rfl, va_Nc.moved hC.2.1.alike (va_Nc.of (flat_of_before _ hC.1.2.2.1 _ nc_ISE_IOO))⟩, (fun z hz => nomatch hz)⟩) rfl (by decide) (gw hC.1 hC.2.1 k_249 rfl) (va_Nw.use rfl (va_Nw.warmC hC.2.1 (va_Nw.of rfl (hC.1.2.1 _ k_256)))) hq hv hcl ?_
      refine lv_astore_n (lv' := [(2, .ref q), (0, .ref (α 3 0)), (1, .int p0)]) hx hb dL_revoke_10 rfl hl (by decide) rfl (fun ls hl => ?_)
      refine lv_ldc (own := "SignatoryLaw") (v := -900002) hx hb hC.2.2.2.2.2.1 (gw hC.1 hC.2.1 k_245 rfl) dL_revoke_11 ?_
      exact g_iretW hC hr dL_revoke_13 hS (Nat.le_of_ble_eq_true rfl) (Nat.le_of_ble_eq_true rfl) (Or.inr ⟨1, ((lk_revoke hK p0).1).symm.trans hkc_, rfl, ⟨α, ξ, M, N, hRB, rfl, hK, hn2⟩⟩)
    · exact absurd (show (none : Option String) = some X from hi_) (by simp)
  · obtain ⟨hk0, hval, α1, M1, hRB, hm_, ha_⟩ := hw
    have hc_ : kRevoke (mv μ) (K 1) p0 = 0 := ((lk_revoke hK p0).1).symm.trans hk0
    have hve_ := ((lk_revoke hK p0).2 hc_).1
    have hlk_ := ((lk_revoke hK p0).2 hc_).2
    exact g_iretW hC hr dL_revoke_5 hS (Nat.le_of_ble_eq_true rfl) (Nat.le_of_ble_eq_true rfl) (Or.inl ⟨hc_, hval.trans hve_, ⟨α1, _, M1, _, hRB, ha_, (by rw [hm_]; exact hlk_), (show N 2 + 1 ≤ n + 1 by omega)⟩⟩)
theorem Z_sign : Cond.initialized yL_sign.cls ∈ lw_tbl ∧ Cond.codeWith yL_sign cL_sign 6 (some .int) [(0, 9, 10, 22), (0, 9, 15, 24), (0, 9, 20, 15)] ∈ lw_tbl ∧ (yL_sign.cls ≠ "java/lang/invoke/MethodHandle" ∧ yL_sign.cls ≠ "java/lang/invoke/VarHandle" ∧ (parseMethodDescriptor yL_sign.desc).map (fun d => d.parameters.length) = some 5) ∧ Cond.static yL_sign ∈ lw_tbl := ⟨k_0, k_272, by decide +kernel, k_271⟩
set_option maxHeartbeats 4000000 in
set_option maxRecDepth 100000 in
theorem w_sign {l : Launch} {E : gV} (hE : gOK l E) {nb oa n : Nat} {μ : F2} {K : Nat → Nat} (p0 : Int32) (k0 : Int32) (a0 : Int32) (pa0 : Int32) : gMH l E yL_sign cL_sign 6 (some .int) [(0, 9, 10, 22), (0, 9, 15, 24), (0, 9, 20, 15)] ({ frames := 11, cells := 8, slots := 1060, locals := 276 } : Room) [.ref oa, .int p0, .int k0, .int a0, .int pa0] (fun H => SI E nb oa μ K n H) (gQW (gAB E (nB nb)) (gWi (fun r H => wP E nb oa μ K n (kSign (K 0) (K 2) p0 k0 a0 pa0) (mSig μ (K 1) (K 2) p0 (-1) k0 a0 pa0 (mSum μ K k0 a0 pa0)) (updN K 2 (K 2 + 1)) (n) (fun r => r = nI (K 2)) r H))) (fun _ => False) (gAB E (nB nb)) := by
  refine gMH_body hE (by decide +kernel) (Nat.le_of_ble_eq_true rfl) k_272 ?_
  intro p_ e_ s m args below meth c hC ht hr hP ls hl
  have hx := hC.2.2.1
  have hb := hC.2.2.2.1
  obtain ⟨α, ξ, M, N, hRB, ha, hK, hn2⟩ := hP
  subst ha
  have hl : lv_has ls 6 [(0, .ref (α 3 0)), (1, .int p0), (2, .int k0), (3, .int a0), (4, .int pa0)] := hl
  have hR := hRB.1
  have hS : va_S (gAB E (nB nb)) s.heap s.heap [] := va_S.rf
  refine lv_aload_n hx hb dL_sign_0 rfl (lv_at hl 0 rfl) ?_
  refine lv_iload_n hx hb dL_sign_1 rfl (lv_at hl 1 rfl) ?_
  refine lv_iload_n hx hb dL_sign_2 rfl (lv_at hl 2 rfl) ?_
  refine lv_iload_n hx hb dL_sign_3 rfl (lv_at hl 3 rfl) ?_
  refine lv_iload hx hb dL_sign_4 (lv_at hl 4 rfl) ?_
  refine g_cXi (k2 := 8) (n2 := 1060) (g_runV (rest := []) hC (c_X4_sign hE (α := α) (ξ := ξ) (M := M) (N := N) (B := nB nb) p0 k0 a0 pa0) Y_X4_sign k_273 I_X4_sign V_X4_sign hRB.1.sig rfl hRB rfl hl.1 dL_sign_6 ⟨Nat.le_of_ble_eq_true rfl, Nat.le_of_ble_eq_true rfl⟩ ⟨Nat.le_of_ble_eq_true rfl, Nat.le_of_ble_eq_true rfl⟩ rfl (Nat.le_of_ble_eq_true rfl)) hS (fun _ h => h) rfl rfl (fun X ce q H lo hpx hz_ ho_ hS hq hv hcl => ?_) (fun r H lo hw hz_ hk_ hS => ?_)
  · have hRB := hRB.keep hz_ ho_
    obtain ⟨i_, hi_, hkc_⟩ := hpx
    rcases i_ with _ | _ | _ | i_
    · have hX_ : "java/lang/IndexOutOfBoundsException" = X := Option.some.inj hi_
      subst hX_
      refine vx_catch (own := "SignatoryLaw") (name := "java/lang/IndexOutOfBoundsException") hC.2.2.2.2.2.1 [] ⟨0, 9, 10, 22⟩ [⟨0, 9, 15, 24⟩, ⟨0, 9, 20, 15⟩] (by rw [ht]; rfl) (fun z hz => nomatch hz) rfl (by decide) (gw hC.1 hC.2.1 k_30 rfl) (va_Nw.use rfl (va_Nw.warmC hC.2.1 (va_Nw.of rfl (hC.1.2.1 _ k_46)))) hq hv hcl ?_
      refine lv_astore (lv' := [(5, .ref q), (0, .ref (α 3 0)), (1, .int p0), (2, .int k0), (3, .int a0), (4, .int pa0)]) hx hb dL_sign_10 hl (by decide) rfl (fun ls hl => ?_)
      refine lv_ldc (own := "SignatoryLaw") (v := -900001) hx hb hC.2.2.2.2.2.1 (gw hC.1 hC.2.1 k_244 rfl) dL_sign_12 ?_
      exact g_iretW hC hr dL_sign_14 hS (Nat.le_of_ble_eq_true rfl) (Nat.le_of_ble_eq_true rfl) (Or.inr ⟨0, ((lk_sign hK p0 k0 a0 pa0).1).symm.trans hkc_, rfl, ⟨α, ξ, M, N, hRB, rfl, hK, hn2⟩⟩)
    · have hX_ : "java/lang/IllegalArgumentException" = X := Option.some.inj hi_
      subst hX_
      refine vx_catch (own := "SignatoryLaw") (name := "java/lang/IllegalArgumentException") hC.2.2.2.2.2.1 [⟨0, 9, 10, 22⟩] ⟨0, 9, 15, 24⟩ [⟨0, 9, 20, 15⟩] (by rw [ht]; rfl) (List.forall_mem_cons.mpr ⟨Or.inr ⟨by decide, "java/lang/IndexOutOfBoundsException", gw hC.1 hC.2.1 k_30 rfl, va_Nc.moved hC.2.1.alike (va_Nc.of (flat_of_before _ hC.1.2.2.1 _ nc_IAE_IOO))⟩, (fun z hz => nomatch hz)⟩) rfl (by decide) (gw hC.1 hC.2.1 k_31 rfl) (va_Nw.use rfl (va_Nw.warmC hC.2.1 (va_Nw.of rfl (hC.1.2.1 _ k_118)))) hq hv hcl ?_
      refine lv_astore (lv' := [(5, .ref q), (0, .ref (α 3 0)), (1, .int p0), (2, .int k0), (3, .int a0), (4, .int pa0)]) hx hb dL_sign_15 hl (by decide) rfl (fun ls hl => ?_)
      refine lv_ldc (own := "SignatoryLaw") (v := -900002) hx hb hC.2.2.2.2.2.1 (gw hC.1 hC.2.1 k_245 rfl) dL_sign_17 ?_
      exact g_iretW hC hr dL_sign_19 hS (Nat.le_of_ble_eq_true rfl) (Nat.le_of_ble_eq_true rfl) (Or.inr ⟨1, ((lk_sign hK p0 k0 a0 pa0).1).symm.trans hkc_, rfl, ⟨α, ξ, M, N, hRB, rfl, hK, hn2⟩⟩)
    · have hX_ : "java/lang/IllegalStateException" = X := Option.some.inj hi_
      subst hX_
      refine vx_catch (own := "SignatoryLaw") (name := "java/lang/IllegalStateException") hC.2.2.2.2.2.1 [⟨0, 9, 10, 22⟩, ⟨0, 9, 15, 24⟩] ⟨0, 9, 20, 15⟩ [] (by rw [ht]; rfl) (List.forall_mem_cons.mpr ⟨Or.inr ⟨by decide, "java/lang/IndexOutOfBoundsException", gw hC.1 hC.2.1 k_30 rfl, va_Nc.moved hC.2.1.alike (va_Nc.of (flat_of_before _ hC.1.2.2.1 _ nc_ISE_IOO))⟩, (List.forall_mem_cons.mpr ⟨Or.inr ⟨by decide, "java/lang/IllegalArgumentException", gw hC.1 hC.2.1 k_31 rfl, va_Nc.moved hC.2.1.alike (va_Nc.of (flat_of_before _ hC.1.2.2.1 _ nc_ISE_IAE))⟩, (fun z hz => nomatch hz)⟩)⟩) rfl (by decide) (gw hC.1 hC.2.1 k_249 rfl) (va_Nw.use rfl (va_Nw.warmC hC.2.1 (va_Nw.of rfl (hC.1.2.1 _ k_256)))) hq hv hcl ?_
      refine lv_astore (lv' := [(5, .ref q), (0, .ref (α 3 0)), (1, .int p0), (2, .int k0), (3, .int a0), (4, .int pa0)]) hx hb dL_sign_20 hl (by decide) rfl (fun ls hl => ?_)
      refine lv_ldc (own := "SignatoryLaw") (v := -900003) hx hb hC.2.2.2.2.2.1 (gw hC.1 hC.2.1 k_525 rfl) dL_sign_22 ?_
      exact g_iretW hC hr dL_sign_24 hS (Nat.le_of_ble_eq_true rfl) (Nat.le_of_ble_eq_true rfl) (Or.inr ⟨2, ((lk_sign hK p0 k0 a0 pa0).1).symm.trans hkc_, rfl, ⟨α, ξ, M, N, hRB, rfl, hK, hn2⟩⟩)
    · exact absurd (show (none : Option String) = some X from hi_) (by simp)
  · obtain ⟨hk0, hval, α1, M1, hRB, hm_, ha_⟩ := hw
    have hc_ : kSign (K 0) (K 2) p0 k0 a0 pa0 = 0 := ((lk_sign hK p0 k0 a0 pa0).1).symm.trans hk0
    have hve_ := ((lk_sign hK p0 k0 a0 pa0).2 hc_).1
    have hlk_ := ((lk_sign hK p0 k0 a0 pa0).2 hc_).2
    exact g_iretW hC hr dL_sign_9 hS (Nat.le_of_ble_eq_true rfl) (Nat.le_of_ble_eq_true rfl) (Or.inl ⟨hc_, hval.trans hve_, ⟨α1, _, M1, _, hRB, ha_, (by rw [hm_]; exact hlk_), hn2⟩⟩)
theorem Z_signTogether : Cond.initialized yL_signTogether.cls ∈ lw_tbl ∧ Cond.codeWith yL_signTogether cL_signTogether 7 (some .int) [(0, 11, 12, 22), (0, 11, 17, 24), (0, 11, 22, 40), (0, 11, 27, 15)] ∈ lw_tbl ∧ (yL_signTogether.cls ≠ "java/lang/invoke/MethodHandle" ∧ yL_signTogether.cls ≠ "java/lang/invoke/VarHandle" ∧ (parseMethodDescriptor yL_signTogether.desc).map (fun d => d.parameters.length) = some 6) ∧ Cond.static yL_signTogether ∈ lw_tbl := ⟨k_0, k_528, by decide +kernel, k_527⟩
set_option maxHeartbeats 4000000 in
set_option maxRecDepth 100000 in
theorem w_signTogether {l : Launch} {E : gV} (hE : gOK l E) {nb oa n : Nat} {μ : F2} {K : Nat → Nat} (p0 : Int32) (o0 : Int32) (k0 : Int32) (a0 : Int32) (pa0 : Int32) : gMH l E yL_signTogether cL_signTogether 7 (some .int) [(0, 11, 12, 22), (0, 11, 17, 24), (0, 11, 22, 40), (0, 11, 27, 15)] ({ frames := 11, cells := 8, slots := 1060, locals := 277 } : Room) [.ref oa, .int p0, .int o0, .int k0, .int a0, .int pa0] (fun H => SI E nb oa μ K n H) (gQW (gAB E (nB nb)) (gWi (fun r H => wP E nb oa μ K n (kSignT (K 0) (K 2) p0 o0 k0 a0 pa0) (mSig μ (K 1) (K 2) p0 o0 k0 a0 pa0 (mSum μ K k0 a0 pa0)) (updN K 2 (K 2 + 1)) (n) (fun r => r = nI (K 2)) r H))) (fun _ => False) (gAB E (nB nb)) := by
  refine gMH_body hE (by decide +kernel) (Nat.le_of_ble_eq_true rfl) k_528 ?_
  intro p_ e_ s m args below meth c hC ht hr hP ls hl
  have hx := hC.2.2.1
  have hb := hC.2.2.2.1
  obtain ⟨α, ξ, M, N, hRB, ha, hK, hn2⟩ := hP
  subst ha
  have hl : lv_has ls 7 [(0, .ref (α 3 0)), (1, .int p0), (2, .int o0), (3, .int k0), (4, .int a0), (5, .int pa0)] := hl
  have hR := hRB.1
  have hS : va_S (gAB E (nB nb)) s.heap s.heap [] := va_S.rf
  refine lv_aload_n hx hb dL_signTogether_0 rfl (lv_at hl 0 rfl) ?_
  refine lv_iload_n hx hb dL_signTogether_1 rfl (lv_at hl 1 rfl) ?_
  refine lv_iload_n hx hb dL_signTogether_2 rfl (lv_at hl 2 rfl) ?_
  refine lv_iload_n hx hb dL_signTogether_3 rfl (lv_at hl 3 rfl) ?_
  refine lv_iload hx hb dL_signTogether_4 (lv_at hl 4 rfl) ?_
  refine lv_iload hx hb dL_signTogether_6 (lv_at hl 5 rfl) ?_
  refine g_cXi (k2 := 8) (n2 := 1060) (g_runV (rest := []) hC (c_X4_signTogether hE (α := α) (ξ := ξ) (M := M) (N := N) (B := nB nb) p0 o0 k0 a0 pa0) Y_X4_signTogether k_530 I_X4_signTogether V_X4_signTogether hRB.1.sig rfl hRB rfl hl.1 dL_signTogether_8 ⟨Nat.le_of_ble_eq_true rfl, Nat.le_of_ble_eq_true rfl⟩ ⟨Nat.le_of_ble_eq_true rfl, Nat.le_of_ble_eq_true rfl⟩ rfl (Nat.le_of_ble_eq_true rfl)) hS (fun _ h => h) rfl rfl (fun X ce q H lo hpx hz_ ho_ hS hq hv hcl => ?_) (fun r H lo hw hz_ hk_ hS => ?_)
  · have hRB := hRB.keep hz_ ho_
    obtain ⟨i_, hi_, hkc_⟩ := hpx
    rcases i_ with _ | _ | _ | _ | i_
    · have hX_ : "java/lang/IndexOutOfBoundsException" = X := Option.some.inj hi_
      subst hX_
      refine vx_catch (own := "SignatoryLaw") (name := "java/lang/IndexOutOfBoundsException") hC.2.2.2.2.2.1 [] ⟨0, 11, 12, 22⟩ [⟨0, 11, 17, 24⟩, ⟨0, 11, 22, 40⟩, ⟨0, 11, 27, 15⟩] (by rw [ht]; rfl) (fun z hz => nomatch hz) rfl (by decide) (gw hC.1 hC.2.1 k_30 rfl) (va_Nw.use rfl (va_Nw.warmC hC.2.1 (va_Nw.of rfl (hC.1.2.1 _ k_46)))) hq hv hcl ?_
      refine lv_astore (lv' := [(6, .ref q), (0, .ref (α 3 0)), (1, .int p0), (2, .int o0), (3, .int k0), (4, .int a0), (5, .int pa0)]) hx hb dL_signTogether_12 hl (by decide) rfl (fun ls hl => ?_)
      refine lv_ldc (own := "SignatoryLaw") (v := -900001) hx hb hC.2.2.2.2.2.1 (gw hC.1 hC.2.1 k_244 rfl) dL_signTogether_14 ?_
      exact g_iretW hC hr dL_signTogether_16 hS (Nat.le_of_ble_eq_true rfl) (Nat.le_of_ble_eq_true rfl) (Or.inr ⟨0, ((lk_signTogether hK p0 o0 k0 a0 pa0).1).symm.trans hkc_, rfl, ⟨α, ξ, M, N, hRB, rfl, hK, hn2⟩⟩)
    · have hX_ : "java/lang/IllegalArgumentException" = X := Option.some.inj hi_
      subst hX_
      refine vx_catch (own := "SignatoryLaw") (name := "java/lang/IllegalArgumentException") hC.2.2.2.2.2.1 [⟨0, 11, 12, 22⟩] ⟨0, 11, 17, 24⟩ [⟨0, 11, 22, 40⟩, ⟨0, 11, 27, 15⟩] (by rw [ht]; rfl) (List.forall_mem_cons.mpr ⟨Or.inr ⟨by decide, "java/lang/IndexOutOfBoundsException", gw hC.1 hC.2.1 k_30 rfl, va_Nc.moved hC.2.1.alike (va_Nc.of (flat_of_before _ hC.1.2.2.1 _ nc_IAE_IOO))⟩, (fun z hz => nomatch hz)⟩) rfl (by decide) (gw hC.1 hC.2.1 k_31 rfl) (va_Nw.use rfl (va_Nw.warmC hC.2.1 (va_Nw.of rfl (hC.1.2.1 _ k_118)))) hq hv hcl ?_
      refine lv_astore (lv' := [(6, .ref q), (0, .ref (α 3 0)), (1, .int p0), (2, .int o0), (3, .int k0), (4, .int a0), (5, .int pa0)]) hx hb dL_signTogether_17 hl (by decide) rfl (fun ls hl => ?_)
      refine lv_ldc (own := "SignatoryLaw") (v := -900002) hx hb hC.2.2.2.2.2.1 (gw hC.1 hC.2.1 k_245 rfl) dL_signTogether_19 ?_
      exact g_iretW hC hr dL_signTogether_21 hS (Nat.le_of_ble_eq_true rfl) (Nat.le_of_ble_eq_true rfl) (Or.inr ⟨1, ((lk_signTogether hK p0 o0 k0 a0 pa0).1).symm.trans hkc_, rfl, ⟨α, ξ, M, N, hRB, rfl, hK, hn2⟩⟩)
    · have hX_ : "java/lang/UnsupportedOperationException" = X := Option.some.inj hi_
      subst hX_
      refine vx_catch (own := "SignatoryLaw") (name := "java/lang/UnsupportedOperationException") hC.2.2.2.2.2.1 [⟨0, 11, 12, 22⟩, ⟨0, 11, 17, 24⟩] ⟨0, 11, 22, 40⟩ [⟨0, 11, 27, 15⟩] (by rw [ht]; rfl) (List.forall_mem_cons.mpr ⟨Or.inr ⟨by decide, "java/lang/IndexOutOfBoundsException", gw hC.1 hC.2.1 k_30 rfl, va_Nc.moved hC.2.1.alike (va_Nc.of (flat_of_before _ hC.1.2.2.1 _ nc_UOE_IOO))⟩, (List.forall_mem_cons.mpr ⟨Or.inr ⟨by decide, "java/lang/IllegalArgumentException", gw hC.1 hC.2.1 k_31 rfl, va_Nc.moved hC.2.1.alike (va_Nc.of (flat_of_before _ hC.1.2.2.1 _ nc_UOE_IAE))⟩, (fun z hz => nomatch hz)⟩)⟩) rfl (by decide) (gw hC.1 hC.2.1 k_529 rfl) (va_Nw.use rfl (va_Nw.warmC hC.2.1 (va_Nw.of rfl (hC.1.2.1 _ k_539)))) hq hv hcl ?_
      refine lv_astore (lv' := [(6, .ref q), (0, .ref (α 3 0)), (1, .int p0), (2, .int o0), (3, .int k0), (4, .int a0), (5, .int pa0)]) hx hb dL_signTogether_22 hl (by decide) rfl (fun ls hl => ?_)
      refine lv_ldc (own := "SignatoryLaw") (v := -900003) hx hb hC.2.2.2.2.2.1 (gw hC.1 hC.2.1 k_525 rfl) dL_signTogether_24 ?_
      exact g_iretW hC hr dL_signTogether_26 hS (Nat.le_of_ble_eq_true rfl) (Nat.le_of_ble_eq_true rfl) (Or.inr ⟨2, ((lk_signTogether hK p0 o0 k0 a0 pa0).1).symm.trans hkc_, rfl, ⟨α, ξ, M, N, hRB, rfl, hK, hn2⟩⟩)
    · have hX_ : "java/lang/IllegalStateException" = X := Option.some.inj hi_
      subst hX_
      refine vx_catch (own := "SignatoryLaw") (name := "java/lang/IllegalStateException") hC.2.2.2.2.2.1 [⟨0, 11, 12, 22⟩, ⟨0, 11, 17, 24⟩, ⟨0, 11, 22, 40⟩] ⟨0, 11, 27, 15⟩ [] (by rw [ht]; rfl) (List.forall_mem_cons.mpr ⟨Or.inr ⟨by decide, "java/lang/IndexOutOfBoundsException", gw hC.1 hC.2.1 k_30 rfl, va_Nc.moved hC.2.1.alike (va_Nc.of (flat_of_before _ hC.1.2.2.1 _ nc_ISE_IOO))⟩, (List.forall_mem_cons.mpr ⟨Or.inr ⟨by decide, "java/lang/IllegalArgumentException", gw hC.1 hC.2.1 k_31 rfl, va_Nc.moved hC.2.1.alike (va_Nc.of (flat_of_before _ hC.1.2.2.1 _ nc_ISE_IAE))⟩, (List.forall_mem_cons.mpr ⟨Or.inr ⟨by decide, "java/lang/UnsupportedOperationException", gw hC.1 hC.2.1 k_529 rfl, va_Nc.moved hC.2.1.alike (va_Nc.of (flat_of_before _ hC.1.2.2.1 _ nc_ISE_UOE))⟩, (fun z hz => nomatch hz)⟩)⟩)⟩) rfl (by decide) (gw hC.1 hC.2.1 k_249 rfl) (va_Nw.use rfl (va_Nw.warmC hC.2.1 (va_Nw.of rfl (hC.1.2.1 _ k_256)))) hq hv hcl ?_
      refine lv_astore (lv' := [(6, .ref q), (0, .ref (α 3 0)), (1, .int p0), (2, .int o0), (3, .int k0), (4, .int a0), (5, .int pa0)]) hx hb dL_signTogether_27 hl (by decide) rfl (fun ls hl => ?_)
      refine lv_ldc (own := "SignatoryLaw") (v := -900004) hx hb hC.2.2.2.2.2.1 (gw hC.1 hC.2.1 k_553 rfl) dL_signTogether_29 ?_
      exact g_iretW hC hr dL_signTogether_31 hS (Nat.le_of_ble_eq_true rfl) (Nat.le_of_ble_eq_true rfl) (Or.inr ⟨3, ((lk_signTogether hK p0 o0 k0 a0 pa0).1).symm.trans hkc_, rfl, ⟨α, ξ, M, N, hRB, rfl, hK, hn2⟩⟩)
    · exact absurd (show (none : Option String) = some X from hi_) (by simp)
  · obtain ⟨hk0, hval, α1, M1, hRB, hm_, ha_⟩ := hw
    have hc_ : kSignT (K 0) (K 2) p0 o0 k0 a0 pa0 = 0 := ((lk_signTogether hK p0 o0 k0 a0 pa0).1).symm.trans hk0
    have hve_ := ((lk_signTogether hK p0 o0 k0 a0 pa0).2 hc_).1
    have hlk_ := ((lk_signTogether hK p0 o0 k0 a0 pa0).2 hc_).2
    exact g_iretW hC hr dL_signTogether_11 hS (Nat.le_of_ble_eq_true rfl) (Nat.le_of_ble_eq_true rfl) (Or.inl ⟨hc_, hval.trans hve_, ⟨α1, _, M1, _, hRB, ha_, (by rw [hm_]; exact hlk_), hn2⟩⟩)
theorem Z_ratify : Cond.initialized yL_ratify.cls ∈ lw_tbl ∧ Cond.codeWith yL_ratify cL_ratify 4 (some .int) [(0, 6, 7, 22), (0, 6, 11, 15), (0, 6, 15, 40)] ∈ lw_tbl ∧ (yL_ratify.cls ≠ "java/lang/invoke/MethodHandle" ∧ yL_ratify.cls ≠ "java/lang/invoke/VarHandle" ∧ (parseMethodDescriptor yL_ratify.desc).map (fun d => d.parameters.length) = some 3) ∧ Cond.static yL_ratify ∈ lw_tbl := ⟨k_0, k_556, by decide +kernel, k_555⟩
set_option maxHeartbeats 4000000 in
set_option maxRecDepth 100000 in
theorem w_ratify {l : Launch} {E : gV} (hE : gOK l E) {nb oa n : Nat} {μ : F2} {K : Nat → Nat} (d0 : Int32) (p0 : Int32) : gMH l E yL_ratify cL_ratify 4 (some .int) [(0, 6, 7, 22), (0, 6, 11, 15), (0, 6, 15, 40)] ({ frames := 10, cells := 4, slots := 30, locals := 184 } : Room) [.ref oa, .int d0, .int p0] (fun H => SI E nb oa μ K n H) (gQW (gAB E (nB nb)) (gWi (fun r H => wP E nb oa μ K n (kRat (mv μ) (mw μ) (μ 22 0) (K 1) (K 2) (K 0) d0 p0) (up2 μ 17 (ix d0) 114) (K) (n) (fun r => r = μ 14 (ix d0)) r H))) (fun _ => False) (gAB E (nB nb)) := by
  refine gMH_body hE (by decide +kernel) (Nat.le_of_ble_eq_true rfl) k_556 ?_
  intro p_ e_ s m args below meth c hC ht hr hP ls hl
  have hx := hC.2.2.1
  have hb := hC.2.2.2.1
  obtain ⟨α, ξ, M, N, hRB, ha, hK, hn2⟩ := hP
  subst ha
  have hl : lv_has ls 4 [(0, .ref (α 3 0)), (1, .int d0), (2, .int p0)] := hl
  have hR := hRB.1
  have hS : va_S (gAB E (nB nb)) s.heap s.heap [] := va_S.rf
  refine lv_aload_n hx hb dL_ratify_0 rfl (lv_at hl 0 rfl) ?_
  refine lv_iload_n hx hb dL_ratify_1 rfl (lv_at hl 1 rfl) ?_
  refine lv_iload_n hx hb dL_ratify_2 rfl (lv_at hl 2 rfl) ?_
  refine g_cXi (k2 := 4) (n2 := 30) (g_runV (rest := []) hC (c_X4_ratify hE (α := α) (ξ := ξ) (M := M) (N := N) (B := nB nb) d0 p0) Y_X4_ratify k_557 I_X4_ratify V_X4_ratify hRB.1.sig rfl hRB rfl hl.1 dL_ratify_3 ⟨Nat.le_of_ble_eq_true rfl, Nat.le_of_ble_eq_true rfl⟩ ⟨Nat.le_of_ble_eq_true rfl, Nat.le_of_ble_eq_true rfl⟩ rfl (Nat.le_of_ble_eq_true rfl)) hS (fun _ h => h) rfl rfl (fun X ce q H lo hpx hz_ ho_ hS hq hv hcl => ?_) (fun r H lo hw hz_ hk_ hS => ?_)
  · have hRB := hRB.keep hz_ ho_
    obtain ⟨i_, hi_, hkc_⟩ := hpx
    rcases i_ with _ | _ | _ | i_
    · have hX_ : "java/lang/IndexOutOfBoundsException" = X := Option.some.inj hi_
      subst hX_
      refine vx_catch (own := "SignatoryLaw") (name := "java/lang/IndexOutOfBoundsException") hC.2.2.2.2.2.1 [] ⟨0, 6, 7, 22⟩ [⟨0, 6, 11, 15⟩, ⟨0, 6, 15, 40⟩] (by rw [ht]; rfl) (fun z hz => nomatch hz) rfl (by decide) (gw hC.1 hC.2.1 k_30 rfl) (va_Nw.use rfl (va_Nw.warmC hC.2.1 (va_Nw.of rfl (hC.1.2.1 _ k_46)))) hq hv hcl ?_
      refine lv_astore_n (lv' := [(3, .ref q), (0, .ref (α 3 0)), (1, .int d0), (2, .int p0)]) hx hb dL_ratify_7 rfl hl (by decide) rfl (fun ls hl => ?_)
      refine lv_ldc (own := "SignatoryLaw") (v := -900001) hx hb hC.2.2.2.2.2.1 (gw hC.1 hC.2.1 k_244 rfl) dL_ratify_8 ?_
      exact g_iretW hC hr dL_ratify_10 hS (Nat.le_of_ble_eq_true rfl) (Nat.le_of_ble_eq_true rfl) (Or.inr ⟨0, ((lk_ratify hK d0 p0).1).symm.trans hkc_, rfl, ⟨α, ξ, M, N, hRB, rfl, hK, hn2⟩⟩)
    · have hX_ : "java/lang/IllegalStateException" = X := Option.some.inj hi_
      subst hX_
      refine vx_catch (own := "SignatoryLaw") (name := "java/lang/IllegalStateException") hC.2.2.2.2.2.1 [⟨0, 6, 7, 22⟩] ⟨0, 6, 11, 15⟩ [⟨0, 6, 15, 40⟩] (by rw [ht]; rfl) (List.forall_mem_cons.mpr ⟨Or.inr ⟨by decide, "java/lang/IndexOutOfBoundsException", gw hC.1 hC.2.1 k_30 rfl, va_Nc.moved hC.2.1.alike (va_Nc.of (flat_of_before _ hC.1.2.2.1 _ nc_ISE_IOO))⟩, (fun z hz => nomatch hz)⟩) rfl (by decide) (gw hC.1 hC.2.1 k_249 rfl) (va_Nw.use rfl (va_Nw.warmC hC.2.1 (va_Nw.of rfl (hC.1.2.1 _ k_256)))) hq hv hcl ?_
      refine lv_astore_n (lv' := [(3, .ref q), (0, .ref (α 3 0)), (1, .int d0), (2, .int p0)]) hx hb dL_ratify_11 rfl hl (by decide) rfl (fun ls hl => ?_)
      refine lv_ldc (own := "SignatoryLaw") (v := -900002) hx hb hC.2.2.2.2.2.1 (gw hC.1 hC.2.1 k_245 rfl) dL_ratify_12 ?_
      exact g_iretW hC hr dL_ratify_14 hS (Nat.le_of_ble_eq_true rfl) (Nat.le_of_ble_eq_true rfl) (Or.inr ⟨1, ((lk_ratify hK d0 p0).1).symm.trans hkc_, rfl, ⟨α, ξ, M, N, hRB, rfl, hK, hn2⟩⟩)
    · have hX_ : "java/lang/UnsupportedOperationException" = X := Option.some.inj hi_
      subst hX_
      refine vx_catch (own := "SignatoryLaw") (name := "java/lang/UnsupportedOperationException") hC.2.2.2.2.2.1 [⟨0, 6, 7, 22⟩, ⟨0, 6, 11, 15⟩] ⟨0, 6, 15, 40⟩ [] (by rw [ht]; rfl) (List.forall_mem_cons.mpr ⟨Or.inr ⟨by decide, "java/lang/IndexOutOfBoundsException", gw hC.1 hC.2.1 k_30 rfl, va_Nc.moved hC.2.1.alike (va_Nc.of (flat_of_before _ hC.1.2.2.1 _ nc_UOE_IOO))⟩, (List.forall_mem_cons.mpr ⟨Or.inr ⟨by decide, "java/lang/IllegalStateException", gw hC.1 hC.2.1 k_249 rfl, va_Nc.moved hC.2.1.alike (va_Nc.of (flat_of_before _ hC.1.2.2.1 _ nc_UOE_ISE))⟩, (fun z hz => nomatch hz)⟩)⟩) rfl (by decide) (gw hC.1 hC.2.1 k_529 rfl) (va_Nw.use rfl (va_Nw.warmC hC.2.1 (va_Nw.of rfl (hC.1.2.1 _ k_539)))) hq hv hcl ?_
      refine lv_astore_n (lv' := [(3, .ref q), (0, .ref (α 3 0)), (1, .int d0), (2, .int p0)]) hx hb dL_ratify_15 rfl hl (by decide) rfl (fun ls hl => ?_)
      refine lv_ldc (own := "SignatoryLaw") (v := -900003) hx hb hC.2.2.2.2.2.1 (gw hC.1 hC.2.1 k_525 rfl) dL_ratify_16 ?_
      exact g_iretW hC hr dL_ratify_18 hS (Nat.le_of_ble_eq_true rfl) (Nat.le_of_ble_eq_true rfl) (Or.inr ⟨2, ((lk_ratify hK d0 p0).1).symm.trans hkc_, rfl, ⟨α, ξ, M, N, hRB, rfl, hK, hn2⟩⟩)
    · exact absurd (show (none : Option String) = some X from hi_) (by simp)
  · obtain ⟨hk0, hval, α1, M1, hRB, hm_, ha_⟩ := hw
    have hc_ : kRat (mv μ) (mw μ) (μ 22 0) (K 1) (K 2) (K 0) d0 p0 = 0 := ((lk_ratify hK d0 p0).1).symm.trans hk0
    have hve_ := ((lk_ratify hK d0 p0).2 hc_).1
    have hlk_ := ((lk_ratify hK d0 p0).2 hc_).2
    exact g_iretW hC hr dL_ratify_6 hS (Nat.le_of_ble_eq_true rfl) (Nat.le_of_ble_eq_true rfl) (Or.inl ⟨hc_, hval.trans hve_, ⟨α1, _, M1, _, hRB, ha_, (by rw [hm_]; exact hlk_), hn2⟩⟩)
