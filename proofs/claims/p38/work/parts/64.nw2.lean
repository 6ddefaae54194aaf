theorem Z_annul : Cond.initialized yL_annul.cls ∈ lw_tbl ∧ Cond.codeWith yL_annul cL_annul 3 (some .int) [(0, 5, 6, 22), (0, 5, 10, 15)] ∈ lw_tbl ∧ (yL_annul.cls ≠ "java/lang/invoke/MethodHandle" ∧ yL_annul.cls ≠ "java/lang/invoke/VarHandle" ∧ (parseMethodDescriptor yL_annul.desc).map (fun d => d.parameters.length) = some 2) ∧ Cond.static yL_annul ∈ lw_tbl := ⟨k_0, k_577, by decide +kernel, k_576⟩
set_option maxHeartbeats 4000000 in
set_option maxRecDepth 100000 in
theorem w_annul {l : Launch} {E : gV} (hE : gOK l E) {nb oa n : Nat} {μ : F2} {K : Nat → Nat} (d0 : Int32) (hn : n < 512) : gMH l E yL_annul cL_annul 3 (some .int) [(0, 5, 6, 22), (0, 5, 10, 15)] ({ frames := 11, cells := 6, slots := 1040, locals := 277 } : Room) [.ref oa, .int d0] (fun H => SI E nb oa μ K n H) (gQW (gAB E (nB nb)) (gWi (fun r H => wP E nb oa μ K n (kAnnul (mw μ) (K 2) d0) (up2 μ 17 (ix d0) 110) (K) (n + 1) (fun r => r = nI (fCnt (fun t => upd (μ 17) (ix d0) 110 t = 119) (K 2))) r H))) (fun _ => False) (gAB E (nB nb)) := by
  refine gMH_body hE (by decide +kernel) (Nat.le_of_ble_eq_true rfl) k_577 ?_
  intro p_ e_ s m args below meth c hC ht hr hP ls hl
  have hx := hC.2.2.1
  have hb := hC.2.2.2.1
  obtain ⟨α, ξ, M, N, hRB, ha, hK, hn2⟩ := hP
  subst ha
  have hl : lv_has ls 3 [(0, .ref (α 3 0)), (1, .int d0)] := hl
  have hR := hRB.1
  have hS : va_S (gAB E (nB nb)) s.heap s.heap [] := va_S.rf
  refine lv_aload_n hx hb dL_annul_0 rfl (lv_at hl 0 rfl) ?_
  refine lv_iload_n hx hb dL_annul_1 rfl (lv_at hl 1 rfl) ?_
  refine g_cXi (k2 := 6) (n2 := 1040) (g_runV (rest := []) hC (c_X4_annul hE (α := α) (ξ := ξ) (M := M) (N := N) (B := nB nb) d0 (by omega)) Y_X4_annul k_578 I_X4_annul V_X4_annul hRB.1.sig rfl hRB rfl hl.1 dL_annul_2 ⟨Nat.le_of_ble_eq_true rfl, Nat.le_of_ble_eq_true rfl⟩ ⟨Nat.le_of_ble_eq_true rfl, Nat.le_of_ble_eq_true rfl⟩ rfl (Nat.le_of_ble_eq_true rfl)) hS (fun _ h => h) rfl rfl (fun X ce q H lo hpx hz_ ho_ hS hq hv hcl => ?_) (fun r H lo hw hz_ hk_ hS => ?_)
  · have hRB := hRB.keep hz_ ho_
    obtain ⟨i_, hi_, hkc_⟩ := hpx
    rcases i_ with _ | _ | i_
    · have hX_ : "java/lang/IndexOutOfBoundsException" = X := Option.some.inj hi_
      subst hX_
      refine vx_catch (own := "SignatoryLaw") (name := "java/lang/IndexOutOfBoundsException") hC.2.2.2.2.2.1 [] ⟨0, 5, 6, 22⟩ [⟨0, 5, 10, 15⟩] (by rw [ht]; rfl) (fun z hz => nomatch hz) rfl (by decide) (gw hC.1 hC.2.1 k_30 rfl) (va_Nw.use rfl (va_Nw.warmC hC.2.1 (va_Nw.of rfl (hC.1.2.1 _ k_46)))) hq hv hcl ?_
      refine lv_astore_n (lv' := [(2, .ref q), (0, .ref (α 3 0)), (1, .int d0)]) hx hb dL_annul_6 rfl hl (by decide) rfl (fun ls hl => ?_)
      refine lv_ldc (own := "SignatoryLaw") (v := -900001) hx hb hC.2.2.2.2.2.1 (gw hC.1 hC.2.1 k_244 rfl) dL_annul_7 ?_
      exact g_iretW hC hr dL_annul_9 hS (Nat.le_of_ble_eq_true rfl) (Nat.le_of_ble_eq_true rfl) (Or.inr ⟨0, ((lk_annul hK d0).1).symm.trans hkc_, rfl, ⟨α, ξ, M, N, hRB, rfl, hK, hn2⟩⟩)
    · have hX_ : "java/lang/IllegalStateException" = X := Option.some.inj hi_
      subst hX_
      refine vx_catch (own := "SignatoryLaw") (name := "java/lang/IllegalStateException") hC.2.2.2.2.2.1 [⟨0, 5, 6, 22⟩] ⟨0, 5, 10, 15⟩ [] (by rw [ht]; rfl) (List.forall_mem_cons.mpr ⟨Or.inr ⟨by decide, "java/lang/IndexOutOfBoundsException", gw hC.1 hC.2.1 k_30 rfl, va_Nc.moved hC.2.1.alike (va_Nc.of (flat_of_before _ hC.1.2.2.1 _ nc_ISE_IOO))⟩, (fun z hz => nomatch hz)⟩) rfl (by decide) (gw hC.1 hC.2.1 k_249 rfl) (va_Nw.use rfl (va_Nw.warmC hC.2.1 (va_Nw.of rfl (hC.1.2.1 _ k_256)))) hq hv hcl ?_
      refine lv_astore_n (lv' := [(2, .ref q), (0, .ref (α 3 0)), (1, .int d0)]) hx hb dL_annul_10 rfl hl (by decide) rfl (fun ls hl => ?_)
      refine lv_ldc (own := "SignatoryLaw") (v := -900002) hx hb hC.2.2.2.2.2.1 (gw hC.1 hC.2.1 k_245 rfl) dL_annul_11 ?_
      exact g_iretW hC hr dL_annul_13 hS (Nat.le_of_ble_eq_true rfl) (Nat.le_of_ble_eq_true rfl) (Or.inr ⟨1, ((lk_annul hK d0).1).symm.trans hkc_, rfl, ⟨α, ξ, M, N, hRB, rfl, hK, hn2⟩⟩)
    · exact absurd (show (none : Option String) = some X from hi_) (by simp)
  · obtain ⟨hk0, hval, α1, M1, hRB, hm_, ha_⟩ := hw
    have hc_ : kAnnul (mw μ) (K 2) d0 = 0 := ((lk_annul hK d0).1).symm.trans hk0
    have hve_ := ((lk_annul hK d0).2 hc_).1
    have hlk_ := ((lk_annul hK d0).2 hc_).2
    exact g_iretW hC hr dL_annul_5 hS (Nat.le_of_ble_eq_true rfl) (Nat.le_of_ble_eq_true rfl) (Or.inl ⟨hc_, hval.trans hve_, ⟨α1, _, M1, _, hRB, ha_, (by rw [hm_]; exact hlk_), (show N 2 + 1 ≤ n + 1 by omega)⟩⟩)
theorem Z_status : Cond.initialized yL_status.cls ∈ lw_tbl ∧ Cond.codeWith yL_status cL_status 3 (some .int) [(0, 5, 6, 22)] ∈ lw_tbl ∧ (yL_status.cls ≠ "java/lang/invoke/MethodHandle" ∧ yL_status.cls ≠ "java/lang/invoke/VarHandle" ∧ (parseMethodDescriptor yL_status.desc).map (fun d => d.parameters.length) = some 2) ∧ Cond.static yL_status ∈ lw_tbl := ⟨k_0, k_588, by decide +kernel, k_587⟩
set_option maxHeartbeats 4000000 in
set_option maxRecDepth 100000 in
theorem w_status {l : Launch} {E : gV} (hE : gOK l E) {nb oa n : Nat} {μ : F2} {K : Nat → Nat} (d0 : Int32) : gMH l E yL_status cL_status 3 (some .int) [(0, 5, 6, 22)] ({ frames := 10, cells := 1, slots := 6, locals := 182 } : Room) [.ref oa, .int d0] (fun H => SI E nb oa μ K n H) (gQW (gAB E (nB nb)) (gWi (fun r H => wP E nb oa μ K n (kPow (K 2) d0) (μ) (K) (n) (fun r => r = μ 17 (ix d0)) r H))) (fun _ => False) (gAB E (nB nb)) := by
  refine gMH_body hE (by decide +kernel) (Nat.le_of_ble_eq_true rfl) k_588 ?_
  intro p_ e_ s m args below meth c hC ht hr hP ls hl
  have hx := hC.2.2.1
  have hb := hC.2.2.2.1
  obtain ⟨α, ξ, M, N, hRB, ha, hK, hn2⟩ := hP
  subst ha
  have hl : lv_has ls 3 [(0, .ref (α 3 0)), (1, .int d0)] := hl
  have hR := hRB.1
  have hS : va_S (gAB E (nB nb)) s.heap s.heap [] := va_S.rf
  refine lv_aload_n hx hb dL_status_0 rfl (lv_at hl 0 rfl) ?_
  refine lv_iload_n hx hb dL_status_1 rfl (lv_at hl 1 rfl) ?_
  refine g_cRi (k2 := 1) (n2 := 6) (g_runV (rest := []) hC (c_X4_status hE (α := α) (ξ := ξ) (M := M) (N := N) d0 hK.x19) Y_X4_status k_589 I_X4_status V_X4_status hRB.1.sig rfl hR rfl hl.1 dL_status_2 ⟨Nat.le_of_ble_eq_true rfl, Nat.le_of_ble_eq_true rfl⟩ ⟨Nat.le_of_ble_eq_true rfl, Nat.le_of_ble_eq_true rfl⟩ rfl (Nat.le_of_ble_eq_true rfl)) rfl rfl (fun X ce q H hpx hz_ ho_ hq hv hcl => ?_) (fun r hw => ?_)
  · have hRB := hRB.keep hz_ ho_
    have hS : va_S (gAB E (nB nb)) s.heap H [] := ⟨hz_, fun q h1 _ => ho_ q h1, fun z hz => nomatch hz⟩
    obtain ⟨i_, hi_, hkc_⟩ := hpx
    rcases i_ with _ | i_
    · have hX_ : "java/lang/IndexOutOfBoundsException" = X := Option.some.inj hi_
      subst hX_
      refine vx_catch (own := "SignatoryLaw") (name := "java/lang/IndexOutOfBoundsException") hC.2.2.2.2.2.1 [] ⟨0, 5, 6, 22⟩ [] (by rw [ht]; rfl) (fun z hz => nomatch hz) rfl (by decide) (gw hC.1 hC.2.1 k_30 rfl) (va_Nw.use rfl (va_Nw.warmC hC.2.1 (va_Nw.of rfl (hC.1.2.1 _ k_46)))) hq hv hcl ?_
      refine lv_astore_n (lv' := [(2, .ref q), (0, .ref (α 3 0)), (1, .int d0)]) hx hb dL_status_6 rfl hl (by decide) rfl (fun ls hl => ?_)
      refine lv_ldc (own := "SignatoryLaw") (v := -900001) hx hb hC.2.2.2.2.2.1 (gw hC.1 hC.2.1 k_244 rfl) dL_status_7 ?_
      exact g_iretW hC hr dL_status_9 hS (Nat.le_of_ble_eq_true rfl) (Nat.le_of_ble_eq_true rfl) (Or.inr ⟨0, ((lk_status hK d0).1).symm.trans hkc_, rfl, ⟨α, ξ, M, N, hRB, rfl, hK, hn2⟩⟩)
    · exact absurd (show (none : Option String) = some X from hi_) (by simp)
  · obtain ⟨hk0, hval⟩ := hw
    have hc_ : kPow (K 2) d0 = 0 := ((lk_status hK d0).1).symm.trans hk0
    have hve_ := ((lk_status hK d0).2 hc_)
    have hlk_ := hK
    exact g_iretW hC hr dL_status_5 hS (Nat.le_of_ble_eq_true rfl) (Nat.le_of_ble_eq_true rfl) (Or.inl ⟨hc_, hval.trans hve_, ⟨α, ξ, M, N, hRB, rfl, hlk_, hn2⟩⟩)
theorem Z_sum : Cond.initialized yL_sum.cls ∈ lw_tbl ∧ Cond.codeWith yL_sum cL_sum 3 (some .int) [(0, 5, 6, 22)] ∈ lw_tbl ∧ (yL_sum.cls ≠ "java/lang/invoke/MethodHandle" ∧ yL_sum.cls ≠ "java/lang/invoke/VarHandle" ∧ (parseMethodDescriptor yL_sum.desc).map (fun d => d.parameters.length) = some 2) ∧ Cond.static yL_sum ∈ lw_tbl := ⟨k_0, k_595, by decide +kernel, k_594⟩
set_option maxHeartbeats 4000000 in
set_option maxRecDepth 100000 in
theorem w_sum {l : Launch} {E : gV} (hE : gOK l E) {nb oa n : Nat} {μ : F2} {K : Nat → Nat} (d0 : Int32) : gMH l E yL_sum cL_sum 3 (some .int) [(0, 5, 6, 22)] ({ frames := 10, cells := 1, slots := 6, locals := 182 } : Room) [.ref oa, .int d0] (fun H => SI E nb oa μ K n H) (gQW (gAB E (nB nb)) (gWi (fun r H => wP E nb oa μ K n (kPow (K 2) d0) (μ) (K) (n) (fun r => r = μ 14 (ix d0)) r H))) (fun _ => False) (gAB E (nB nb)) := by
  refine gMH_body hE (by decide +kernel) (Nat.le_of_ble_eq_true rfl) k_595 ?_
  intro p_ e_ s m args below meth c hC ht hr hP ls hl
  have hx := hC.2.2.1
  have hb := hC.2.2.2.1
  obtain ⟨α, ξ, M, N, hRB, ha, hK, hn2⟩ := hP
  subst ha
  have hl : lv_has ls 3 [(0, .ref (α 3 0)), (1, .int d0)] := hl
  have hR := hRB.1
  have hS : va_S (gAB E (nB nb)) s.heap s.heap [] := va_S.rf
  refine lv_aload_n hx hb dL_sum_0 rfl (lv_at hl 0 rfl) ?_
  refine lv_iload_n hx hb dL_sum_1 rfl (lv_at hl 1 rfl) ?_
  refine g_cRi (k2 := 1) (n2 := 6) (g_runV (rest := []) hC (c_X4_sum hE (α := α) (ξ := ξ) (M := M) (N := N) d0) Y_X4_sum k_596 I_X4_sum V_X4_sum hRB.1.sig rfl hR rfl hl.1 dL_sum_2 ⟨Nat.le_of_ble_eq_true rfl, Nat.le_of_ble_eq_true rfl⟩ ⟨Nat.le_of_ble_eq_true rfl, Nat.le_of_ble_eq_true rfl⟩ rfl (Nat.le_of_ble_eq_true rfl)) rfl rfl (fun X ce q H hpx hz_ ho_ hq hv hcl => ?_) (fun r hw => ?_)
  · have hRB := hRB.keep hz_ ho_
    have hS : va_S (gAB E (nB nb)) s.heap H [] := ⟨hz_, fun q h1 _ => ho_ q h1, fun z hz => nomatch hz⟩
    obtain ⟨i_, hi_, hkc_⟩ := hpx
    rcases i_ with _ | i_
    · have hX_ : "java/lang/IndexOutOfBoundsException" = X := Option.some.inj hi_
      subst hX_
      refine vx_catch (own := "SignatoryLaw") (name := "java/lang/IndexOutOfBoundsException") hC.2.2.2.2.2.1 [] ⟨0, 5, 6, 22⟩ [] (by rw [ht]; rfl) (fun z hz => nomatch hz) rfl (by decide) (gw hC.1 hC.2.1 k_30 rfl) (va_Nw.use rfl (va_Nw.warmC hC.2.1 (va_Nw.of rfl (hC.1.2.1 _ k_46)))) hq hv hcl ?_
      refine lv_astore_n (lv' := [(2, .ref q), (0, .ref (α 3 0)), (1, .int d0)]) hx hb dL_sum_6 rfl hl (by decide) rfl (fun ls hl => ?_)
      refine lv_ldc (own := "SignatoryLaw") (v := -900001) hx hb hC.2.2.2.2.2.1 (gw hC.1 hC.2.1 k_244 rfl) dL_sum_7 ?_
      exact g_iretW hC hr dL_sum_9 hS (Nat.le_of_ble_eq_true rfl) (Nat.le_of_ble_eq_true rfl) (Or.inr ⟨0, ((lk_sum hK d0).1).symm.trans hkc_, rfl, ⟨α, ξ, M, N, hRB, rfl, hK, hn2⟩⟩)
    · exact absurd (show (none : Option String) = some X from hi_) (by simp)
  · obtain ⟨hk0, hval⟩ := hw
    have hc_ : kPow (K 2) d0 = 0 := ((lk_sum hK d0).1).symm.trans hk0
    have hve_ := ((lk_sum hK d0).2 hc_)
    have hlk_ := hK
    exact g_iretW hC hr dL_sum_5 hS (Nat.le_of_ble_eq_true rfl) (Nat.le_of_ble_eq_true rfl) (Or.inl ⟨hc_, hval.trans hve_, ⟨α, ξ, M, N, hRB, rfl, hlk_, hn2⟩⟩)
theorem Z_lack : Cond.initialized yL_lack.cls ∈ lw_tbl ∧ Cond.codeWith yL_lack cL_lack 3 (some .int) [(0, 5, 6, 22), (0, 5, 10, 72)] ∈ lw_tbl ∧ (yL_lack.cls ≠ "java/lang/invoke/MethodHandle" ∧ yL_lack.cls ≠ "java/lang/invoke/VarHandle" ∧ (parseMethodDescriptor yL_lack.desc).map (fun d => d.parameters.length) = some 2) ∧ Cond.static yL_lack ∈ lw_tbl := ⟨k_0, k_602, by decide +kernel, k_601⟩
set_option maxHeartbeats 4000000 in
set_option maxRecDepth 100000 in
theorem w_lack {l : Launch} {E : gV} (hE : gOK l E) {nb oa n : Nat} {μ : F2} {K : Nat → Nat} (d0 : Int32) : gMH l E yL_lack cL_lack 3 (some .int) [(0, 5, 6, 22), (0, 5, 10, 72)] ({ frames := 10, cells := 2, slots := 12, locals := 183 } : Room) [.ref oa, .int d0] (fun H => SI E nb oa μ K n H) (gQW (gAB E (nB nb)) (gWi (fun r H => wP E nb oa μ K n (kLack (mw μ) (K 2) d0) (μ) (K) (n) (fun r => r = μ 18 (ix d0)) r H))) (fun _ => False) (gAB E (nB nb)) := by
  refine gMH_body hE (by decide +kernel) (Nat.le_of_ble_eq_true rfl) k_602 ?_
  intro p_ e_ s m args below meth c hC ht hr hP ls hl
  have hx := hC.2.2.1
  have hb := hC.2.2.2.1
  obtain ⟨α, ξ, M, N, hRB, ha, hK, hn2⟩ := hP
  subst ha
  have hl : lv_has ls 3 [(0, .ref (α 3 0)), (1, .int d0)] := hl
  have hR := hRB.1
  have hS : va_S (gAB E (nB nb)) s.heap s.heap [] := va_S.rf
  refine lv_aload_n hx hb dL_lack_0 rfl (lv_at hl 0 rfl) ?_
  refine lv_iload_n hx hb dL_lack_1 rfl (lv_at hl 1 rfl) ?_
  refine g_cRi (k2 := 2) (n2 := 12) (g_runV (rest := []) hC (c_X4_lack hE (α := α) (ξ := ξ) (M := M) (N := N) d0 hK.x20) Y_X4_lack k_604 I_X4_lack V_X4_lack hRB.1.sig rfl hR rfl hl.1 dL_lack_2 ⟨Nat.le_of_ble_eq_true rfl, Nat.le_of_ble_eq_true rfl⟩ ⟨Nat.le_of_ble_eq_true rfl, Nat.le_of_ble_eq_true rfl⟩ rfl (Nat.le_of_ble_eq_true rfl)) rfl rfl (fun X ce q H hpx hz_ ho_ hq hv hcl => ?_) (fun r hw => ?_)
  · have hRB := hRB.keep hz_ ho_
    have hS : va_S (gAB E (nB nb)) s.heap H [] := ⟨hz_, fun q h1 _ => ho_ q h1, fun z hz => nomatch hz⟩
    obtain ⟨i_, hi_, hkc_⟩ := hpx
    rcases i_ with _ | _ | i_
    · have hX_ : "java/lang/IndexOutOfBoundsException" = X := Option.some.inj hi_
      subst hX_
      refine vx_catch (own := "SignatoryLaw") (name := "java/lang/IndexOutOfBoundsException") hC.2.2.2.2.2.1 [] ⟨0, 5, 6, 22⟩ [⟨0, 5, 10, 72⟩] (by rw [ht]; rfl) (fun z hz => nomatch hz) rfl (by decide) (gw hC.1 hC.2.1 k_30 rfl) (va_Nw.use rfl (va_Nw.warmC hC.2.1 (va_Nw.of rfl (hC.1.2.1 _ k_46)))) hq hv hcl ?_
      refine lv_astore_n (lv' := [(2, .ref q), (0, .ref (α 3 0)), (1, .int d0)]) hx hb dL_lack_6 rfl hl (by decide) rfl (fun ls hl => ?_)
      refine lv_ldc (own := "SignatoryLaw") (v := -900001) hx hb hC.2.2.2.2.2.1 (gw hC.1 hC.2.1 k_244 rfl) dL_lack_7 ?_
      exact g_iretW hC hr dL_lack_9 hS (Nat.le_of_ble_eq_true rfl) (Nat.le_of_ble_eq_true rfl) (Or.inr ⟨0, ((lk_lack hK d0).1).symm.trans hkc_, rfl, ⟨α, ξ, M, N, hRB, rfl, hK, hn2⟩⟩)
    · have hX_ : "java/util/NoSuchElementException" = X := Option.some.inj hi_
      subst hX_
      refine vx_catch (own := "SignatoryLaw") (name := "java/util/NoSuchElementException") hC.2.2.2.2.2.1 [⟨0, 5, 6, 22⟩] ⟨0, 5, 10, 72⟩ [] (by rw [ht]; rfl) (List.forall_mem_cons.mpr ⟨Or.inr ⟨by decide, "java/lang/IndexOutOfBoundsException", gw hC.1 hC.2.1 k_30 rfl, va_Nc.moved hC.2.1.alike (va_Nc.of (flat_of_before _ hC.1.2.2.1 _ nc_NSE_IOO))⟩, (fun z hz => nomatch hz)⟩) rfl (by decide) (gw hC.1 hC.2.1 k_603 rfl) (va_Nw.use rfl (va_Nw.warmC hC.2.1 (va_Nw.of rfl (hC.1.2.1 _ k_610)))) hq hv hcl ?_
      refine lv_astore_n (lv' := [(2, .ref q), (0, .ref (α 3 0)), (1, .int d0)]) hx hb dL_lack_10 rfl hl (by decide) rfl (fun ls hl => ?_)
      refine lv_ldc (own := "SignatoryLaw") (v := -900002) hx hb hC.2.2.2.2.2.1 (gw hC.1 hC.2.1 k_245 rfl) dL_lack_11 ?_
      exact g_iretW hC hr dL_lack_13 hS (Nat.le_of_ble_eq_true rfl) (Nat.le_of_ble_eq_true rfl) (Or.inr ⟨1, ((lk_lack hK d0).1).symm.trans hkc_, rfl, ⟨α, ξ, M, N, hRB, rfl, hK, hn2⟩⟩)
    · exact absurd (show (none : Option String) = some X from hi_) (by simp)
  · obtain ⟨hk0, hval⟩ := hw
    have hc_ : kLack (mw μ) (K 2) d0 = 0 := ((lk_lack hK d0).1).symm.trans hk0
    have hve_ := ((lk_lack hK d0).2 hc_)
    have hlk_ := hK
    exact g_iretW hC hr dL_lack_5 hS (Nat.le_of_ble_eq_true rfl) (Nat.le_of_ble_eq_true rfl) (Or.inl ⟨hc_, hval.trans hve_, ⟨α, ξ, M, N, hRB, rfl, hlk_, hn2⟩⟩)
theorem Z_lackPower : Cond.initialized yL_lackPower.cls ∈ lw_tbl ∧ Cond.codeWith yL_lackPower cL_lackPower 3 (some .int) [(0, 5, 6, 22), (0, 5, 10, 72)] ∈ lw_tbl ∧ (yL_lackPower.cls ≠ "java/lang/invoke/MethodHandle" ∧ yL_lackPower.cls ≠ "java/lang/invoke/VarHandle" ∧ (parseMethodDescriptor yL_lackPower.desc).map (fun d => d.parameters.length) = some 2) ∧ Cond.static yL_lackPower ∈ lw_tbl := ⟨k_0, k_920, by decide +kernel, k_919⟩
set_option maxHeartbeats 4000000 in
set_option maxRecDepth 100000 in
theorem w_lackPower {l : Launch} {E : gV} (hE : gOK l E) {nb oa n : Nat} {μ : F2} {K : Nat → Nat} (d0 : Int32) : gMH l E yL_lackPower cL_lackPower 3 (some .int) [(0, 5, 6, 22), (0, 5, 10, 72)] ({ frames := 10, cells := 2, slots := 12, locals := 183 } : Room) [.ref oa, .int d0] (fun H => SI E nb oa μ K n H) (gQW (gAB E (nB nb)) (gWi (fun r H => wP E nb oa μ K n (kLackP (mw μ) (μ 15) (K 2) d0) (μ) (K) (n) (fun r => r = μ 15 (ix d0)) r H))) (fun _ => False) (gAB E (nB nb)) := by
  refine gMH_body hE (by decide +kernel) (Nat.le_of_ble_eq_true rfl) k_920 ?_
  intro p_ e_ s m args below meth c hC ht hr hP ls hl
  have hx := hC.2.2.1
  have hb := hC.2.2.2.1
  obtain ⟨α, ξ, M, N, hRB, ha, hK, hn2⟩ := hP
  subst ha
  have hl : lv_has ls 3 [(0, .ref (α 3 0)), (1, .int d0)] := hl
  have hR := hRB.1
  have hS : va_S (gAB E (nB nb)) s.heap s.heap [] := va_S.rf
  refine lv_aload_n hx hb dL_lackPower_0 rfl (lv_at hl 0 rfl) ?_
  refine lv_iload_n hx hb dL_lackPower_1 rfl (lv_at hl 1 rfl) ?_
  refine g_cRi (k2 := 2) (n2 := 12) (g_runV (rest := []) hC (c_X4_lackPower hE (α := α) (ξ := ξ) (M := M) (N := N) d0) Y_X4_lackPower k_921 I_X4_lackPower V_X4_lackPower hRB.1.sig rfl hR rfl hl.1 dL_lackPower_2 ⟨Nat.le_of_ble_eq_true rfl, Nat.le_of_ble_eq_true rfl⟩ ⟨Nat.le_of_ble_eq_true rfl, Nat.le_of_ble_eq_true rfl⟩ rfl (Nat.le_of_ble_eq_true rfl)) rfl rfl (fun X ce q H hpx hz_ ho_ hq hv hcl => ?_) (fun r hw => ?_)
  · have hRB := hRB.keep hz_ ho_
    have hS : va_S (gAB E (nB nb)) s.heap H [] := ⟨hz_, fun q h1 _ => ho_ q h1, fun z hz => nomatch hz⟩
    obtain ⟨i_, hi_, hkc_⟩ := hpx
    rcases i_ with _ | _ | i_
    · have hX_ : "java/lang/IndexOutOfBoundsException" = X := Option.some.inj hi_
      subst hX_
      refine vx_catch (own := "SignatoryLaw") (name := "java/lang/IndexOutOfBoundsException") hC.2.2.2.2.2.1 [] ⟨0, 5, 6, 22⟩ [⟨0, 5, 10, 72⟩] (by rw [ht]; rfl) (fun z hz => nomatch hz) rfl (by decide) (gw hC.1 hC.2.1 k_30 rfl) (va_Nw.use rfl (va_Nw.warmC hC.2.1 (va_Nw.of rfl (hC.1.2.1 _ k_46)))) hq hv hcl ?_
      refine lv_astore_n (lv' := [(2, .ref q), (0, .ref (α 3 0)), (1, .int d0)]) hx hb dL_lackPower_6 rfl hl (by decide) rfl (fun ls hl => ?_)
      refine lv_ldc (own := "SignatoryLaw") (v := -900001) hx hb hC.2.2.2.2.2.1 (gw hC.1 hC.2.1 k_244 rfl) dL_lackPower_7 ?_
      exact g_iretW hC hr dL_lackPower_9 hS (Nat.le_of_ble_eq_true rfl) (Nat.le_of_ble_eq_true rfl) (Or.inr ⟨0, ((lk_lackY hK d0).1).symm.trans hkc_, rfl, ⟨α, ξ, M, N, hRB, rfl, hK, hn2⟩⟩)
    · have hX_ : "java/util/NoSuchElementException" = X := Option.some.inj hi_
      subst hX_
      refine vx_catch (own := "SignatoryLaw") (name := "java/util/NoSuchElementException") hC.2.2.2.2.2.1 [⟨0, 5, 6, 22⟩] ⟨0, 5, 10, 72⟩ [] (by rw [ht]; rfl) (List.forall_mem_cons.mpr ⟨Or.inr ⟨by decide, "java/lang/IndexOutOfBoundsException", gw hC.1 hC.2.1 k_30 rfl, va_Nc.moved hC.2.1.alike (va_Nc.of (flat_of_before _ hC.1.2.2.1 _ nc_NSE_IOO))⟩, (fun z hz => nomatch hz)⟩) rfl (by decide) (gw hC.1 hC.2.1 k_603 rfl) (va_Nw.use rfl (va_Nw.warmC hC.2.1 (va_Nw.of rfl (hC.1.2.1 _ k_610)))) hq hv hcl ?_
      refine lv_astore_n (lv' := [(2, .ref q), (0, .ref (α 3 0)), (1, .int d0)]) hx hb dL_lackPower_10 rfl hl (by decide) rfl (fun ls hl => ?_)
      refine lv_ldc (own := "SignatoryLaw") (v := -900002) hx hb hC.2.2.2.2.2.1 (gw hC.1 hC.2.1 k_245 rfl) dL_lackPower_11 ?_
      exact g_iretW hC hr dL_lackPower_13 hS (Nat.le_of_ble_eq_true rfl) (Nat.le_of_ble_eq_true rfl) (Or.inr ⟨1, ((lk_lackY hK d0).1).symm.trans hkc_, rfl, ⟨α, ξ, M, N, hRB, rfl, hK, hn2⟩⟩)
    · exact absurd (show (none : Option String) = some X from hi_) (by simp)
  · obtain ⟨hk0, hval⟩ := hw
    have hc_ : kLackP (mw μ) (μ 15) (K 2) d0 = 0 := ((lk_lackY hK d0).1).symm.trans hk0
    have hve_ := ((lk_lackY hK d0).2 hc_).1
    have hlk_ := hK
    exact g_iretW hC hr dL_lackPower_5 hS (Nat.le_of_ble_eq_true rfl) (Nat.le_of_ble_eq_true rfl) (Or.inl ⟨hc_, hval.trans hve_, ⟨α, ξ, M, N, hRB, rfl, hlk_, hn2⟩⟩)
theorem Z_lackDepth : Cond.initialized yL_lackDepth.cls ∈ lw_tbl ∧ Cond.codeWith yL_lackDepth cL_lackDepth 3 (some .int) [(0, 5, 6, 22), (0, 5, 10, 72)] ∈ lw_tbl ∧ (yL_lackDepth.cls ≠ "java/lang/invoke/MethodHandle" ∧ yL_lackDepth.cls ≠ "java/lang/invoke/VarHandle" ∧ (parseMethodDescriptor yL_lackDepth.desc).map (fun d => d.parameters.length) = some 2) ∧ Cond.static yL_lackDepth ∈ lw_tbl := ⟨k_0, k_931, by decide +kernel, k_930⟩
set_option maxHeartbeats 4000000 in
set_option maxRecDepth 100000 in
theorem w_lackDepth {l : Launch} {E : gV} (hE : gOK l E) {nb oa n : Nat} {μ : F2} {K : Nat → Nat} (d0 : Int32) : gMH l E yL_lackDepth cL_lackDepth 3 (some .int) [(0, 5, 6, 22), (0, 5, 10, 72)] ({ frames := 10, cells := 2, slots := 12, locals := 183 } : Room) [.ref oa, .int d0] (fun H => SI E nb oa μ K n H) (gQW (gAB E (nB nb)) (gWi (fun r H => wP E nb oa μ K n (kLackP (mw μ) (μ 15) (K 2) d0) (μ) (K) (n) (fun r => r = μ 16 (ix d0)) r H))) (fun _ => False) (gAB E (nB nb)) := by
  refine gMH_body hE (by decide +kernel) (Nat.le_of_ble_eq_true rfl) k_931 ?_
  intro p_ e_ s m args below meth c hC ht hr hP ls hl
  have hx := hC.2.2.1
  have hb := hC.2.2.2.1
  obtain ⟨α, ξ, M, N, hRB, ha, hK, hn2⟩ := hP
  subst ha
  have hl : lv_has ls 3 [(0, .ref (α 3 0)), (1, .int d0)] := hl
  have hR := hRB.1
  have hS : va_S (gAB E (nB nb)) s.heap s.heap [] := va_S.rf
  refine lv_aload_n hx hb dL_lackDepth_0 rfl (lv_at hl 0 rfl) ?_
  refine lv_iload_n hx hb dL_lackDepth_1 rfl (lv_at hl 1 rfl) ?_
  refine g_cRi (k2 := 2) (n2 := 12) (g_runV (rest := []) hC (c_X4_lackDepth hE (α := α) (ξ := ξ) (M := M) (N := N) d0) Y_X4_lackDepth k_932 I_X4_lackDepth V_X4_lackDepth hRB.1.sig rfl hR rfl hl.1 dL_lackDepth_2 ⟨Nat.le_of_ble_eq_true rfl, Nat.le_of_ble_eq_true rfl⟩ ⟨Nat.le_of_ble_eq_true rfl, Nat.le_of_ble_eq_true rfl⟩ rfl (Nat.le_of_ble_eq_true rfl)) rfl rfl (fun X ce q H hpx hz_ ho_ hq hv hcl => ?_) (fun r hw => ?_)
  · have hRB := hRB.keep hz_ ho_
    have hS : va_S (gAB E (nB nb)) s.heap H [] := ⟨hz_, fun q h1 _ => ho_ q h1, fun z hz => nomatch hz⟩
    obtain ⟨i_, hi_, hkc_⟩ := hpx
    rcases i_ with _ | _ | i_
    · have hX_ : "java/lang/IndexOutOfBoundsException" = X := Option.some.inj hi_
      subst hX_
      refine vx_catch (own := "SignatoryLaw") (name := "java/lang/IndexOutOfBoundsException") hC.2.2.2.2.2.1 [] ⟨0, 5, 6, 22⟩ [⟨0, 5, 10, 72⟩] (by rw [ht]; rfl) (fun z hz => nomatch hz) rfl (by decide) (gw hC.1 hC.2.1 k_30 rfl) (va_Nw.use rfl (va_Nw.warmC hC.2.1 (va_Nw.of rfl (hC.1.2.1 _ k_46)))) hq hv hcl ?_
      refine lv_astore_n (lv' := [(2, .ref q), (0, .ref (α 3 0)), (1, .int d0)]) hx hb dL_lackDepth_6 rfl hl (by decide) rfl (fun ls hl => ?_)
      refine lv_ldc (own := "SignatoryLaw") (v := -900001) hx hb hC.2.2.2.2.2.1 (gw hC.1 hC.2.1 k_244 rfl) dL_lackDepth_7 ?_
      exact g_iretW hC hr dL_lackDepth_9 hS (Nat.le_of_ble_eq_true rfl) (Nat.le_of_ble_eq_true rfl) (Or.inr ⟨0, ((lk_lackY hK d0).1).symm.trans hkc_, rfl, ⟨α, ξ, M, N, hRB, rfl, hK, hn2⟩⟩)
    · have hX_ : "java/util/NoSuchElementException" = X := Option.some.inj hi_
      subst hX_
      refine vx_catch (own := "SignatoryLaw") (name := "java/util/NoSuchElementException") hC.2.2.2.2.2.1 [⟨0, 5, 6, 22⟩] ⟨0, 5, 10, 72⟩ [] (by rw [ht]; rfl) (List.forall_mem_cons.mpr ⟨Or.inr ⟨by decide, "java/lang/IndexOutOfBoundsException", gw hC.1 hC.2.1 k_30 rfl, va_Nc.moved hC.2.1.alike (va_Nc.of (flat_of_before _ hC.1.2.2.1 _ nc_NSE_IOO))⟩, (fun z hz => nomatch hz)⟩) rfl (by decide) (gw hC.1 hC.2.1 k_603 rfl) (va_Nw.use rfl (va_Nw.warmC hC.2.1 (va_Nw.of rfl (hC.1.2.1 _ k_610)))) hq hv hcl ?_
      refine lv_astore_n (lv' := [(2, .ref q), (0, .ref (α 3 0)), (1, .int d0)]) hx hb dL_lackDepth_10 rfl hl (by decide) rfl (fun ls hl => ?_)
      refine lv_ldc (own := "SignatoryLaw") (v := -900002) hx hb hC.2.2.2.2.2.1 (gw hC.1 hC.2.1 k_245 rfl) dL_lackDepth_11 ?_
      exact g_iretW hC hr dL_lackDepth_13 hS (Nat.le_of_ble_eq_true rfl) (Nat.le_of_ble_eq_true rfl) (Or.inr ⟨1, ((lk_lackY hK d0).1).symm.trans hkc_, rfl, ⟨α, ξ, M, N, hRB, rfl, hK, hn2⟩⟩)
    · exact absurd (show (none : Option String) = some X from hi_) (by simp)
  · obtain ⟨hk0, hval⟩ := hw
    have hc_ : kLackP (mw μ) (μ 15) (K 2) d0 = 0 := ((lk_lackY hK d0).1).symm.trans hk0
    have hve_ := ((lk_lackY hK d0).2 hc_).2
    have hlk_ := hK
    exact g_iretW hC hr dL_lackDepth_5 hS (Nat.le_of_ble_eq_true rfl) (Nat.le_of_ble_eq_true rfl) (Or.inl ⟨hc_, hval.trans hve_, ⟨α, ξ, M, N, hRB, rfl, hlk_, hn2⟩⟩)
theorem Z_setWindow : Cond.initialized yL_setWindow.cls ∈ lw_tbl ∧ Cond.codeWith yL_setWindow cL_setWindow 3 (some .int) [(0, 5, 6, 24)] ∈ lw_tbl ∧ (yL_setWindow.cls ≠ "java/lang/invoke/MethodHandle" ∧ yL_setWindow.cls ≠ "java/lang/invoke/VarHandle" ∧ (parseMethodDescriptor yL_setWindow.desc).map (fun d => d.parameters.length) = some 2) ∧ Cond.static yL_setWindow ∈ lw_tbl := ⟨k_0, k_626, by decide +kernel, k_625⟩
set_option maxHeartbeats 4000000 in
set_option maxRecDepth 100000 in
theorem w_setWindow {l : Launch} {E : gV} (hE : gOK l E) {nb oa n : Nat} {μ : F2} {K : Nat → Nat} (d0 : Int32) (hn : n < 512) : gMH l E yL_setWindow cL_setWindow 3 (some .int) [(0, 5, 6, 24)] ({ frames := 11, cells := 4, slots := 1030, locals := 277 } : Room) [.ref oa, .int d0] (fun H => SI E nb oa μ K n H) (gQW (gAB E (nB nb)) (gWi (fun r H => wP E nb oa μ K n (kWin d0) (up2 μ 23 0 d0) (K) (n + 1) (fun r => r = μ 23 0) r H))) (fun _ => False) (gAB E (nB nb)) := by
  refine gMH_body hE (by decide +kernel) (Nat.le_of_ble_eq_true rfl) k_626 ?_
  intro p_ e_ s m args below meth c hC ht hr hP ls hl
  have hx := hC.2.2.1
  have hb := hC.2.2.2.1
  obtain ⟨α, ξ, M, N, hRB, ha, hK, hn2⟩ := hP
  subst ha
  have hl : lv_has ls 3 [(0, .ref (α 3 0)), (1, .int d0)] := hl
  have hR := hRB.1
  have hS : va_S (gAB E (nB nb)) s.heap s.heap [] := va_S.rf
  refine lv_aload_n hx hb dL_setWindow_0 rfl (lv_at hl 0 rfl) ?_
  refine lv_iload_n hx hb dL_setWindow_1 rfl (lv_at hl 1 rfl) ?_
  refine g_cXi (k2 := 4) (n2 := 1030) (g_runV (rest := []) hC (c_X4_setWindow hE (α := α) (ξ := ξ) (M := M) (N := N) (B := nB nb) d0 (by omega)) Y_X4_setWindow k_627 I_X4_setWindow V_X4_setWindow hRB.1.sig rfl hRB rfl hl.1 dL_setWindow_2 ⟨Nat.le_of_ble_eq_true rfl, Nat.le_of_ble_eq_true rfl⟩ ⟨Nat.le_of_ble_eq_true rfl, Nat.le_of_ble_eq_true rfl⟩ rfl (Nat.le_of_ble_eq_true rfl)) hS (fun _ h => h) rfl rfl (fun X ce q H lo hpx hz_ ho_ hS hq hv hcl => ?_) (fun r H lo hw hz_ hk_ hS => ?_)
  · have hRB := hRB.keep hz_ ho_
    obtain ⟨i_, hi_, hkc_⟩ := hpx
    rcases i_ with _ | i_
    · have hX_ : "java/lang/IllegalArgumentException" = X := Option.some.inj hi_
      subst hX_
      refine vx_catch (own := "SignatoryLaw") (name := "java/lang/IllegalArgumentException") hC.2.2.2.2.2.1 [] ⟨0, 5, 6, 24⟩ [] (by rw [ht]; rfl) (fun z hz => nomatch hz) rfl (by decide) (gw hC.1 hC.2.1 k_31 rfl) (va_Nw.use rfl (va_Nw.warmC hC.2.1 (va_Nw.of rfl (hC.1.2.1 _ k_118)))) hq hv hcl ?_
      refine lv_astore_n (lv' := [(2, .ref q), (0, .ref (α 3 0)), (1, .int d0)]) hx hb dL_setWindow_6 rfl hl (by decide) rfl (fun ls hl => ?_)
      refine lv_ldc (own := "SignatoryLaw") (v := -900001) hx hb hC.2.2.2.2.2.1 (gw hC.1 hC.2.1 k_244 rfl) dL_setWindow_7 ?_
      exact g_iretW hC hr dL_setWindow_9 hS (Nat.le_of_ble_eq_true rfl) (Nat.le_of_ble_eq_true rfl) (Or.inr ⟨0, hkc_, rfl, ⟨α, ξ, M, N, hRB, rfl, hK, hn2⟩⟩)
    · exact absurd (show (none : Option String) = some X from hi_) (by simp)
  · obtain ⟨hk0, hval, α1, M1, hRB, hm_, ha_⟩ := hw
    have hc_ : kWin d0 = 0 := hk0
    have hve_ := (lk_setWindow hK d0 hc_).1
    have hlk_ := (lk_setWindow hK d0 hc_).2
    exact g_iretW hC hr dL_setWindow_5 hS (Nat.le_of_ble_eq_true rfl) (Nat.le_of_ble_eq_true rfl) (Or.inl ⟨hc_, hval.trans hve_, ⟨α1, _, M1, _, hRB, ha_, (by rw [hm_]; exact hlk_), (show N 2 + 1 ≤ n + 1 by omega)⟩⟩)
theorem Z_pass : Cond.initialized yL_pass.cls ∈ lw_tbl ∧ Cond.codeWith yL_pass cL_pass 3 (some .int) [(0, 5, 6, 24)] ∈ lw_tbl ∧ (yL_pass.cls ≠ "java/lang/invoke/MethodHandle" ∧ yL_pass.cls ≠ "java/lang/invoke/VarHandle" ∧ (parseMethodDescriptor yL_pass.desc).map (fun d => d.parameters.length) = some 2) ∧ Cond.static yL_pass ∈ lw_tbl := ⟨k_0, k_637, by decide +kernel, k_636⟩
set_option maxHeartbeats 4000000 in
set_option maxRecDepth 100000 in
theorem w_pass {l : Launch} {E : gV} (hE : gOK l E) {nb oa n : Nat} {μ : F2} {K : Nat → Nat} (d0 : Int32) : gMH l E yL_pass cL_pass 3 (some .int) [(0, 5, 6, 24)] ({ frames := 10, cells := 2, slots := 12, locals := 181 } : Room) [.ref oa, .int d0] (fun H => SI E nb oa μ K n H) (gQW (gAB E (nB nb)) (gWi (fun r H => wP E nb oa μ K n (kPass (μ 22 0) d0) (up2 μ 22 0 (μ 22 0 + d0)) (K) (n) (fun r => r = μ 22 0 + d0) r H))) (fun _ => False) (gAB E (nB nb)) := by
  refine gMH_body hE (by decide +kernel) (Nat.le_of_ble_eq_true rfl) k_637 ?_
  intro p_ e_ s m args below meth c hC ht hr hP ls hl
  have hx := hC.2.2.1
  have hb := hC.2.2.2.1
  obtain ⟨α, ξ, M, N, hRB, ha, hK, hn2⟩ := hP
  subst ha
  have hl : lv_has ls 3 [(0, .ref (α 3 0)), (1, .int d0)] := hl
  have hR := hRB.1
  have hS : va_S (gAB E (nB nb)) s.heap s.heap [] := va_S.rf
  refine lv_aload_n hx hb dL_pass_0 rfl (lv_at hl 0 rfl) ?_
  refine lv_iload_n hx hb dL_pass_1 rfl (lv_at hl 1 rfl) ?_
  refine g_cXi (k2 := 2) (n2 := 12) (g_runV (rest := []) hC (c_X4_pass hE (α := α) (ξ := ξ) (M := M) (N := N) (B := nB nb) d0) Y_X4_pass k_638 I_X4_pass V_X4_pass hRB.1.sig rfl hRB rfl hl.1 dL_pass_2 ⟨Nat.le_of_ble_eq_true rfl, Nat.le_of_ble_eq_true rfl⟩ ⟨Nat.le_of_ble_eq_true rfl, Nat.le_of_ble_eq_true rfl⟩ rfl (Nat.le_of_ble_eq_true rfl)) hS (fun _ h => h) rfl rfl (fun X ce q H lo hpx hz_ ho_ hS hq hv hcl => ?_) (fun r H lo hw hz_ hk_ hS => ?_)
  · have hRB := hRB.keep hz_ ho_
    obtain ⟨i_, hi_, hkc_⟩ := hpx
    rcases i_ with _ | i_
    · have hX_ : "java/lang/IllegalArgumentException" = X := Option.some.inj hi_
      subst hX_
      refine vx_catch (own := "SignatoryLaw") (name := "java/lang/IllegalArgumentException") hC.2.2.2.2.2.1 [] ⟨0, 5, 6, 24⟩ [] (by rw [ht]; rfl) (fun z hz => nomatch hz) rfl (by decide) (gw hC.1 hC.2.1 k_31 rfl) (va_Nw.use rfl (va_Nw.warmC hC.2.1 (va_Nw.of rfl (hC.1.2.1 _ k_118)))) hq hv hcl ?_
      refine lv_astore_n (lv' := [(2, .ref q), (0, .ref (α 3 0)), (1, .int d0)]) hx hb dL_pass_6 rfl hl (by decide) rfl (fun ls hl => ?_)
      refine lv_ldc (own := "SignatoryLaw") (v := -900001) hx hb hC.2.2.2.2.2.1 (gw hC.1 hC.2.1 k_244 rfl) dL_pass_7 ?_
      exact g_iretW hC hr dL_pass_9 hS (Nat.le_of_ble_eq_true rfl) (Nat.le_of_ble_eq_true rfl) (Or.inr ⟨0, ((lk_pass hK d0).1).symm.trans hkc_, rfl, ⟨α, ξ, M, N, hRB, rfl, hK, hn2⟩⟩)
    · exact absurd (show (none : Option String) = some X from hi_) (by simp)
  · obtain ⟨hk0, hval, α1, M1, hRB, hm_, ha_⟩ := hw
    have hc_ : kPass (μ 22 0) d0 = 0 := ((lk_pass hK d0).1).symm.trans hk0
    have hve_ := ((lk_pass hK d0).2 hc_).1
    have hlk_ := ((lk_pass hK d0).2 hc_).2
    exact g_iretW hC hr dL_pass_5 hS (Nat.le_of_ble_eq_true rfl) (Nat.le_of_ble_eq_true rfl) (Or.inl ⟨hc_, hval.trans hve_, ⟨α1, _, M1, _, hRB, ha_, (by rw [hm_]; exact hlk_), hn2⟩⟩)
theorem Z_standingShare : Cond.initialized yL_standingShare.cls ∈ lw_tbl ∧ Cond.codeWith yL_standingShare cL_standingShare 2 (some .float) [(0, 4, 5, 72)] ∈ lw_tbl ∧ (yL_standingShare.cls ≠ "java/lang/invoke/MethodHandle" ∧ yL_standingShare.cls ≠ "java/lang/invoke/VarHandle" ∧ (parseMethodDescriptor yL_standingShare.desc).map (fun d => d.parameters.length) = some 1) ∧ Cond.static yL_standingShare ∈ lw_tbl := ⟨k_0, k_945, by decide +kernel, k_944⟩
set_option maxHeartbeats 4000000 in
set_option maxRecDepth 100000 in
theorem w_standingShare {l : Launch} {E : gV} (hE : gOK l E) {nb oa n : Nat} {μ : F2} {K : Nat → Nat}  : gMH l E yL_standingShare cL_standingShare 2 (some .float) [(0, 4, 5, 72)] ({ frames := 9, cells := 1, slots := 6, locals := 163 } : Room) [.ref oa] (fun H => SI E nb oa μ K n H) (gQW (gAB E (nB nb)) (gWf (fun r H => wPs E nb oa μ K n r H))) (fun _ => False) (gAB E (nB nb)) := by
  refine gMH_body hE (by decide +kernel) (Nat.le_of_ble_eq_true rfl) k_945 ?_
  intro p_ e_ s m args below meth c hC ht hr hP ls hl
  have hx := hC.2.2.1
  have hb := hC.2.2.2.1
  obtain ⟨α, ξ, M, N, hRB, ha, hK, hn2⟩ := hP
  subst ha
  have hl : lv_has ls 2 [(0, .ref (α 3 0))] := hl
  have hR := hRB.1
  have hS : va_S (gAB E (nB nb)) s.heap s.heap [] := va_S.rf
  obtain ⟨hN0, hN1, hN2, hN3, -, hHo, hDe⟩ := hR.inv
  refine lv_aload_n hx hb dL_standingShare_0 rfl (lv_at hl 0 rfl) ?_
  refine g_cRf (k2 := 1) (n2 := 6) (g_runV (rest := []) hC (c_X4_standingShare hE (α := α) (ξ := ξ) (M := M) (N := N) ) Y_X4_standingShare k_946 I_X4_standingShare V_X4_standingShare hRB.1.sig rfl hR rfl hl.1 dL_standingShare_1 ⟨Nat.le_of_ble_eq_true rfl, Nat.le_of_ble_eq_true rfl⟩ ⟨Nat.le_of_ble_eq_true rfl, Nat.le_of_ble_eq_true rfl⟩ rfl (Nat.le_of_ble_eq_true rfl)) rfl rfl (fun X ce q H hpx hz_ ho_ hq hv hcl => ?_) (fun r hw => ?_)
  · have hRB := hRB.keep hz_ ho_
    have hS : va_S (gAB E (nB nb)) s.heap H [] := ⟨hz_, fun q h1 _ => ho_ q h1, fun z hz => nomatch hz⟩
    obtain ⟨i_, hi_, hkc_⟩ := hpx
    rcases i_ with _ | i_
    · have hX_ : "java/util/NoSuchElementException" = X := Option.some.inj hi_
      subst hX_
      refine vx_catch (own := "SignatoryLaw") (name := "java/util/NoSuchElementException") hC.2.2.2.2.2.1 [] ⟨0, 4, 5, 72⟩ [] (by rw [ht]; rfl) (fun z hz => nomatch hz) rfl (by decide) (gw hC.1 hC.2.1 k_603 rfl) (va_Nw.use rfl (va_Nw.warmC hC.2.1 (va_Nw.of rfl (hC.1.2.1 _ k_610)))) hq hv hcl ?_
      refine lv_astore_n (lv' := [(1, .ref q), (0, .ref (α 3 0))]) hx hb dL_standingShare_5 rfl hl (by decide) rfl (fun ls hl => ?_)
      refine lv_ldcf (own := "SignatoryLaw") (v := 3378231824) hx hb hC.2.2.2.2.2.1 (gw hC.1 hC.2.1 k_951 rfl) dL_standingShare_6 ?_
      exact g_fretW hC hr dL_standingShare_8 hS (Nat.le_of_ble_eq_true rfl) (Nat.le_of_ble_eq_true rfl) (Or.inr ⟨((lk_share hK).1).symm.trans hkc_, rfl, ⟨α, ξ, M, N, hRB, rfl, hK, hn2⟩⟩)
    · exact absurd (show (none : Option String) = some X from hi_) (by simp)
  · obtain ⟨hk0, hval⟩ := hw
    have hc_ : kShare (K 2) = 0 := ((lk_share hK).1).symm.trans hk0
    have hlk_ := hK
    exact g_fretW hC hr dL_standingShare_4 hS (Nat.le_of_ble_eq_true rfl) (Nat.le_of_ble_eq_true rfl) (Or.inl ⟨hc_, hval.trans (lk_share hK).2, ⟨α, ξ, M, N, hRB, rfl, hlk_, hn2⟩⟩)
theorem Z_stands : Cond.initialized yL_stands.cls ∈ lw_tbl ∧ Cond.codeWith yL_stands cL_stands 3 (some .int) [(0, 13, 14, 22)] ∈ lw_tbl ∧ (yL_stands.cls ≠ "java/lang/invoke/MethodHandle" ∧ yL_stands.cls ≠ "java/lang/invoke/VarHandle" ∧ (parseMethodDescriptor yL_stands.desc).map (fun d => d.parameters.length) = some 2) ∧ Cond.static yL_stands ∈ lw_tbl := ⟨k_0, k_645, by decide +kernel, k_644⟩
set_option maxHeartbeats 4000000 in
set_option maxRecDepth 100000 in
theorem w_stands {l : Launch} {E : gV} (hE : gOK l E) {nb oa n : Nat} {μ : F2} {K : Nat → Nat} (d0 : Int32) : gMH l E yL_stands cL_stands 3 (some .int) [(0, 13, 14, 22)] ({ frames := 10, cells := 1, slots := 6, locals := 182 } : Room) [.ref oa, .int d0] (fun H => SI E nb oa μ K n H) (gQW (gAB E (nB nb)) (gWi (fun r H => wP E nb oa μ K n (kPow (K 2) d0) (μ) (K) (n) (fun r => bz (μ 17 (ix d0) = 115 ∨ μ 17 (ix d0) = 114) r) r H))) (fun _ => False) (gAB E (nB nb)) := by
  refine gMH_body hE (by decide +kernel) (Nat.le_of_ble_eq_true rfl) k_645 ?_
  intro p_ e_ s m args below meth c hC ht hr hP ls hl
  have hx := hC.2.2.1
  have hb := hC.2.2.2.1
  obtain ⟨α, ξ, M, N, hRB, ha, hK, hn2⟩ := hP
  subst ha
  have hl : lv_has ls 3 [(0, .ref (α 3 0)), (1, .int d0)] := hl
  have hR := hRB.1
  have hS : va_S (gAB E (nB nb)) s.heap s.heap [] := va_S.rf
  refine lv_aload_n hx hb dL_stands_0 rfl (lv_at hl 0 rfl) ?_
  refine lv_iload_n hx hb dL_stands_1 rfl (lv_at hl 1 rfl) ?_
  refine g_cRi (k2 := 1) (n2 := 6) (g_runV (rest := []) hC (c_X4_stands hE (α := α) (ξ := ξ) (M := M) (N := N) d0) Y_X4_stands k_646 I_X4_stands V_X4_stands hRB.1.sig rfl hR rfl hl.1 dL_stands_2 ⟨Nat.le_of_ble_eq_true rfl, Nat.le_of_ble_eq_true rfl⟩ ⟨Nat.le_of_ble_eq_true rfl, Nat.le_of_ble_eq_true rfl⟩ rfl (Nat.le_of_ble_eq_true rfl)) rfl rfl (fun X ce q H hpx hz_ ho_ hq hv hcl => ?_) (fun r hw => ?_)
  · have hRB := hRB.keep hz_ ho_
    have hS : va_S (gAB E (nB nb)) s.heap H [] := ⟨hz_, fun q h1 _ => ho_ q h1, fun z hz => nomatch hz⟩
    obtain ⟨i_, hi_, hkc_⟩ := hpx
    rcases i_ with _ | i_
    · have hX_ : "java/lang/IndexOutOfBoundsException" = X := Option.some.inj hi_
      subst hX_
      refine vx_catch (own := "SignatoryLaw") (name := "java/lang/IndexOutOfBoundsException") hC.2.2.2.2.2.1 [] ⟨0, 13, 14, 22⟩ [] (by rw [ht]; rfl) (fun z hz => nomatch hz) rfl (by decide) (gw hC.1 hC.2.1 k_30 rfl) (va_Nw.use rfl (va_Nw.warmC hC.2.1 (va_Nw.of rfl (hC.1.2.1 _ k_46)))) hq hv hcl ?_
      refine lv_astore_n (lv' := [(2, .ref q), (0, .ref (α 3 0)), (1, .int d0)]) hx hb dL_stands_14 rfl hl (by decide) rfl (fun ls hl => ?_)
      refine lv_ldc (own := "SignatoryLaw") (v := -900001) hx hb hC.2.2.2.2.2.1 (gw hC.1 hC.2.1 k_244 rfl) dL_stands_15 ?_
      exact g_iretW hC hr dL_stands_17 hS (Nat.le_of_ble_eq_true rfl) (Nat.le_of_ble_eq_true rfl) (Or.inr ⟨0, ((lk_stands hK d0).1).symm.trans hkc_, rfl, ⟨α, ξ, M, N, hRB, rfl, hK, hn2⟩⟩)
    · exact absurd (show (none : Option String) = some X from hi_) (by simp)
  · obtain ⟨hk0, hval⟩ := hw
    have hc_ : kPow (K 2) d0 = 0 := ((lk_stands hK d0).1).symm.trans hk0
    have hve_ := ((lk_stands hK d0).2 hc_)
    have hlk_ := hK
    refine lv_if_eq (tgt := 12) hx hb dL_stands_5 (by decide) (fun c1_ => ?_) (fun c1_ => ?_)
    · refine lv_iconst (v := 0) hx hb dL_stands_12 (by decide) ?_
      exact g_iretW hC hr dL_stands_13 hS (Nat.le_of_ble_eq_true rfl) (Nat.le_of_ble_eq_true rfl) (Or.inl ⟨hc_, bz_0 (fun z => bz.f hval c1_ (hve_.mpr z)), ⟨α, ξ, M, N, hRB, rfl, hlk_, hn2⟩⟩)
    · refine lv_iconst (v := 1) hx hb dL_stands_8 (by decide) ?_
      refine lv_goto (tgt := 13) hx hb dL_stands_9 (by decide) ?_
      exact g_iretW hC hr dL_stands_13 hS (Nat.le_of_ble_eq_true rfl) (Nat.le_of_ble_eq_true rfl) (Or.inl ⟨hc_, bz_1 (hve_.mp (bz.t hval c1_)), ⟨α, ξ, M, N, hRB, rfl, hlk_, hn2⟩⟩)
