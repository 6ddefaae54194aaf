set_option maxHeartbeats 4000000 in
set_option maxRecDepth 100000 in
theorem c_J8_newLength_cabcc {l : Launch} {E : gV} (hE : gOK l E)  (c0 : Nat) (h0 : 0 < c0) (h1 : c0 ≤ 1000) : gM l E yJ8_newLength_cabcc cJ8_newLength_cabcc 4 (some .int) ({ frames := 1, cells := 0, slots := 0, locals := 100 } : Room) [.int (nI c0), .int 1, .int (nI (c0 / 2))] (fun H => True) (gQR (gPi (fun r => r = nI (c0 + max 1 (c0 / 2))))) (fun _ => False) gN := by
  refine gM_body hE (by decide +kernel) (Nat.le_of_ble_eq_true rfl) ?_
  intro p_ e_ s m args below meth c hC ht hr hname hP ls hl
  have hx := hC.2.2.1
  have hb := hC.2.2.2.1
  have hl : lv_has ls 4 [(0, .int (nI c0)), (1, .int 1), (2, .int (nI (c0 / 2)))] := hl
  refine lv_iload_n hx hb dJ8_newLength_cabcc_0 rfl (lv_at hl 0 rfl) ?_
  refine lv_iload_n hx hb dJ8_newLength_cabcc_1 rfl (lv_at hl 1 rfl) ?_
  refine lv_iload_n hx hb dJ8_newLength_cabcc_2 rfl (lv_at hl 2 rfl) ?_
  refine va_mmax (own := "jdk/internal/util/ArraysSupport") (index := 194) (rest := [.int (nI c0)]) hx hb (hC.2.2.2.2.1.trans hl.1.symm) hC.2.2.2.2.2.1 (gw hC.1 hC.2.1 k_201 rfl) (gw hC.1 hC.2.1 k_202 rfl) (gw hC.1 hC.2.1 k_10 rfl) (gw hC.1 hC.2.1 k_203 rfl) (Nat.le_of_ble_eq_true rfl) (Nat.le_of_ble_eq_true rfl) (Nat.le_of_ble_eq_true rfl) (Nat.le_of_ble_eq_true rfl) dJ8_newLength_cabcc_3 ?_
  rw [show (if 1 < nI (c0 / 2) then nI (c0 / 2) else 1) = nI (max 1 (c0 / 2)) from mx_1 (by omega)]
  refine lv_iadd hx hb dJ8_newLength_cabcc_6 ?_
  rw [nI_addI]
  refine lv_istore_n (lv' := [(3, .int (nI (c0 + max 1 (c0 / 2)))), (0, .int (nI c0)), (1, .int 1), (2, .int (nI (c0 / 2)))]) hx hb dJ8_newLength_cabcc_7 rfl hl (by decide) rfl (fun ls hl => ?_)
  refine lv_iconst (v := 0) hx hb dJ8_newLength_cabcc_8 (by decide) ?_
  refine lv_iload_n hx hb dJ8_newLength_cabcc_9 rfl (lv_at hl 0 rfl) ?_
  refine lv_icmp_ge (tgt := 21) hx hb dJ8_newLength_cabcc_10 (by decide) (fun c1_ => ?_) (fun c1_ => ?_)
  · exact absurd (nI_lt (show 0 < c0 + max 1 (c0 / 2) by omega) (by omega)) (Int32.not_lt.mpr c1_)
  · refine lv_iload_n hx hb dJ8_newLength_cabcc_13 rfl (lv_at hl 0 rfl) ?_
    refine lv_ldc (own := "jdk/internal/util/ArraysSupport") (v := 2147483639) hx hb hC.2.2.2.2.2.1 (gw hC.1 hC.2.1 k_204 rfl) dJ8_newLength_cabcc_14 ?_
    refine lv_icmp_gt (tgt := 21) hx hb dJ8_newLength_cabcc_16 (by decide) (fun c2_ => ?_) (fun c2_ => ?_)
    · exact absurd (show nI (c0 + max 1 (c0 / 2)) < 2147483639 from nI_lt (b := 2147483639) (by omega) (by omega)) (Int32.not_lt.mpr (Int32.le_of_lt c2_))
    · refine lv_iload_n hx hb dJ8_newLength_cabcc_19 rfl (lv_at hl 0 rfl) ?_
      exact g_iret hC hr dJ8_newLength_cabcc_20 (Nat.le_of_ble_eq_true rfl) (Nat.le_of_ble_eq_true rfl) rfl
set_option maxHeartbeats 4000000 in
set_option maxRecDepth 100000 in
theorem c_J7_copyOf_6403c {l : Launch} {E : gV} (hE : gOK l E)  (t n c2 sz mi : Nat) (f : Nat → Option Nat) (hn : n ≤ c2) (hc2 : c2 ≤ 1000) (hmi : va_Mi "[Ljava/lang/Object;" mi E.2.1) : gM l E yJ7_copyOf_6403c cJ7_copyOf_6403c 4 (some (.array (.object "java/lang/Object"))) ({ frames := 1, cells := 1, slots := 1000, locals := 100 } : Room) [.ref t, .int (nI c2), .ref mi] (fun H => H.size = sz ∧ gA E t (gQ E n f) H ∧ ∀ i, i < n → ∀ y, f i = some y → gO E y H) (gQW (fun q => q = t ∨ sz ≤ q) (gWr (fun r H => sz ≤ r ∧ gA E r (gQ E c2 (va_cpy f (fun _ => none) 0 0 n)) H ∧ gA E t (gQ E n f) H))) (fun _ => False) (fun q => q = t ∨ sz ≤ q) := by
  refine gM_body hE (by decide +kernel) (Nat.le_of_ble_eq_true rfl) ?_
  intro p_ e_ s m args below meth c hC ht hr hname hP ls hl
  have hx := hC.2.2.1
  have hb := hC.2.2.2.1
  have hl : lv_has ls 4 [(0, .ref t), (1, .int (nI c2)), (2, .ref mi)] := hl
  have hS : va_S ((fun q => q = t ∨ sz ≤ q)) s.heap s.heap [] := va_S.rf
  obtain ⟨hsz, hT, hel⟩ := (show s.heap.size = sz ∧ gA E t (gQ E n f) s.heap ∧ ∀ i, i < n → ∀ y, f i = some y → gO E y s.heap from hP)
  have hAn : ∀ q, s.heap.size ≤ q → q = t ∨ sz ≤ q := fun q hq => Or.inr (by omega)
  refine lv_aload_n hx hb dJ7_copyOf_6403c_0 rfl (lv_at hl 2 rfl) ?_
  refine va_ldcM (own := "java/util/Arrays") hx hb hC.2.2.2.2.2.1 (gw hC.1 hC.2.1 k_229 rfl) (va_Mi.moved hC.2.1.alike hmi) dJ7_copyOf_6403c_1 ?_
  refine W.eq (g2 := F0 m 3 ls (va_rf (some (mi)) :: va_rf (some (mi)) :: [])) rfl ?_
  refine lv_acmp_ne (tgt := 13) hx hb dJ7_copyOf_6403c_3 (by decide) (fun c1_ => ?_) (fun c1_ => ?_)
  · exact absurd rfl c1_
  · refine lv_iload_n hx hb dJ7_copyOf_6403c_6 rfl (lv_at hl 1 rfl) ?_
    refine g_newq (S := 1000) hC k_231 hc2 (by decide) hS hAn (Nat.le_of_ble_eq_true rfl) (Nat.le_of_ble_eq_true rfl) dJ7_copyOf_6403c_7 (fun H hN hz_ ho_ hS => ?_)
    have htl := hT.lt
    have hne : t ≠ s.heap.size := by omega
    have hT := hT.kept (ho_ t htl)
    have hel : ∀ i, i < n → ∀ y, f i = some y → gO E y H := fun i hi y hy => (hel i hi y hy).kept (ho_ y (hel i hi y hy).lt)
    refine lv_goto (tgt := 24) hx hb dJ7_copyOf_6403c_10 (by decide) ?_
    refine lv_astore_n (lv' := [(3, .ref s.heap.size), (0, .ref t), (1, .int (nI c2)), (2, .ref mi)]) hx hb dJ7_copyOf_6403c_24 rfl hl (by decide) rfl (fun ls hl => ?_)
    refine lv_aload_n hx hb dJ7_copyOf_6403c_25 rfl (lv_at hl 1 rfl) ?_
    refine lv_iconst (v := 0) hx hb dJ7_copyOf_6403c_26 (by decide) ?_
    refine lv_aload_n hx hb dJ7_copyOf_6403c_27 rfl (lv_at hl 0 rfl) ?_
    refine lv_iconst (v := 0) hx hb dJ7_copyOf_6403c_28 (by decide) ?_
    refine lv_aload_n hx hb dJ7_copyOf_6403c_29 rfl (lv_at hl 1 rfl) ?_
    refine g_alen 3 hC hT rfl dJ7_copyOf_6403c_30 ?_
    refine lv_iload_n hx hb dJ7_copyOf_6403c_31 rfl (lv_at hl 2 rfl) ?_
    refine va_mmin (own := "java/util/Arrays") (index := 304) (rest := [.int 0, .ref s.heap.size, .int 0, .ref t]) hx hb (hC.2.2.2.2.1.trans hl.1.symm) hC.2.2.2.2.2.1 (gw hC.1 hC.2.1 k_232 rfl) (gw hC.1 hC.2.1 k_233 rfl) (gw hC.1 hC.2.1 k_10 rfl) (gw hC.1 hC.2.1 k_234 rfl) (Nat.le_of_ble_eq_true rfl) (Nat.le_of_ble_eq_true rfl) (Nat.le_of_ble_eq_true rfl) (Nat.le_of_ble_eq_true rfl) dJ7_copyOf_6403c_32 ?_
    rw [show (if nI c2 < nI n then nI c2 else nI n) = nI n from mn_le hn (by omega)]
    refine g_copyq (rest := []) hC hl.1 k_235 hT hN hne (Or.inl rfl) (Or.inr (by omega)) (fun i hi y hy => (hel i hi y hy).any hC) (Nat.le_refl _) hn (by omega) hS (Nat.le_of_ble_eq_true rfl) (by decide +kernel) dJ7_copyOf_6403c_35 (fun H lo hT hN hS => ?_)
    refine lv_aload_n hx hb dJ7_copyOf_6403c_38 rfl (lv_at hl 0 rfl) ?_
    exact g_aretW hC hr (Or.inr ⟨_, rfl⟩) dJ7_copyOf_6403c_39 hS (Nat.le_of_ble_eq_true rfl) (Nat.le_of_ble_eq_true rfl) ⟨by omega, hN, hT⟩
set_option maxHeartbeats 4000000 in
set_option maxRecDepth 100000 in
theorem c_J7_copyOf_1904c {l : Launch} {E : gV} (hE : gOK l E)  (t n c2 sz : Nat) (f : Nat → Option Nat) (hn : n ≤ c2) (hc2 : c2 ≤ 1000) : gM l E yJ7_copyOf_1904c cJ7_copyOf_1904c 2 (some (.array (.object "java/lang/Object"))) ({ frames := 2, cells := 1, slots := 1000, locals := 123 } : Room) [.ref t, .int (nI c2)] (fun H => H.size = sz ∧ gA E t (gQ E n f) H ∧ ∀ i, i < n → ∀ y, f i = some y → gO E y H) (gQW (fun q => q = t ∨ sz ≤ q) (gWr (fun r H => sz ≤ r ∧ gA E r (gQ E c2 (va_cpy f (fun _ => none) 0 0 n)) H ∧ gA E t (gQ E n f) H))) (fun _ => False) (fun q => q = t ∨ sz ≤ q) := by
  refine gM_body hE (by decide +kernel) (Nat.le_of_ble_eq_true rfl) ?_
  intro p_ e_ s m args below meth c hC ht hr hname hP ls hl
  have hx := hC.2.2.1
  have hb := hC.2.2.2.1
  have hl : lv_has ls 2 [(0, .ref t), (1, .int (nI c2))] := hl
  have hS : va_S ((fun q => q = t ∨ sz ≤ q)) s.heap s.heap [] := va_S.rf
  obtain ⟨hsz, hT, hel⟩ := (show s.heap.size = sz ∧ gA E t (gQ E n f) s.heap ∧ ∀ i, i < n → ∀ y, f i = some y → gO E y s.heap from hP)
  have hAn : ∀ q, s.heap.size ≤ q → q = t ∨ sz ≤ q := fun q hq => Or.inr (by omega)
  obtain ⟨mi, hmi⟩ := g_mir hE
  refine lv_aload_n hx hb dJ7_copyOf_1904c_0 rfl (lv_at hl 0 rfl) ?_
  refine lv_iload_n hx hb dJ7_copyOf_1904c_1 rfl (lv_at hl 1 rfl) ?_
  refine lv_aload_n hx hb dJ7_copyOf_1904c_2 rfl (lv_at hl 0 rfl) ?_
  refine g_getCq hC hl.1 hmi hT k_211 (Nat.le_of_ble_eq_true rfl) (Nat.le_of_ble_eq_true rfl) dJ7_copyOf_1904c_3 ?_
  refine g_cWr (k2 := 1) (n2 := 1000) (g_runS (rest := []) hC (c_J7_copyOf_6403c hE t n c2 sz mi f hn hc2 hmi) Y_J7_copyOf_6403c k_226 S_J7_copyOf_6403c hP rfl hl.1 dJ7_copyOf_1904c_6 ⟨Nat.le_of_ble_eq_true rfl, Nat.le_of_ble_eq_true rfl⟩ ⟨Nat.le_of_ble_eq_true rfl, Nat.le_of_ble_eq_true rfl⟩ rfl (Nat.le_of_ble_eq_true rfl)) hS (fun _ h => h) rfl rfl (fun r1_ H lo h2_ _ _ hS => ?_)
  have hr_ := h2_
  exact g_aretW hC hr (Or.inr ⟨_, rfl⟩) dJ7_copyOf_1904c_9 hS (Nat.le_of_ble_eq_true rfl) (Nat.le_of_ble_eq_true rfl) hr_
set_option maxHeartbeats 4000000 in
set_option maxRecDepth 100000 in
theorem c_Jx4a65c_grow_92f84 {l : Launch} {E : gV} (hE : gOK l E)  (a t n sz : Nat) (row : Nat → Nat) (hn : n ≤ 600) (haE : E.2.1.heap.size ≤ a) (htE : 0 < n → E.2.1.heap.size ≤ t) (hat : 0 < n → t ≠ a) : gM l E yJx4a65c_grow_92f84 cJx4a65c_grow_92f84 4 (some (.array (.object "java/lang/Object"))) ({ frames := 3, cells := 1, slots := 1000, locals := 144 } : Room) [.ref a, .int (nI (n + 1))] (fun H => (gFz E H ∧ H.size = sz) ∧ ((∃ mc : Int32, gA E a (.inr (0, [.int mc, .ref t, .int (nI n)])) H) ∧ ((n = 0 ∧ gEmp E t) ∨ ∃ f, 0 < n ∧ gA E t (gQ E n f) H ∧ ∀ i, i < n → f i = some (row i))) ∧ ∀ i, i < n → gO E (row i) H) (gQW (fun q => q = a ∨ (0 < n ∧ q = t) ∨ sz ≤ q) (gWr (fun r H => (sz ≤ r ∧ ∃ mc : Int32, gA E a (.inr (0, [.int mc, .ref r, .int (nI n)])) H) ∧ ∃ (cap : Nat) (g : Nat → Option Nat), n < cap ∧ cap ≤ 1000 ∧ gA E r (gQ E cap g) H ∧ ∀ i, i < n → g i = some (row i)))) (fun _ => False) (fun q => q = a ∨ (0 < n ∧ q = t) ∨ sz ≤ q) := by
  refine gM_body hE (by decide +kernel) (Nat.le_of_ble_eq_true rfl) ?_
  intro p_ e_ s m args below meth c hC ht hr hname hP ls hl
  have hx := hC.2.2.1
  have hb := hC.2.2.2.1
  have hl : lv_has ls 4 [(0, .ref a), (1, .int (nI (n + 1)))] := hl
  have hS : va_S ((fun q => q = a ∨ (0 < n ∧ q = t) ∨ sz ≤ q)) s.heap s.heap [] := va_S.rf
  obtain ⟨⟨hF, hsz⟩, ⟨⟨mc, hL⟩, hcs⟩, hel⟩ := hP
  have hal := hL.lt
  have hEs := hF.le
  have hAn : ∀ q, s.heap.size ≤ q → q = a ∨ (0 < n ∧ q = t) ∨ sz ≤ q := fun q hq => Or.inr (Or.inr (by omega))
  have hAE : ∀ q, (q = a ∨ (0 < n ∧ q = t) ∨ sz ≤ q) → E.2.1.heap.size ≤ q := fun q hq => hq.elim (fun z => by omega) (fun z => z.elim (fun z => by have := htE z.1; omega) (fun z => by omega))
  rcases hcs with ⟨h0, hem⟩ | ⟨f, h0, hT, hf⟩
  · refine lv_aload_n hx hb dJx4a65c_grow_92f84_0 rfl (lv_at hl 0 rfl) ?_
    refine g_get (v := .ref t) hC hL (C := RJx4a65c) (T := TJx4a65c) (N := 3) rfl uJ_in 1 (by decide) k_682 rfl dJx4a65c_grow_92f84_1 ?_
    refine g_elen hC hF hem hS (fun q hq => hAE q hq) dJx4a65c_grow_92f84_4 ?_
    refine lv_istore_n (lv' := [(2, .int 0), (0, .ref a), (1, .int (nI (n + 1)))]) hx hb dJx4a65c_grow_92f84_5 rfl hl (by decide) rfl (fun ls hl => ?_)
    refine lv_iload_n hx hb dJx4a65c_grow_92f84_6 rfl (lv_at hl 0 rfl) ?_
    refine lv_if_gt (tgt := 20) hx hb dJx4a65c_grow_92f84_7 (by decide) (fun c1_ => ?_) (fun c1_ => ?_)
    · exact absurd c1_ (by decide)
    · refine lv_aload_n hx hb dJx4a65c_grow_92f84_10 rfl (lv_at hl 1 rfl) ?_
      refine g_get (v := .ref t) hC hL (C := RJx4a65c) (T := TJx4a65c) (N := 3) rfl uJ_in 1 (by decide) k_682 rfl dJx4a65c_grow_92f84_11 ?_
      refine g_gemp (ref := "") (t := t) hC hF hem hS (fun q hq => hAE q hq) k_196 dJx4a65c_grow_92f84_14 ?_
      refine W.eq (g2 := F0 m 17 ls (va_rf (some (t)) :: va_rf (some (t)) :: [])) rfl ?_
      refine lv_acmp_eq (tgt := 45) hx hb dJx4a65c_grow_92f84_17 (by decide) (fun c2_ => ?_) (fun c2_ => ?_)
      · refine lv_aload_n hx hb dJx4a65c_grow_92f84_45 rfl (lv_at hl 1 rfl) ?_
        refine lv_bipush (v := 10) hx hb dJx4a65c_grow_92f84_46 (by decide) ?_
        refine lv_iload_n hx hb dJx4a65c_grow_92f84_48 rfl (lv_at hl 2 rfl) ?_
        refine va_mmax (own := "java/util/ArrayList") (index := 79) (rest := [.ref a]) hx hb (hC.2.2.2.2.1.trans hl.1.symm) hC.2.2.2.2.2.1 (gw hC.1 hC.2.1 k_238 rfl) (gw hC.1 hC.2.1 k_202 rfl) (gw hC.1 hC.2.1 k_10 rfl) (gw hC.1 hC.2.1 k_203 rfl) (Nat.le_of_ble_eq_true rfl) (Nat.le_of_ble_eq_true rfl) (Nat.le_of_ble_eq_true rfl) (Nat.le_of_ble_eq_true rfl) dJx4a65c_grow_92f84_49 ?_
        rw [show (if 10 < nI (n + 1) then nI (n + 1) else 10) = nI 10 from (by rw [h0]; decide)]
        refine g_newq (S := 1000) hC k_239 (by decide : 10 ≤ 1000) (by decide) hS hAn (Nat.le_of_ble_eq_true rfl) (Nat.le_of_ble_eq_true rfl) dJx4a65c_grow_92f84_52 (fun H hN hz_ ho_ hS => ?_)
        have hne : s.heap.size ≠ a := by omega
        have hL := hL.kept (ho_ a hal)
        refine lv_dup_x1 hx hb dJx4a65c_grow_92f84_55 rfl rfl ?_
        refine g_put hC hL hS (Or.inl rfl) (C := RJx4a65c) (T := TJx4a65c) (N := 3) rfl uJ_in tyJx4a65c tyJx4a65c_ok nmJx4a65c 1 (by decide) k_682 (Or.inl rfl) (tyJx4a65c_ok 1 (by decide)) rfl rfl (show 1 < 3 by omega) dJx4a65c_grow_92f84_56 (fun H lo hL hz_ ho_ hS => ?_)
        have hN := hN.kept (ho_ _ hne)
        exact g_aretW hC hr (Or.inr ⟨_, rfl⟩) dJx4a65c_grow_92f84_59 hS (Nat.le_of_ble_eq_true rfl) (Nat.le_of_ble_eq_true rfl) ⟨⟨by omega, _, hL⟩, 10, _, by omega, by omega, hN, fun i hi => by omega⟩
      · exact absurd rfl c2_
  · refine lv_aload_n hx hb dJx4a65c_grow_92f84_0 rfl (lv_at hl 0 rfl) ?_
    refine g_get (v := .ref t) hC hL (C := RJx4a65c) (T := TJx4a65c) (N := 3) rfl uJ_in 1 (by decide) k_682 rfl dJx4a65c_grow_92f84_1 ?_
    refine g_alen 3 hC hT rfl dJx4a65c_grow_92f84_4 ?_
    refine lv_istore_n (lv' := [(2, .int (nI n)), (0, .ref a), (1, .int (nI (n + 1)))]) hx hb dJx4a65c_grow_92f84_5 rfl hl (by decide) rfl (fun ls hl => ?_)
    refine lv_iload_n hx hb dJx4a65c_grow_92f84_6 rfl (lv_at hl 0 rfl) ?_
    refine lv_if_gt (tgt := 20) hx hb dJx4a65c_grow_92f84_7 (by decide) (fun c3_ => ?_) (fun c3_ => ?_)
    · refine lv_iload_n hx hb dJx4a65c_grow_92f84_20 rfl (lv_at hl 0 rfl) ?_
      refine lv_iload_n hx hb dJx4a65c_grow_92f84_21 rfl (lv_at hl 2 rfl) ?_
      refine lv_iload_n hx hb dJx4a65c_grow_92f84_22 rfl (lv_at hl 0 rfl) ?_
      refine lv_isub hx hb dJx4a65c_grow_92f84_23 ?_
      rw [nI_sub1]
      refine lv_iload_n hx hb dJx4a65c_grow_92f84_24 rfl (lv_at hl 0 rfl) ?_
      refine lv_iconst (v := 1) hx hb dJx4a65c_grow_92f84_25 (by decide) ?_
      refine lv_ishr hx hb dJx4a65c_grow_92f84_26 ?_
      rw [nI_half (by omega)]
      refine g_cRi (k2 := 0) (n2 := 0) (g_runS (rest := []) hC (c_J8_newLength_cabcc hE n (by omega) (by omega)) Y_J8_newLength_cabcc k_198 S_J8_newLength_cabcc trivial rfl hl.1 dJx4a65c_grow_92f84_27 ⟨Nat.le_of_ble_eq_true rfl, Nat.le_of_ble_eq_true rfl⟩ ⟨Nat.le_of_ble_eq_true rfl, Nat.le_of_ble_eq_true rfl⟩ rfl (Nat.le_of_ble_eq_true rfl)) rfl rfl g_no (fun r4_ h5_ => ?_)
      obtain rfl := h5_
      refine lv_istore_n (lv' := [(3, .int (nI (n + max 1 (n / 2)))), (2, .int (nI n)), (0, .ref a), (1, .int (nI (n + 1)))]) hx hb dJx4a65c_grow_92f84_30 rfl hl (by decide) rfl (fun ls hl => ?_)
      refine lv_aload_n hx hb dJx4a65c_grow_92f84_31 rfl (lv_at hl 2 rfl) ?_
      refine lv_aload_n hx hb dJx4a65c_grow_92f84_32 rfl (lv_at hl 2 rfl) ?_
      refine g_get (v := .ref t) hC hL (C := RJx4a65c) (T := TJx4a65c) (N := 3) rfl uJ_in 1 (by decide) k_682 rfl dJx4a65c_grow_92f84_33 ?_
      refine lv_iload_n hx hb dJx4a65c_grow_92f84_36 rfl (lv_at hl 0 rfl) ?_
      refine g_cWr (k2 := 1) (n2 := 1000) (g_runS (rest := [.ref a]) hC (c_J7_copyOf_1904c hE t n (n + max 1 (n / 2)) sz f (by omega) (by omega)) Y_J7_copyOf_1904c k_208 S_J7_copyOf_1904c ⟨hsz, hT, fun i hi y hy => by rw [hf i hi] at hy; cases hy; exact hel i hi⟩ rfl hl.1 dJx4a65c_grow_92f84_37 ⟨Nat.le_of_ble_eq_true rfl, Nat.le_of_ble_eq_true rfl⟩ ⟨Nat.le_of_ble_eq_true rfl, Nat.le_of_ble_eq_true rfl⟩ rfl (Nat.le_of_ble_eq_true rfl)) hS (fun q h => h.elim (fun z => Or.inr (Or.inl ⟨by omega, z⟩)) (fun z => Or.inr (Or.inr z))) rfl rfl (fun r_ H lo h6_ hz_ hk_ hS => ?_)
      obtain ⟨hr1, hr2, hr3⟩ := h6_
      have hL := hL.kept (hk_ a hal (fun z => z.elim (fun z => hat h0 z.symm) (fun z => by omega)))
      refine lv_dup_x1 hx hb dJx4a65c_grow_92f84_40 rfl rfl ?_
      refine g_put hC hL hS (Or.inl rfl) (C := RJx4a65c) (T := TJx4a65c) (N := 3) rfl uJ_in tyJx4a65c tyJx4a65c_ok nmJx4a65c 1 (by decide) k_682 (Or.inl rfl) (tyJx4a65c_ok 1 (by decide)) rfl rfl (show 1 < 3 by omega) dJx4a65c_grow_92f84_41 (fun H lo hL hz_ ho_ hS => ?_)
      have hr2 := hr2.kept (ho_ _ (show r_ ≠ a by omega))
      exact g_aretW hC hr (Or.inr ⟨_, rfl⟩) dJx4a65c_grow_92f84_44 hS (Nat.le_of_ble_eq_true rfl) (Nat.le_of_ble_eq_true rfl) ⟨⟨hr1, _, hL⟩, _, _, by omega, by omega, hr2, fun i hi => (cpy_in hi).trans (hf i hi)⟩
    · exact absurd (show (0 : Int32) < nI n from nI_lt (a := 0) h0 (by omega)) c3_
set_option maxHeartbeats 4000000 in
set_option maxRecDepth 100000 in
theorem c_Jx4a65c_grow_d5877 {l : Launch} {E : gV} (hE : gOK l E)  (a t n sz : Nat) (row : Nat → Nat) (hn : n ≤ 600) (haE : E.2.1.heap.size ≤ a) (htE : 0 < n → E.2.1.heap.size ≤ t) (hat : 0 < n → t ≠ a) : gM l E yJx4a65c_grow_d5877 cJx4a65c_grow_d5877 1 (some (.array (.object "java/lang/Object"))) ({ frames := 4, cells := 1, slots := 1000, locals := 167 } : Room) [.ref a] (fun H => (gFz E H ∧ H.size = sz) ∧ ((∃ mc : Int32, gA E a (.inr (0, [.int mc, .ref t, .int (nI n)])) H) ∧ ((n = 0 ∧ gEmp E t) ∨ ∃ f, 0 < n ∧ gA E t (gQ E n f) H ∧ ∀ i, i < n → f i = some (row i))) ∧ ∀ i, i < n → gO E (row i) H) (gQW (fun q => q = a ∨ (0 < n ∧ q = t) ∨ sz ≤ q) (gWr (fun r H => (sz ≤ r ∧ ∃ mc : Int32, gA E a (.inr (0, [.int mc, .ref r, .int (nI n)])) H) ∧ ∃ (cap : Nat) (g : Nat → Option Nat), n < cap ∧ cap ≤ 1000 ∧ gA E r (gQ E cap g) H ∧ ∀ i, i < n → g i = some (row i)))) (fun _ => False) (fun q => q = a ∨ (0 < n ∧ q = t) ∨ sz ≤ q) := by
  refine gM_body hE (by decide +kernel) (Nat.le_of_ble_eq_true rfl) ?_
  intro p_ e_ s m args below meth c hC ht hr hname hP ls hl
  have hx := hC.2.2.1
  have hb := hC.2.2.2.1
  have hl : lv_has ls 1 [(0, .ref a)] := hl
  have hS : va_S ((fun q => q = a ∨ (0 < n ∧ q = t) ∨ sz ≤ q)) s.heap s.heap [] := va_S.rf
  have hP0 := hP
  obtain ⟨⟨hF, hsz⟩, ⟨⟨mc, hL⟩, hcs⟩, hel⟩ := hP
  refine lv_aload_n hx hb dJx4a65c_grow_d5877_0 rfl (lv_at hl 0 rfl) ?_
  refine lv_aload_n hx hb dJx4a65c_grow_d5877_1 rfl (lv_at hl 0 rfl) ?_
  refine g_get (v := .int (nI n)) hC hL (C := RJx4a65c) (T := TJx4a65c) (N := 3) rfl uJ_in 2 (by decide) k_683 rfl dJx4a65c_grow_d5877_2 ?_
  refine lv_iconst (v := 1) hx hb dJx4a65c_grow_d5877_5 (by decide) ?_
  refine g_iadd1 hx hb dJx4a65c_grow_d5877_6 ?_
  refine g_cWr (k2 := 1) (n2 := 1000) (g_runV (rest := []) hC (c_Jx4a65c_grow_92f84 hE a t n sz row hn haE htE hat) Y_Jx4a65c_grow_92f84 k_192 I_Jx4a65c_grow_92f84 V_Jx4a65c_grow_92f84 hL rfl hP0 rfl hl.1 dJx4a65c_grow_d5877_7 ⟨Nat.le_of_ble_eq_true rfl, Nat.le_of_ble_eq_true rfl⟩ ⟨Nat.le_of_ble_eq_true rfl, Nat.le_of_ble_eq_true rfl⟩ rfl (Nat.le_of_ble_eq_true rfl)) hS (fun _ h => h) rfl rfl (fun r1_ H lo h2_ _ _ hS => ?_)
  have hr_ := h2_
  exact g_aretW hC hr (Or.inr ⟨_, rfl⟩) dJx4a65c_grow_d5877_10 hS (Nat.le_of_ble_eq_true rfl) (Nat.le_of_ble_eq_true rfl) hr_
set_option maxHeartbeats 4000000 in
set_option maxRecDepth 100000 in
theorem c_Jx4a65c_add_72be8 {l : Launch} {E : gV} (hE : gOK l E)  (a t n sz x : Nat) (row : Nat → Nat) (hn : n ≤ 600) (haE : E.2.1.heap.size ≤ a) (htE : 0 < n → E.2.1.heap.size ≤ t) (hat : 0 < n → t ≠ a) (hxa : x ≠ a) (hxt : 0 < n → x ≠ t) : gM l E yJx4a65c_add_72be8 cJx4a65c_add_72be8 4 none ({ frames := 5, cells := 1, slots := 1000, locals := 187 } : Room) [.ref a, .ref x, .ref t, .int (nI n)] (fun H => ((gFz E H ∧ H.size = sz) ∧ gL E a t n row H ∧ ∀ i, i < n → gO E (row i) H) ∧ gO E x H) (gQW (fun q => q = a ∨ (0 < n ∧ q = t) ∨ sz ≤ q) (gWv (fun H => ∃ t2 : Nat, ((0 < n ∧ t2 = t) ∨ sz ≤ t2) ∧ gL E a t2 (n + 1) (fun i => if i = n then x else row i) H))) (fun _ => False) (fun q => q = a ∨ (0 < n ∧ q = t) ∨ sz ≤ q) := by
  refine gM_body hE (by decide +kernel) (Nat.le_of_ble_eq_true rfl) ?_
  intro p_ e_ s m args below meth c hC ht hr hname hP ls hl
  have hx := hC.2.2.1
  have hb := hC.2.2.2.1
  have hl : lv_has ls 4 [(0, .ref a), (1, .ref x), (2, .ref t), (3, .int (nI n))] := hl
  have hS : va_S ((fun q => q = a ∨ (0 < n ∧ q = t) ∨ sz ≤ q)) s.heap s.heap [] := va_S.rf
  obtain ⟨⟨⟨hF, hsz⟩, hL0, hel⟩, hO⟩ := hP
  obtain ⟨mc, hL, hcs⟩ := hL0.three
  have hal := hL.lt
  have hEs := hF.le
  have hxl := hO.lt
  have hAE : ∀ q, (q = a ∨ (0 < n ∧ q = t) ∨ sz ≤ q) → E.2.1.heap.size ≤ q := fun q hq => hq.elim (fun z => by omega) (fun z => z.elim (fun z => by have := htE z.1; omega) (fun z => by omega))
  rcases hcs with ⟨h0, hem⟩ | ⟨f, h0, hT, hf⟩ | ⟨cap, f, h0, hlt, hcap, hT, hf⟩
  · refine lv_iload_n hx hb dJx4a65c_add_72be8_0 rfl (lv_at hl 3 rfl) ?_
    refine lv_aload_n hx hb dJx4a65c_add_72be8_1 rfl (lv_at hl 2 rfl) ?_
    refine g_elen hC hF hem hS (fun q hq => hAE q hq) dJx4a65c_add_72be8_2 ?_
    refine lv_icmp_ne (tgt := 11) hx hb dJx4a65c_add_72be8_3 (by decide) (fun c1_ => ?_) (fun c1_ => ?_)
    · have n2_ : ¬ n = 0 := fun z => c1_ (congrArg nI z)
      exact absurd (show nI n = 0 by rw [h0]; rfl) c1_
    · have n2_ : n = 0 := (nI_eq (by omega) (by omega)).mp c1_
      refine lv_aload_n hx hb dJx4a65c_add_72be8_6 rfl (lv_at hl 0 rfl) ?_
      refine g_cWr (k2 := 1) (n2 := 1000) (g_runV (rest := []) hC (c_Jx4a65c_grow_d5877 hE a t n sz row hn haE htE hat) Y_Jx4a65c_grow_d5877 k_188 I_Jx4a65c_grow_d5877 V_Jx4a65c_grow_d5877 hL rfl ⟨⟨hF, hsz⟩, ⟨⟨_, hL⟩, Or.inl ⟨h0, hem⟩⟩, hel⟩ rfl hl.1 dJx4a65c_add_72be8_7 ⟨Nat.le_of_ble_eq_true rfl, Nat.le_of_ble_eq_true rfl⟩ ⟨Nat.le_of_ble_eq_true rfl, Nat.le_of_ble_eq_true rfl⟩ rfl (Nat.le_of_ble_eq_true rfl)) hS (fun _ h => h) rfl rfl (fun r_ H lo h3_ hz_ hk_ hS => ?_)
      obtain ⟨⟨hr1, mc2, hL2⟩, cap2, g2, hlt2, hc2, hT2, hg2⟩ := h3_
      have hO := hO.kept (hk_ x hxl (fun z => z.elim hxa (fun z => z.elim (fun z => hxt z.1 z.2) (fun z => by omega))))
      refine lv_astore_n (lv' := [(2, .ref r_), (0, .ref a), (1, .ref x), (3, .int (nI n))]) hx hb dJx4a65c_add_72be8_10 rfl hl (by decide) rfl (fun ls hl => ?_)
      refine lv_aload_n hx hb dJx4a65c_add_72be8_11 rfl (lv_at hl 0 rfl) ?_
      refine lv_iload_n hx hb dJx4a65c_add_72be8_12 rfl (lv_at hl 3 rfl) ?_
      refine lv_aload_n hx hb dJx4a65c_add_72be8_13 rfl (lv_at hl 2 rfl) ?_
      refine g_aast hC hT2 hS (Or.inr (Or.inr hr1)) (hO.any hC) hlt2 (by omega) dJx4a65c_add_72be8_14 (fun H lo hN hz_ ho_ hS => ?_)
      have hL := hL2.kept (ho_ a (by omega))
      refine lv_aload_n hx hb dJx4a65c_add_72be8_15 rfl (lv_at hl 1 rfl) ?_
      refine lv_iload_n hx hb dJx4a65c_add_72be8_16 rfl (lv_at hl 3 rfl) ?_
      refine lv_iconst (v := 1) hx hb dJx4a65c_add_72be8_17 (by decide) ?_
      refine g_iadd1 hx hb dJx4a65c_add_72be8_18 ?_
      refine g_put hC hL hS (Or.inl rfl) (C := RJx4a65c) (T := TJx4a65c) (N := 3) rfl uJ_in tyJx4a65c tyJx4a65c_ok nmJx4a65c 2 (by decide) k_683 (Or.inl rfl) (tyJx4a65c_ok 2 (by decide)) rfl rfl (show 2 < 3 by omega) dJx4a65c_add_72be8_19 (fun H lo hL hz_ ho_ hS => ?_)
      have hN := hN.kept (ho_ _ (by omega))
      exact g_vretW hC hr dJx4a65c_add_72be8_22 hS (Nat.le_of_ble_eq_true rfl) (Nat.le_of_ble_eq_true rfl) ⟨r_, Or.inr hr1, _, hL, fun z => by omega, fun _ => ⟨cap2, _, by omega, hc2, hN, fun i hi => up_row hg2 hi⟩⟩
  · refine lv_iload_n hx hb dJx4a65c_add_72be8_0 rfl (lv_at hl 3 rfl) ?_
    refine lv_aload_n hx hb dJx4a65c_add_72be8_1 rfl (lv_at hl 2 rfl) ?_
    refine g_alen 3 hC hT rfl dJx4a65c_add_72be8_2 ?_
    refine lv_icmp_ne (tgt := 11) hx hb dJx4a65c_add_72be8_3 (by decide) (fun c4_ => ?_) (fun c4_ => ?_)
    · have n5_ : ¬ n = n := fun z => c4_ (congrArg nI z)
      exact absurd rfl c4_
    · have n5_ : n = n := (nI_eq (by omega) (by omega)).mp c4_
      refine lv_aload_n hx hb dJx4a65c_add_72be8_6 rfl (lv_at hl 0 rfl) ?_
      refine g_cWr (k2 := 1) (n2 := 1000) (g_runV (rest := []) hC (c_Jx4a65c_grow_d5877 hE a t n sz row hn haE htE hat) Y_Jx4a65c_grow_d5877 k_188 I_Jx4a65c_grow_d5877 V_Jx4a65c_grow_d5877 hL rfl ⟨⟨hF, hsz⟩, ⟨⟨_, hL⟩, Or.inr ⟨f, h0, hT, hf⟩⟩, hel⟩ rfl hl.1 dJx4a65c_add_72be8_7 ⟨Nat.le_of_ble_eq_true rfl, Nat.le_of_ble_eq_true rfl⟩ ⟨Nat.le_of_ble_eq_true rfl, Nat.le_of_ble_eq_true rfl⟩ rfl (Nat.le_of_ble_eq_true rfl)) hS (fun _ h => h) rfl rfl (fun r_ H lo h6_ hz_ hk_ hS => ?_)
      obtain ⟨⟨hr1, mc2, hL2⟩, cap2, g2, hlt2, hc2, hT2, hg2⟩ := h6_
      have hO := hO.kept (hk_ x hxl (fun z => z.elim hxa (fun z => z.elim (fun z => hxt z.1 z.2) (fun z => by omega))))
      refine lv_astore_n (lv' := [(2, .ref r_), (0, .ref a), (1, .ref x), (3, .int (nI n))]) hx hb dJx4a65c_add_72be8_10 rfl hl (by decide) rfl (fun ls hl => ?_)
      refine lv_aload_n hx hb dJx4a65c_add_72be8_11 rfl (lv_at hl 0 rfl) ?_
      refine lv_iload_n hx hb dJx4a65c_add_72be8_12 rfl (lv_at hl 3 rfl) ?_
      refine lv_aload_n hx hb dJx4a65c_add_72be8_13 rfl (lv_at hl 2 rfl) ?_
      refine g_aast hC hT2 hS (Or.inr (Or.inr hr1)) (hO.any hC) hlt2 (by omega) dJx4a65c_add_72be8_14 (fun H lo hN hz_ ho_ hS => ?_)
      have hL := hL2.kept (ho_ a (by omega))
      refine lv_aload_n hx hb dJx4a65c_add_72be8_15 rfl (lv_at hl 1 rfl) ?_
      refine lv_iload_n hx hb dJx4a65c_add_72be8_16 rfl (lv_at hl 3 rfl) ?_
      refine lv_iconst (v := 1) hx hb dJx4a65c_add_72be8_17 (by decide) ?_
      refine g_iadd1 hx hb dJx4a65c_add_72be8_18 ?_
      refine g_put hC hL hS (Or.inl rfl) (C := RJx4a65c) (T := TJx4a65c) (N := 3) rfl uJ_in tyJx4a65c tyJx4a65c_ok nmJx4a65c 2 (by decide) k_683 (Or.inl rfl) (tyJx4a65c_ok 2 (by decide)) rfl rfl (show 2 < 3 by omega) dJx4a65c_add_72be8_19 (fun H lo hL hz_ ho_ hS => ?_)
      have hN := hN.kept (ho_ _ (by omega))
      exact g_vretW hC hr dJx4a65c_add_72be8_22 hS (Nat.le_of_ble_eq_true rfl) (Nat.le_of_ble_eq_true rfl) ⟨r_, Or.inr hr1, _, hL, fun z => by omega, fun _ => ⟨cap2, _, by omega, hc2, hN, fun i hi => up_row hg2 hi⟩⟩
  · refine lv_iload_n hx hb dJx4a65c_add_72be8_0 rfl (lv_at hl 3 rfl) ?_
    refine lv_aload_n hx hb dJx4a65c_add_72be8_1 rfl (lv_at hl 2 rfl) ?_
    refine g_alen 3 hC hT rfl dJx4a65c_add_72be8_2 ?_
    refine lv_icmp_ne (tgt := 11) hx hb dJx4a65c_add_72be8_3 (by decide) (fun c7_ => ?_) (fun c7_ => ?_)
    · have n8_ : ¬ n = cap := fun z => c7_ (congrArg nI z)
      refine lv_aload_n hx hb dJx4a65c_add_72be8_11 rfl (lv_at hl 2 rfl) ?_
      refine lv_iload_n hx hb dJx4a65c_add_72be8_12 rfl (lv_at hl 3 rfl) ?_
      refine lv_aload_n hx hb dJx4a65c_add_72be8_13 rfl (lv_at hl 1 rfl) ?_
      refine g_aast hC hT hS (Or.inr (Or.inl ⟨h0, rfl⟩)) (hO.any hC) hlt (by omega) dJx4a65c_add_72be8_14 (fun H lo hN hz_ ho_ hS => ?_)
      have hL := hL.kept (ho_ a (fun z => hat h0 z.symm))
      refine lv_aload_n hx hb dJx4a65c_add_72be8_15 rfl (lv_at hl 0 rfl) ?_
      refine lv_iload_n hx hb dJx4a65c_add_72be8_16 rfl (lv_at hl 3 rfl) ?_
      refine lv_iconst (v := 1) hx hb dJx4a65c_add_72be8_17 (by decide) ?_
      refine g_iadd1 hx hb dJx4a65c_add_72be8_18 ?_
      refine g_put hC hL hS (Or.inl rfl) (C := RJx4a65c) (T := TJx4a65c) (N := 3) rfl uJ_in tyJx4a65c tyJx4a65c_ok nmJx4a65c 2 (by decide) k_683 (Or.inl rfl) (tyJx4a65c_ok 2 (by decide)) rfl rfl (show 2 < 3 by omega) dJx4a65c_add_72be8_19 (fun H lo hL hz_ ho_ hS => ?_)
      have hN := hN.kept (ho_ _ (hat h0))
      exact g_vretW hC hr dJx4a65c_add_72be8_22 hS (Nat.le_of_ble_eq_true rfl) (Nat.le_of_ble_eq_true rfl) ⟨t, Or.inl ⟨h0, rfl⟩, _, hL, fun z => by omega, fun _ => ⟨cap, _, by omega, hcap, hN, fun i hi => up_row hf hi⟩⟩
    · have n8_ : n = cap := (nI_eq (by omega) (by omega)).mp c7_
      exact absurd ((nI_eq (by omega) (by omega)).mp c7_) (by omega)
set_option maxHeartbeats 4000000 in
set_option maxRecDepth 100000 in
theorem c_Jx4a65c_add_9ea2d {l : Launch} {E : gV} (hE : gOK l E)  (a t n sz x : Nat) (row : Nat → Nat) (hn : n ≤ 600) (haE : E.2.1.heap.size ≤ a) (htE : 0 < n → E.2.1.heap.size ≤ t) (hat : 0 < n → t ≠ a) (hxa : x ≠ a) (hxt : 0 < n → x ≠ t) (hra : ∀ i, i < n → row i ≠ a) : gM l E yJx4a65c_add_9ea2d cJx4a65c_add_9ea2d 2 (some .boolean) ({ frames := 6, cells := 1, slots := 1000, locals := 210 } : Room) [.ref a, .ref x] (fun H => ((gFz E H ∧ H.size = sz) ∧ gL E a t n row H ∧ ∀ i, i < n → gO E (row i) H) ∧ gO E x H) (gQW (fun q => q = a ∨ (0 < n ∧ q = t) ∨ sz ≤ q) (gWi (fun r H => r = 1 ∧ ∃ t2 : Nat, ((0 < n ∧ t2 = t) ∨ sz ≤ t2) ∧ gL E a t2 (n + 1) (fun i => if i = n then x else row i) H))) (fun _ => False) (fun q => q = a ∨ (0 < n ∧ q = t) ∨ sz ≤ q) := by
  refine gM_body hE (by decide +kernel) (Nat.le_of_ble_eq_true rfl) ?_
  intro p_ e_ s m args below meth c hC ht hr hname hP ls hl
  have hx := hC.2.2.1
  have hb := hC.2.2.2.1
  have hl : lv_has ls 2 [(0, .ref a), (1, .ref x)] := hl
  have hS : va_S ((fun q => q = a ∨ (0 < n ∧ q = t) ∨ sz ≤ q)) s.heap s.heap [] := va_S.rf
  obtain ⟨⟨⟨hF, hsz⟩, hL0, hel⟩, hO⟩ := hP
  obtain ⟨mc, hL, hcs⟩ := hL0.three
  have hal := hL.lt
  have hEs := hF.le
  have hxl := hO.lt
  refine lv_aload_n hx hb dJx4a65c_add_9ea2d_0 rfl (lv_at hl 0 rfl) ?_
  refine lv_dup hx hb dJx4a65c_add_9ea2d_1 rfl ?_
  refine g_gets hC hL (C := RJx4a65c) (T := TJx4a65c) (N := 3) rfl uJ_in 0 (by decide) k_685 k_686 rfl dJx4a65c_add_9ea2d_2 ?_
  refine lv_iconst (v := 1) hx hb dJx4a65c_add_9ea2d_5 (by decide) ?_
  refine lv_iadd hx hb dJx4a65c_add_9ea2d_6 ?_
  refine g_puts hC hL hS (Or.inl rfl) (C := RJx4a65c) (T := TJx4a65c) (N := 3) rfl uJ_in tyJx4a65c tyJx4a65c_ok nmJx4a65c 0 (by decide) k_685 k_686 rfl (tyJx4a65c_ok 0 (by decide)) rfl rfl (show 0 < 3 by omega) dJx4a65c_add_9ea2d_7 (fun H lo hL hz_ ho_ hS => ?_)
  have hF : gFz E H := hF.kept (fun q hq => ho_ q (by omega))
  have hsz : H.size = sz := hz_.trans hsz
  have hO := hO.kept (ho_ x hxa)
  have hL0 : gL E a t n row H := hL0.reset hL (fun q hq => ho_ q (fun z => hat hq.1 (hq.2.symm.trans z)))
  have hel : ∀ i, i < n → gO E (row i) H := fun i hi => (hel i hi).kept (ho_ _ (hra i hi))
  have hpre_ := And.intro (And.intro (And.intro hF hsz) (And.intro hL0 hel)) hO
  refine lv_aload_n hx hb dJx4a65c_add_9ea2d_10 rfl (lv_at hl 0 rfl) ?_
  refine lv_aload_n hx hb dJx4a65c_add_9ea2d_11 rfl (lv_at hl 1 rfl) ?_
  refine lv_aload_n hx hb dJx4a65c_add_9ea2d_12 rfl (lv_at hl 0 rfl) ?_
  refine g_get (v := .ref t) hC hL (C := RJx4a65c) (T := TJx4a65c) (N := 3) rfl uJ_in 1 (by decide) k_682 rfl dJx4a65c_add_9ea2d_13 ?_
  refine lv_aload_n hx hb dJx4a65c_add_9ea2d_16 rfl (lv_at hl 0 rfl) ?_
  refine g_get (v := .int (nI n)) hC hL (C := RJx4a65c) (T := TJx4a65c) (N := 3) rfl uJ_in 2 (by decide) k_683 rfl dJx4a65c_add_9ea2d_17 ?_
  refine g_cWv (k2 := 1) (n2 := 1000) (g_runV (rest := []) hC (c_Jx4a65c_add_72be8 hE a t n sz x row hn haE htE hat hxa hxt) Y_Jx4a65c_add_72be8 k_183 I_Jx4a65c_add_72be8 V_Jx4a65c_add_72be8 hL rfl hpre_ rfl hl.1 dJx4a65c_add_9ea2d_20 ⟨Nat.le_of_ble_eq_true rfl, Nat.le_of_ble_eq_true rfl⟩ ⟨Nat.le_of_ble_eq_true rfl, Nat.le_of_ble_eq_true rfl⟩ rfl (Nat.le_of_ble_eq_true rfl)) hS (fun _ h => h) rfl rfl (fun H lo h2_ _ _ hS => ?_)
  have hr_ := h2_
  refine lv_iconst (v := 1) hx hb dJx4a65c_add_9ea2d_23 (by decide) ?_
  exact g_zretW hC hr rfl dJx4a65c_add_9ea2d_24 hS (Nat.le_of_ble_eq_true rfl) (Nat.le_of_ble_eq_true rfl) ⟨rfl, hr_⟩
