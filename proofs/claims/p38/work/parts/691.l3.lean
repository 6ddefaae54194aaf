set_option maxHeartbeats 4000000 in
set_option maxRecDepth 100000 in
theorem c_L_lays1 {l : Launch} {E : gV} (hE : gOK l E) {nb D : Nat} {f : Nat → Int32} {μ : F2} {K : Nat → Nat} (hN : NL f μ K D) (hU : PU μ K) (p : Nat) (k0 S : Int32) (hp : p < K 0) (hd : K 2 < 24) (hk0 : f (200 + 10 * K 2) = k0) (hS0 : f (204 + 10 * K 2) = S) : gM l E yL_lays cL_lays 8 none ({ frames := 1, cells := 0, slots := 0, locals := 27 } : Room) [.ref nb, .int (nI (K 2)), .int (nI p), .int ((-1))] (fun H => gNet E nb f H) (gQW (nB nb) (gWv (fun H => ∃ g, gNet E nb g H ∧ NL g μ K D ∧ (∀ z, z ≠ 206 + 10 * K 2 → z ≠ 207 + 10 * K 2 → z ≠ 208 + 10 * K 2 → g z = f z) ∧ Ch (mv μ) (μ 22 0) (nI p) (-1) k0 S 0 (K 1) (g (206 + 10 * K 2)) (g (207 + 10 * K 2)) (g (208 + 10 * K 2))))) (fun _ => False) (nB nb) := by
  refine gM_body hE (by decide +kernel) (Nat.le_of_ble_eq_true rfl) ?_
  intro p_ e_ s m args below meth c hC ht hr hname hP ls hl
  have hx := hC.2.2.1
  have hb := hC.2.2.2.1
  have hl : lv_has ls 8 [(0, .ref nb), (1, .int (nI (K 2))), (2, .int (nI p)), (3, .int ((-1)))] := hl
  have hS : va_S ((nB nb)) s.heap s.heap [] := va_S.rf
  have hA : gNet E nb f s.heap := hP
  have hb0 := hN.b0
  have hb1 := hN.b1
  have hb2 := hN.b2
  have hnb : nB nb nb := rfl
  refine lv_sipush (v := 200) hx hb dL_lays_0 (by decide) ?_
  refine lv_bipush (v := 10) hx hb dL_lays_3 (by decide) ?_
  refine lv_iload_n hx hb dL_lays_5 rfl (lv_at hl 1 rfl) ?_
  refine g_nmuln (a := 10) (b := K 2) hx hb dL_lays_6 ?_
  refine g_naddn (a := 200) (b := 10 * (K 2)) hx hb dL_lays_7 ?_
  refine lv_istore (lv' := [(4, .int (nI (200 + 10 * (K 2)))), (0, .ref nb), (1, .int (nI (K 2))), (2, .int (nI p)), (3, .int ((-1)))]) hx hb dL_lays_8 hl (by decide) rfl (fun ls hl => ?_)
  refine lv_aload_n hx hb dL_lays_10 rfl (lv_at hl 1 rfl) ?_
  refine lv_iload hx hb dL_lays_11 (lv_at hl 0 rfl) ?_
  refine lv_bipush (v := 6) hx hb dL_lays_13 (by decide) ?_
  refine g_naddn (a := 200 + 10 * (K 2)) (b := 6) hx hb dL_lays_15 ?_
  refine lv_iconst (v := 0) hx hb dL_lays_16 (by decide) ?_
  refine g_iast (n := 450) (f := f) (j := 200 + 10 * (K 2) + 6) (x := 0) hC hA hS hnb (by omega) (by decide) dL_lays_17 (fun H lo hA hz_ ho_ hS => ?_)
  have hA : gNet E nb (upd f (200 + 10 * (K 2) + 6) 0) H := hA
  refine lv_aload_n hx hb dL_lays_18 rfl (lv_at hl 1 rfl) ?_
  refine lv_iload hx hb dL_lays_19 (lv_at hl 0 rfl) ?_
  refine lv_bipush (v := 7) hx hb dL_lays_21 (by decide) ?_
  refine g_naddn (a := 200 + 10 * (K 2)) (b := 7) hx hb dL_lays_23 ?_
  refine lv_iconst (v := (-1)) hx hb dL_lays_24 (by decide) ?_
  refine g_iast (n := 450) (f := (upd f (200 + 10 * (K 2) + 6) 0)) (j := 200 + 10 * (K 2) + 7) (x := (-1)) hC hA hS hnb (by omega) (by decide) dL_lays_25 (fun H lo hA hz_ ho_ hS => ?_)
  have hA : gNet E nb (upd (upd f (200 + 10 * (K 2) + 6) 0) (200 + 10 * (K 2) + 7) (-1)) H := hA
  refine lv_aload_n hx hb dL_lays_26 rfl (lv_at hl 1 rfl) ?_
  refine lv_iconst (v := 1) hx hb dL_lays_27 (by decide) ?_
  refine g_iald (n := 450) (f := (upd (upd f (200 + 10 * (K 2) + 6) 0) (200 + 10 * (K 2) + 7) (-1))) (j := 1) hC hA (by omega) (by decide) dL_lays_28 ?_
  rw [show (upd (upd f (200 + 10 * (K 2) + 6) 0) (200 + 10 * (K 2) + 7) (-1)) (1) = nI (K 1) from by rw [upd_n _ _ (by omega), upd_n _ _ (by omega)]; exact hN.k1]
  refine lv_iconst (v := 1) hx hb dL_lays_29 (by decide) ?_
  refine lv_isub hx hb dL_lays_30 ?_
  refine lv_istore (lv' := [(5, .int ((nI (K 1)) - 1)), (4, .int (nI (200 + 10 * (K 2)))), (0, .ref nb), (1, .int (nI (K 2))), (2, .int (nI p)), (3, .int ((-1)))]) hx hb dL_lays_31 hl (by decide) rfl (fun ls hl => ?_)
  have loop : ∀ (n_ : Nat) (m_ : Nat) (g : Nat → Int32) (H : Heap) (lo : List Loc) (ls : Array Slot), m_ < n_ → (m_ ≤ K 1) → (NL g μ K D) → (g (200 + 10 * K 2) = k0 ∧ g (204 + 10 * K 2) = S) → (∀ z, z ≠ 206 + 10 * K 2 → z ≠ 207 + 10 * K 2 → z ≠ 208 + 10 * K 2 → g z = f z) → (Ch (mv μ) (μ 22 0) (nI p) (-1) k0 S m_ (K 1) (g (206 + 10 * K 2)) (g (207 + 10 * K 2)) (g (208 + 10 * K 2))) → gNet E nb g H → va_S ((nB nb)) s.heap H lo → lv_has ls 8 [(0, .ref nb), (1, .int (nI (K 2))), (2, .int (nI p)), (3, .int ((-1))), (4, .int (nI (200 + 10 * (K 2)))), (5, .int (nI m_ - 1))] → W p_ l e_ ({ frames := 1, cells := 0, slots := 0, locals := 27 } : Room) s m args below meth c H lo 0 0 (vx_MQ below (gQW (nB nb) (gWv (fun H => ∃ g, gNet E nb g H ∧ NL g μ K D ∧ (∀ z, z ≠ 206 + 10 * K 2 → z ≠ 207 + 10 * K 2 → z ≠ 208 + 10 * K 2 → g z = f z) ∧ Ch (mv μ) (μ 22 0) (nI p) (-1) k0 S 0 (K 1) (g (206 + 10 * K 2)) (g (207 + 10 * K 2)) (g (208 + 10 * K 2))))) (gX (fun _ => False)) args s 0 0 (nB nb)) (F0 m 33 ls []) := by
    intro n_
    induction n_ with
    | zero => intro m_ g H lo ls h_; exact absurd h_ (Nat.not_lt_zero _)
    | succ n_ ih_loop =>
      intro m_ g H lo ls hn_ i1 i2 i3 i4 i5 hA hS hl
      rcases m_ with _ | k
      · refine lv_iload hx hb dL_lays_33 (lv_at hl 5 rfl) ?_
        refine lv_if_lt (tgt := 173) hx hb dL_lays_35 (by decide) (fun c1_ => ?_) (fun c1_ => ?_)
        · exact g_vretW hC hr dL_lays_173 hS (Nat.le_of_ble_eq_true rfl) (Nat.le_of_ble_eq_true rfl) ⟨g, hA, i2, i4, i5⟩
        · exact absurd (by decide) c1_
      · rw [nI_pred k] at hl
        have hl : lv_has ls 8 [(0, .ref nb), (1, .int (nI (K 2))), (2, .int (nI p)), (3, .int ((-1))), (4, .int (nI (200 + 10 * (K 2)))), (5, .int (nI k))] := hl
        obtain ⟨j9, hj9, e9⟩ := hU.hol (i := k) (by omega)
        obtain ⟨l9, hl9, el9⟩ := i5.ltr
        have ea9 : mv μ 5 k = nI j9 := e9
        have e6 : mv μ 6 k = μ 4 k := rfl
        refine lv_iload hx hb dL_lays_33 (lv_at hl 5 rfl) ?_
        refine lv_if_lt (tgt := 173) hx hb dL_lays_35 (by decide) (fun c2_ => ?_) (fun c2_ => ?_)
        · exact absurd c2_ (nI_pos (by omega))
        · refine lv_aload_n hx hb dL_lays_38 rfl (lv_at hl 0 rfl) ?_
          refine lv_bipush (v := 31) hx hb dL_lays_39 (by decide) ?_
          refine lv_bipush (v := 8) hx hb dL_lays_41 (by decide) ?_
          refine lv_iload hx hb dL_lays_43 (lv_at hl 5 rfl) ?_
          refine g_nmuln (a := 8) (b := k) hx hb dL_lays_45 ?_
          refine g_naddn (a := 31) (b := 8 * k) hx hb dL_lays_46 ?_
          refine g_iald (n := 450) (f := g) (j := 31 + 8 * k) hC hA (by omega) (by decide) dL_lays_47 ?_
          rw [show g (31 + 8 * k) = μ 4 k from i2.p4 (i := k) (by omega) (by omega)]
          refine lv_aload_n hx hb dL_lays_48 rfl (lv_at hl 0 rfl) ?_
          refine lv_iload hx hb dL_lays_49 (lv_at hl 4 rfl) ?_
          refine g_iald (n := 450) (f := g) (j := 200 + 10 * (K 2)) hC hA (by omega) (by decide) dL_lays_51 ?_
          rw [show g (200 + 10 * (K 2)) = k0 from i3.1]
          refine lv_icmp_ne (tgt := 167) hx hb dL_lays_52 (by decide) (fun c3_ => ?_) (fun c3_ => ?_)
          · refine lv_iinc (v := nI k - 1) (lv' := [(5, .int (nI k - 1)), (0, .ref nb), (1, .int (nI (K 2))), (2, .int (nI p)), (3, .int ((-1))), (4, .int (nI (200 + 10 * (K 2))))]) hx hb dL_lays_167 hl (k := 5) rfl (g_dec _) (by decide) rfl (fun ls hl => ?_)
            refine lv_goto (tgt := 33) hx hb dL_lays_170 (by decide) ?_
            exact ih_loop k g H lo ls (by omega) (by omega) i2 i3 i4 (i5.skip hl9 el9 (Or.inl (by
            rintro ⟨z1, z2⟩
            rw [ea9] at z2
            first
            | exact absurd z1 (by assumption)
            | exact z2.elim (by assumption) (fun z => absurd z.1 (by decide))
            | exact z2.elim (by assumption) (fun z => absurd z.2 (by assumption))))) hA hS (lv_sub hl [1, 2, 3, 4, 5, 0] rfl)
          · refine lv_aload_n hx hb dL_lays_55 rfl (lv_at hl 0 rfl) ?_
            refine lv_iload_n hx hb dL_lays_56 rfl (lv_at hl 2 rfl) ?_
            refine lv_aload_n hx hb dL_lays_57 rfl (lv_at hl 0 rfl) ?_
            refine lv_bipush (v := 30) hx hb dL_lays_58 (by decide) ?_
            refine lv_bipush (v := 8) hx hb dL_lays_60 (by decide) ?_
            refine lv_iload hx hb dL_lays_62 (lv_at hl 5 rfl) ?_
            refine g_nmuln (a := 8) (b := k) hx hb dL_lays_64 ?_
            refine g_naddn (a := 30) (b := 8 * k) hx hb dL_lays_65 ?_
            refine g_iald (n := 450) (f := g) (j := 30 + 8 * k) hC hA (by omega) (by decide) dL_lays_66 ?_
            rw [show g (30 + 8 * k) = nI j9 from ((i2.p3 (i := k) (by omega) rfl).trans e9)]
            refine g_cRi (k2 := 0) (n2 := 0) (g_runS (rest := []) hC (c_L_acts hE (nb := nb) i2 hU p j9 (by omega) (by omega)) Y_L_acts k_849 S_L_acts hA rfl hl.1 dL_lays_67 ⟨Nat.le_of_ble_eq_true rfl, Nat.le_of_ble_eq_true rfl⟩ ⟨Nat.le_of_ble_eq_true rfl, Nat.le_of_ble_eq_true rfl⟩ rfl (Nat.le_of_ble_eq_true rfl)) rfl rfl g_no (fun r4_ h5_ => ?_)
            refine lv_if_ne (tgt := 95) hx hb dL_lays_70 (by decide) (fun c6_ => ?_) (fun c6_ => ?_)
            · have q7_ := bz.t h5_ c6_
              refine lv_aload_n hx hb dL_lays_95 rfl (lv_at hl 0 rfl) ?_
              refine lv_iload hx hb dL_lays_96 (lv_at hl 5 rfl) ?_
              refine lv_aload_n hx hb dL_lays_98 rfl (lv_at hl 0 rfl) ?_
              refine lv_iload hx hb dL_lays_99 (lv_at hl 4 rfl) ?_
              refine lv_iconst (v := 4) hx hb dL_lays_101 (by decide) ?_
              refine g_naddn (a := 200 + 10 * (K 2)) (b := 4) hx hb dL_lays_102 ?_
              refine g_iald (n := 450) (f := g) (j := 200 + 10 * (K 2) + 4) hC hA (by omega) (by decide) dL_lays_103 ?_
              rw [show g (200 + 10 * (K 2) + 4) = S from (by rw [show 200 + 10 * (K 2) + 4 = 204 + 10 * (K 2) by omega]; exact i3.2)]
              refine g_cRi (k2 := 0) (n2 := 0) (g_runS (rest := []) hC (c_L_faulted hE (nb := nb) i2 hU k S (by omega)) Y_L_faulted k_852 S_L_faulted hA rfl hl.1 dL_lays_104 ⟨Nat.le_of_ble_eq_true rfl, Nat.le_of_ble_eq_true rfl⟩ ⟨Nat.le_of_ble_eq_true rfl, Nat.le_of_ble_eq_true rfl⟩ rfl (Nat.le_of_ble_eq_true rfl)) rfl rfl g_no (fun r8_ h9_ => ?_)
              have hff := h9_
              rcases fTl_0 (td := μ 22 0) (s := S) (p := k) hU.fs (by omega) (by omega) with ⟨hfl, hfv⟩ | ⟨hfl, hfv, hdq⟩
              · obtain rfl : r8_ = 0 := hff.trans hfv
                have hcl : cLk (mv μ) (μ 22 0) S k = 4 := if_pos hfl
                have hyl : yLk (mv μ) (μ 22 0) S k = 0 := if_pos hfl
                refine lv_istore (lv' := [(6, .int 0), (0, .ref nb), (1, .int (nI (K 2))), (2, .int (nI p)), (3, .int ((-1))), (4, .int (nI (200 + 10 * (K 2)))), (5, .int (nI k))]) hx hb dL_lays_107 hl (by decide) rfl (fun ls hl => ?_)
                refine lv_iload hx hb dL_lays_109 (lv_at hl 0 rfl) ?_
                refine lv_if_ne (tgt := 118) hx hb dL_lays_111 (by decide) (fun c10_ => ?_) (fun c10_ => ?_)
                · exact absurd c10_ (by decide)
                · refine lv_iconst (v := 4) hx hb dL_lays_114 (by decide) ?_
                  refine lv_goto (tgt := 123) hx hb dL_lays_115 (by decide) ?_
                  refine lv_istore (lv' := [(7, .int 4), (6, .int 0), (0, .ref nb), (1, .int (nI (K 2))), (2, .int (nI p)), (3, .int ((-1))), (4, .int (nI (200 + 10 * (K 2)))), (5, .int (nI k))]) hx hb dL_lays_123 hl (by decide) rfl (fun ls hl => ?_)
                  refine lv_iload hx hb dL_lays_125 (lv_at hl 0 rfl) ?_
                  refine lv_aload_n hx hb dL_lays_127 rfl (lv_at hl 2 rfl) ?_
                  refine lv_iload hx hb dL_lays_128 (lv_at hl 6 rfl) ?_
                  refine lv_bipush (v := 6) hx hb dL_lays_130 (by decide) ?_
                  refine g_naddn (a := 200 + 10 * (K 2)) (b := 6) hx hb dL_lays_132 ?_
                  refine g_iald (n := 450) (f := g) (j := 200 + 10 * (K 2) + 6) hC hA (by omega) (by decide) dL_lays_133 ?_
                  rw [show g (200 + 10 * (K 2) + 6) = nI l9 from (by rw [show 200 + 10 * (K 2) + 6 = 206 + 10 * (K 2) by omega]; exact el9)]
                  refine lv_icmp_lt (tgt := 167) hx hb dL_lays_134 (by decide) (fun c11_ => ?_) (fun c11_ => ?_)
                  · have n12_ : 4 < l9 := (nI_ltI (by omega) (by omega)).mp c11_
                    refine lv_iinc (v := nI k - 1) (lv' := [(5, .int (nI k - 1)), (7, .int 4), (6, .int 0), (0, .ref nb), (1, .int (nI (K 2))), (2, .int (nI p)), (3, .int ((-1))), (4, .int (nI (200 + 10 * (K 2))))]) hx hb dL_lays_167 hl (k := 7) rfl (g_dec _) (by decide) rfl (fun ls hl => ?_)
                    refine lv_goto (tgt := 33) hx hb dL_lays_170 (by decide) ?_
                    exact ih_loop k g H lo ls (by omega) (by omega) i2 i3 i4 (i5.skip hl9 el9 (Or.inr (by rw [hcl]; omega))) hA hS (lv_sub hl [3, 4, 5, 6, 7, 0] rfl)
                  · have n12_ : l9 ≤ 4 := Nat.not_lt.mp (fun z => c11_ (show nI (4) < nI (l9) from (nI_ltI (by omega) (by omega)).mpr z))
                    refine lv_aload_n hx hb dL_lays_137 rfl (lv_at hl 2 rfl) ?_
                    refine lv_iload hx hb dL_lays_138 (lv_at hl 6 rfl) ?_
                    refine lv_bipush (v := 6) hx hb dL_lays_140 (by decide) ?_
                    refine g_naddn (a := 200 + 10 * (K 2)) (b := 6) hx hb dL_lays_142 ?_
                    refine lv_iload hx hb dL_lays_143 (lv_at hl 0 rfl) ?_
                    refine g_iast (n := 450) (f := g) (j := 200 + 10 * (K 2) + 6) (x := 4) hC hA hS hnb (by omega) (by decide) dL_lays_145 (fun H lo hA hz_ ho_ hS => ?_)
                    have hA : gNet E nb (upd g (200 + 10 * (K 2) + 6) 4) H := hA
                    refine lv_aload_n hx hb dL_lays_146 rfl (lv_at hl 2 rfl) ?_
                    refine lv_iload hx hb dL_lays_147 (lv_at hl 6 rfl) ?_
                    refine lv_bipush (v := 7) hx hb dL_lays_149 (by decide) ?_
                    refine g_naddn (a := 200 + 10 * (K 2)) (b := 7) hx hb dL_lays_151 ?_
                    refine lv_iload hx hb dL_lays_152 (lv_at hl 7 rfl) ?_
                    refine g_iast (n := 450) (f := (upd g (200 + 10 * (K 2) + 6) 4)) (j := 200 + 10 * (K 2) + 7) (x := nI k) hC hA hS hnb (by omega) (by decide) dL_lays_154 (fun H lo hA hz_ ho_ hS => ?_)
                    have hA : gNet E nb (upd (upd g (200 + 10 * (K 2) + 6) 4) (200 + 10 * (K 2) + 7) (nI k)) H := hA
                    refine lv_aload_n hx hb dL_lays_155 rfl (lv_at hl 2 rfl) ?_
                    refine lv_iload hx hb dL_lays_156 (lv_at hl 6 rfl) ?_
                    refine lv_bipush (v := 8) hx hb dL_lays_158 (by decide) ?_
                    refine g_naddn (a := 200 + 10 * (K 2)) (b := 8) hx hb dL_lays_160 ?_
                    refine lv_iload hx hb dL_lays_161 (lv_at hl 1 rfl) ?_
                    refine lv_bipush (v := 10) hx hb dL_lays_163 (by decide) ?_
                    refine g_ndivn (a := 0) (b := 10) (by omega) (by omega) (by omega) hx hb dL_lays_165 ?_
                    refine g_iast (n := 450) (f := (upd (upd g (200 + 10 * (K 2) + 6) 4) (200 + 10 * (K 2) + 7) (nI k))) (j := 200 + 10 * (K 2) + 8) (x := nI (0 / 10)) hC hA hS hnb (by omega) (by decide) dL_lays_166 (fun H lo hA hz_ ho_ hS => ?_)
                    have hA : gNet E nb (upd (upd (upd g (200 + 10 * (K 2) + 6) 4) (200 + 10 * (K 2) + 7) (nI k)) (200 + 10 * (K 2) + 8) (nI (0 / 10))) H := hA
                    refine lv_iinc (v := nI k - 1) (lv' := [(5, .int (nI k - 1)), (7, .int 4), (6, .int 0), (0, .ref nb), (1, .int (nI (K 2))), (2, .int (nI p)), (3, .int ((-1))), (4, .int (nI (200 + 10 * (K 2))))]) hx hb dL_lays_167 hl (k := 7) rfl (g_dec _) (by decide) rfl (fun ls hl => ?_)
                    refine lv_goto (tgt := 33) hx hb dL_lays_170 (by decide) ?_
                    exact ih_loop k (upd (upd (upd g (200 + 10 * (K 2) + 6) 4) (200 + 10 * (K 2) + 7) (nI k)) (200 + 10 * (K 2) + 8) (nI (0 / 10))) H lo ls (by omega) (by omega) (((i2.free (by omega) _).free (by omega) _).free (by omega) _) ⟨by rw [upd_n _ _ (by omega), upd_n _ _ (by omega), upd_n _ _ (by omega)]; exact i3.1, by rw [upd_n _ _ (by omega), upd_n _ _ (by omega), upd_n _ _ (by omega)]; exact i3.2⟩ (fun z z1 z2 z3 => by rw [upd_n _ _ (by omega), upd_n _ _ (by omega), upd_n _ _ (by omega)]; exact i4 z z1 z2 z3) (i5.take hl9 el9 (by omega) (⟨by assumption, by rw [ea9]; first | exact Or.inl (by assumption) | exact Or.inr ⟨nI_pos' (by omega), by assumption⟩⟩ : rLk _ _ _ _ k) (by rw [hcl]; omega) (by rw [upd_n _ _ (by omega), upd_n _ _ (by omega), show 206 + 10 * K 2 = 200 + 10 * K 2 + 6 by omega, upd_s, hcl]; rfl) (by rw [upd_n _ _ (by omega), show 207 + 10 * K 2 = 200 + 10 * K 2 + 7 by omega, upd_s]) (by rw [show 208 + 10 * K 2 = 200 + 10 * K 2 + 8 by omega, upd_s, hyl]; decide)) hA hS (lv_sub hl [3, 4, 5, 6, 7, 0] rfl)
              · obtain rfl : r8_ = nI _ := hff.trans hfv
                have hcl : cLk (mv μ) (μ 22 0) S k = fCd (fl (mv μ) (μ 22 0) S k) := if_neg hfl
                have hyl : yLk (mv μ) (μ 22 0) S k = nI (dpt (mv μ) (μ 22 0) S k) := if_neg hfl
                have hcb := fCd_b (fl (mv μ) (μ 22 0) S k)
                generalize fCd (fl (mv μ) (μ 22 0) S k) = cf at *
                generalize dpt (mv μ) (μ 22 0) S k = dq at *
                refine lv_istore (lv' := [(6, .int (nI (cf + 10 * dq))), (0, .ref nb), (1, .int (nI (K 2))), (2, .int (nI p)), (3, .int ((-1))), (4, .int (nI (200 + 10 * (K 2)))), (5, .int (nI k))]) hx hb dL_lays_107 hl (by decide) rfl (fun ls hl => ?_)
                refine lv_iload hx hb dL_lays_109 (lv_at hl 0 rfl) ?_
                refine lv_if_ne (tgt := 118) hx hb dL_lays_111 (by decide) (fun c13_ => ?_) (fun c13_ => ?_)
                · refine lv_iload hx hb dL_lays_118 (lv_at hl 0 rfl) ?_
                  refine lv_bipush (v := 10) hx hb dL_lays_120 (by decide) ?_
                  refine g_nremn (a := cf + 10 * dq) (b := 10) (by omega) (by omega) (by omega) hx hb dL_lays_122 ?_
                  rw [show (cf + 10 * dq) % 10 = cf by omega]
                  refine lv_istore (lv' := [(7, .int (nI cf)), (6, .int (nI (cf + 10 * dq))), (0, .ref nb), (1, .int (nI (K 2))), (2, .int (nI p)), (3, .int ((-1))), (4, .int (nI (200 + 10 * (K 2)))), (5, .int (nI k))]) hx hb dL_lays_123 hl (by decide) rfl (fun ls hl => ?_)
                  refine lv_iload hx hb dL_lays_125 (lv_at hl 0 rfl) ?_
                  refine lv_aload_n hx hb dL_lays_127 rfl (lv_at hl 2 rfl) ?_
                  refine lv_iload hx hb dL_lays_128 (lv_at hl 6 rfl) ?_
                  refine lv_bipush (v := 6) hx hb dL_lays_130 (by decide) ?_
                  refine g_naddn (a := 200 + 10 * (K 2)) (b := 6) hx hb dL_lays_132 ?_
                  refine g_iald (n := 450) (f := g) (j := 200 + 10 * (K 2) + 6) hC hA (by omega) (by decide) dL_lays_133 ?_
                  rw [show g (200 + 10 * (K 2) + 6) = nI l9 from (by rw [show 200 + 10 * (K 2) + 6 = 206 + 10 * (K 2) by omega]; exact el9)]
                  refine lv_icmp_lt (tgt := 167) hx hb dL_lays_134 (by decide) (fun c14_ => ?_) (fun c14_ => ?_)
                  · have n15_ : cf < l9 := (nI_ltI (by omega) (by omega)).mp c14_
                    refine lv_iinc (v := nI k - 1) (lv' := [(5, .int (nI k - 1)), (7, .int (nI cf)), (6, .int (nI (cf + 10 * dq))), (0, .ref nb), (1, .int (nI (K 2))), (2, .int (nI p)), (3, .int ((-1))), (4, .int (nI (200 + 10 * (K 2))))]) hx hb dL_lays_167 hl (k := 7) rfl (g_dec _) (by decide) rfl (fun ls hl => ?_)
                    refine lv_goto (tgt := 33) hx hb dL_lays_170 (by decide) ?_
                    exact ih_loop k g H lo ls (by omega) (by omega) i2 i3 i4 (i5.skip hl9 el9 (Or.inr (by rw [hcl]; omega))) hA hS (lv_sub hl [3, 4, 5, 6, 7, 0] rfl)
                  · have n15_ : l9 ≤ cf := Nat.not_lt.mp (fun z => c14_ (show nI (cf) < nI (l9) from (nI_ltI (by omega) (by omega)).mpr z))
                    refine lv_aload_n hx hb dL_lays_137 rfl (lv_at hl 2 rfl) ?_
                    refine lv_iload hx hb dL_lays_138 (lv_at hl 6 rfl) ?_
                    refine lv_bipush (v := 6) hx hb dL_lays_140 (by decide) ?_
                    refine g_naddn (a := 200 + 10 * (K 2)) (b := 6) hx hb dL_lays_142 ?_
                    refine lv_iload hx hb dL_lays_143 (lv_at hl 0 rfl) ?_
                    refine g_iast (n := 450) (f := g) (j := 200 + 10 * (K 2) + 6) (x := nI cf) hC hA hS hnb (by omega) (by decide) dL_lays_145 (fun H lo hA hz_ ho_ hS => ?_)
                    have hA : gNet E nb (upd g (200 + 10 * (K 2) + 6) (nI cf)) H := hA
                    refine lv_aload_n hx hb dL_lays_146 rfl (lv_at hl 2 rfl) ?_
                    refine lv_iload hx hb dL_lays_147 (lv_at hl 6 rfl) ?_
                    refine lv_bipush (v := 7) hx hb dL_lays_149 (by decide) ?_
                    refine g_naddn (a := 200 + 10 * (K 2)) (b := 7) hx hb dL_lays_151 ?_
                    refine lv_iload hx hb dL_lays_152 (lv_at hl 7 rfl) ?_
                    refine g_iast (n := 450) (f := (upd g (200 + 10 * (K 2) + 6) (nI cf))) (j := 200 + 10 * (K 2) + 7) (x := nI k) hC hA hS hnb (by omega) (by decide) dL_lays_154 (fun H lo hA hz_ ho_ hS => ?_)
                    have hA : gNet E nb (upd (upd g (200 + 10 * (K 2) + 6) (nI cf)) (200 + 10 * (K 2) + 7) (nI k)) H := hA
                    refine lv_aload_n hx hb dL_lays_155 rfl (lv_at hl 2 rfl) ?_
                    refine lv_iload hx hb dL_lays_156 (lv_at hl 6 rfl) ?_
                    refine lv_bipush (v := 8) hx hb dL_lays_158 (by decide) ?_
                    refine g_naddn (a := 200 + 10 * (K 2)) (b := 8) hx hb dL_lays_160 ?_
                    refine lv_iload hx hb dL_lays_161 (lv_at hl 1 rfl) ?_
                    refine lv_bipush (v := 10) hx hb dL_lays_163 (by decide) ?_
                    refine g_ndivn (a := cf + 10 * dq) (b := 10) (by omega) (by omega) (by omega) hx hb dL_lays_165 ?_
                    refine g_iast (n := 450) (f := (upd (upd g (200 + 10 * (K 2) + 6) (nI cf)) (200 + 10 * (K 2) + 7) (nI k))) (j := 200 + 10 * (K 2) + 8) (x := nI ((cf + 10 * dq) / 10)) hC hA hS hnb (by omega) (by decide) dL_lays_166 (fun H lo hA hz_ ho_ hS => ?_)
                    have hA : gNet E nb (upd (upd (upd g (200 + 10 * (K 2) + 6) (nI cf)) (200 + 10 * (K 2) + 7) (nI k)) (200 + 10 * (K 2) + 8) (nI ((cf + 10 * dq) / 10))) H := hA
                    refine lv_iinc (v := nI k - 1) (lv' := [(5, .int (nI k - 1)), (7, .int (nI cf)), (6, .int (nI (cf + 10 * dq))), (0, .ref nb), (1, .int (nI (K 2))), (2, .int (nI p)), (3, .int ((-1))), (4, .int (nI (200 + 10 * (K 2))))]) hx hb dL_lays_167 hl (k := 7) rfl (g_dec _) (by decide) rfl (fun ls hl => ?_)
                    refine lv_goto (tgt := 33) hx hb dL_lays_170 (by decide) ?_
                    exact ih_loop k (upd (upd (upd g (200 + 10 * (K 2) + 6) (nI cf)) (200 + 10 * (K 2) + 7) (nI k)) (200 + 10 * (K 2) + 8) (nI ((cf + 10 * dq) / 10))) H lo ls (by omega) (by omega) (((i2.free (by omega) _).free (by omega) _).free (by omega) _) ⟨by rw [upd_n _ _ (by omega), upd_n _ _ (by omega), upd_n _ _ (by omega)]; exact i3.1, by rw [upd_n _ _ (by omega), upd_n _ _ (by omega), upd_n _ _ (by omega)]; exact i3.2⟩ (fun z z1 z2 z3 => by rw [upd_n _ _ (by omega), upd_n _ _ (by omega), upd_n _ _ (by omega)]; exact i4 z z1 z2 z3) (i5.take hl9 el9 (by omega) (⟨by assumption, by rw [ea9]; first | exact Or.inl (by assumption) | exact Or.inr ⟨nI_pos' (by omega), by assumption⟩⟩ : rLk _ _ _ _ k) (by rw [hcl]; omega) (by rw [upd_n _ _ (by omega), upd_n _ _ (by omega), show 206 + 10 * K 2 = 200 + 10 * K 2 + 6 by omega, upd_s, hcl]) (by rw [upd_n _ _ (by omega), show 207 + 10 * K 2 = 200 + 10 * K 2 + 7 by omega, upd_s]) (by rw [show 208 + 10 * K 2 = 200 + 10 * K 2 + 8 by omega, upd_s, hyl]; exact congrArg nI (by omega))) hA hS (lv_sub hl [3, 4, 5, 6, 7, 0] rfl)
                · exact absurd c13_ (nI_ne0 (by omega) (by omega))
            · have q7_ := bz.f h5_ c6_
              refine lv_iload_n hx hb dL_lays_73 rfl (lv_at hl 3 rfl) ?_
              refine lv_if_lt (tgt := 167) hx hb dL_lays_74 (by decide) (fun c16_ => ?_) (fun c16_ => ?_)
              · refine lv_iinc (v := nI k - 1) (lv' := [(5, .int (nI k - 1)), (0, .ref nb), (1, .int (nI (K 2))), (2, .int (nI p)), (3, .int ((-1))), (4, .int (nI (200 + 10 * (K 2))))]) hx hb dL_lays_167 hl (k := 5) rfl (g_dec _) (by decide) rfl (fun ls hl => ?_)
                refine lv_goto (tgt := 33) hx hb dL_lays_170 (by decide) ?_
                exact ih_loop k g H lo ls (by omega) (by omega) i2 i3 i4 (i5.skip hl9 el9 (Or.inl (by
            rintro ⟨z1, z2⟩
            rw [ea9] at z2
            first
            | exact absurd z1 (by assumption)
            | exact z2.elim (by assumption) (fun z => absurd z.1 (by decide))
            | exact z2.elim (by assumption) (fun z => absurd z.2 (by assumption))))) hA hS (lv_sub hl [1, 2, 3, 4, 5, 0] rfl)
              · exact absurd (by decide) c16_
  exact loop (((K 1)) + 1) (K 1) (upd (upd f (200 + 10 * (K 2) + 6) 0) (200 + 10 * (K 2) + 7) (-1)) H lo ls (by omega) (Nat.le_refl _) ((hN.free (by omega) _).free (by omega) _) ⟨by rw [upd_n _ _ (by omega), upd_n _ _ (by omega)]; exact hk0, by rw [upd_n _ _ (by omega), upd_n _ _ (by omega)]; exact hS0⟩ (fun z z1 z2 z3 => by rw [upd_n _ _ (by omega), upd_n _ _ (by omega)]) (Or.inl ⟨by rw [upd_n _ _ (by omega), show 206 + 10 * K 2 = 200 + 10 * K 2 + 6 by omega, upd_s], by rw [show 207 + 10 * K 2 = 200 + 10 * K 2 + 7 by omega, upd_s], fun t t1 t2 => by omega⟩) hA hS (lv_sub hl [2, 3, 4, 5, 1, 0] rfl)
set_option maxHeartbeats 4000000 in
set_option maxRecDepth 100000 in
theorem c_L_lays2 {l : Launch} {E : gV} (hE : gOK l E) {nb D : Nat} {f : Nat → Int32} {μ : F2} {K : Nat → Nat} (hN : NL f μ K D) (hU : PU μ K) (p j : Nat) (k0 S : Int32) (hp : p < K 0) (hj : j < K 0) (hd : K 2 < 24) (hk0 : f (200 + 10 * K 2) = k0) (hS0 : f (204 + 10 * K 2) = S) : gM l E yL_lays cL_lays 8 none ({ frames := 1, cells := 0, slots := 0, locals := 27 } : Room) [.ref nb, .int (nI (K 2)), .int (nI p), .int (nI j)] (fun H => gNet E nb f H) (gQW (nB nb) (gWv (fun H => ∃ g, gNet E nb g H ∧ NL g μ K D ∧ (∀ z, z ≠ 206 + 10 * K 2 → z ≠ 207 + 10 * K 2 → z ≠ 208 + 10 * K 2 → g z = f z) ∧ Ch (mv μ) (μ 22 0) (nI p) (nI j) k0 S 0 (K 1) (g (206 + 10 * K 2)) (g (207 + 10 * K 2)) (g (208 + 10 * K 2))))) (fun _ => False) (nB nb) := by
  refine gM_body hE (by decide +kernel) (Nat.le_of_ble_eq_true rfl) ?_
  intro p_ e_ s m args below meth c hC ht hr hname hP ls hl
  have hx := hC.2.2.1
  have hb := hC.2.2.2.1
  have hl : lv_has ls 8 [(0, .ref nb), (1, .int (nI (K 2))), (2, .int (nI p)), (3, .int (nI j))] := hl
  have hS : va_S ((nB nb)) s.heap s.heap [] := va_S.rf
  have hA : gNet E nb f s.heap := hP
  have hb0 := hN.b0
  have hb1 := hN.b1
  have hb2 := hN.b2
  have hnb : nB nb nb := rfl
  refine lv_sipush (v := 200) hx hb dL_lays_0 (by decide) ?_
  refine lv_bipush (v := 10) hx hb dL_lays_3 (by decide) ?_
  refine lv_iload_n hx hb dL_lays_5 rfl (lv_at hl 1 rfl) ?_
  refine g_nmuln (a := 10) (b := K 2) hx hb dL_lays_6 ?_
  refine g_naddn (a := 200) (b := 10 * (K 2)) hx hb dL_lays_7 ?_
  refine lv_istore (lv' := [(4, .int (nI (200 + 10 * (K 2)))), (0, .ref nb), (1, .int (nI (K 2))), (2, .int (nI p)), (3, .int (nI j))]) hx hb dL_lays_8 hl (by decide) rfl (fun ls hl => ?_)
  refine lv_aload_n hx hb dL_lays_10 rfl (lv_at hl 1 rfl) ?_
  refine lv_iload hx hb dL_lays_11 (lv_at hl 0 rfl) ?_
  refine lv_bipush (v := 6) hx hb dL_lays_13 (by decide) ?_
  refine g_naddn (a := 200 + 10 * (K 2)) (b := 6) hx hb dL_lays_15 ?_
  refine lv_iconst (v := 0) hx hb dL_lays_16 (by decide) ?_
  refine g_iast (n := 450) (f := f) (j := 200 + 10 * (K 2) + 6) (x := 0) hC hA hS hnb (by omega) (by decide) dL_lays_17 (fun H lo hA hz_ ho_ hS => ?_)
  have hA : gNet E nb (upd f (200 + 10 * (K 2) + 6) 0) H := hA
  refine lv_aload_n hx hb dL_lays_18 rfl (lv_at hl 1 rfl) ?_
  refine lv_iload hx hb dL_lays_19 (lv_at hl 0 rfl) ?_
  refine lv_bipush (v := 7) hx hb dL_lays_21 (by decide) ?_
  refine g_naddn (a := 200 + 10 * (K 2)) (b := 7) hx hb dL_lays_23 ?_
  refine lv_iconst (v := (-1)) hx hb dL_lays_24 (by decide) ?_
  refine g_iast (n := 450) (f := (upd f (200 + 10 * (K 2) + 6) 0)) (j := 200 + 10 * (K 2) + 7) (x := (-1)) hC hA hS hnb (by omega) (by decide) dL_lays_25 (fun H lo hA hz_ ho_ hS => ?_)
  have hA : gNet E nb (upd (upd f (200 + 10 * (K 2) + 6) 0) (200 + 10 * (K 2) + 7) (-1)) H := hA
  refine lv_aload_n hx hb dL_lays_26 rfl (lv_at hl 1 rfl) ?_
  refine lv_iconst (v := 1) hx hb dL_lays_27 (by decide) ?_
  refine g_iald (n := 450) (f := (upd (upd f (200 + 10 * (K 2) + 6) 0) (200 + 10 * (K 2) + 7) (-1))) (j := 1) hC hA (by omega) (by decide) dL_lays_28 ?_
  rw [show (upd (upd f (200 + 10 * (K 2) + 6) 0) (200 + 10 * (K 2) + 7) (-1)) (1) = nI (K 1) from by rw [upd_n _ _ (by omega), upd_n _ _ (by omega)]; exact hN.k1]
  refine lv_iconst (v := 1) hx hb dL_lays_29 (by decide) ?_
  refine lv_isub hx hb dL_lays_30 ?_
  refine lv_istore (lv' := [(5, .int ((nI (K 1)) - 1)), (4, .int (nI (200 + 10 * (K 2)))), (0, .ref nb), (1, .int (nI (K 2))), (2, .int (nI p)), (3, .int (nI j))]) hx hb dL_lays_31 hl (by decide) rfl (fun ls hl => ?_)
  have loop : ∀ (n_ : Nat) (m_ : Nat) (g : Nat → Int32) (H : Heap) (lo : List Loc) (ls : Array Slot), m_ < n_ → (m_ ≤ K 1) → (NL g μ K D) → (g (200 + 10 * K 2) = k0 ∧ g (204 + 10 * K 2) = S) → (∀ z, z ≠ 206 + 10 * K 2 → z ≠ 207 + 10 * K 2 → z ≠ 208 + 10 * K 2 → g z = f z) → (Ch (mv μ) (μ 22 0) (nI p) (nI j) k0 S m_ (K 1) (g (206 + 10 * K 2)) (g (207 + 10 * K 2)) (g (208 + 10 * K 2))) → gNet E nb g H → va_S ((nB nb)) s.heap H lo → lv_has ls 8 [(0, .ref nb), (1, .int (nI (K 2))), (2, .int (nI p)), (3, .int (nI j)), (4, .int (nI (200 + 10 * (K 2)))), (5, .int (nI m_ - 1))] → W p_ l e_ ({ frames := 1, cells := 0, slots := 0, locals := 27 } : Room) s m args below meth c H lo 0 0 (vx_MQ below (gQW (nB nb) (gWv (fun H => ∃ g, gNet E nb g H ∧ NL g μ K D ∧ (∀ z, z ≠ 206 + 10 * K 2 → z ≠ 207 + 10 * K 2 → z ≠ 208 + 10 * K 2 → g z = f z) ∧ Ch (mv μ) (μ 22 0) (nI p) (nI j) k0 S 0 (K 1) (g (206 + 10 * K 2)) (g (207 + 10 * K 2)) (g (208 + 10 * K 2))))) (gX (fun _ => False)) args s 0 0 (nB nb)) (F0 m 33 ls []) := by
    intro n_
    induction n_ with
    | zero => intro m_ g H lo ls h_; exact absurd h_ (Nat.not_lt_zero _)
    | succ n_ ih_loop =>
      intro m_ g H lo ls hn_ i1 i2 i3 i4 i5 hA hS hl
      rcases m_ with _ | k
      · refine lv_iload hx hb dL_lays_33 (lv_at hl 5 rfl) ?_
        refine lv_if_lt (tgt := 173) hx hb dL_lays_35 (by decide) (fun c1_ => ?_) (fun c1_ => ?_)
        · exact g_vretW hC hr dL_lays_173 hS (Nat.le_of_ble_eq_true rfl) (Nat.le_of_ble_eq_true rfl) ⟨g, hA, i2, i4, i5⟩
        · exact absurd (by decide) c1_
      · rw [nI_pred k] at hl
        have hl : lv_has ls 8 [(0, .ref nb), (1, .int (nI (K 2))), (2, .int (nI p)), (3, .int (nI j)), (4, .int (nI (200 + 10 * (K 2)))), (5, .int (nI k))] := hl
        obtain ⟨j9, hj9, e9⟩ := hU.hol (i := k) (by omega)
        obtain ⟨l9, hl9, el9⟩ := i5.ltr
        have ea9 : mv μ 5 k = nI j9 := e9
        have e6 : mv μ 6 k = μ 4 k := rfl
        refine lv_iload hx hb dL_lays_33 (lv_at hl 5 rfl) ?_
        refine lv_if_lt (tgt := 173) hx hb dL_lays_35 (by decide) (fun c2_ => ?_) (fun c2_ => ?_)
        · exact absurd c2_ (nI_pos (by omega))
        · refine lv_aload_n hx hb dL_lays_38 rfl (lv_at hl 0 rfl) ?_
          refine lv_bipush (v := 31) hx hb dL_lays_39 (by decide) ?_
          refine lv_bipush (v := 8) hx hb dL_lays_41 (by decide) ?_
          refine lv_iload hx hb dL_lays_43 (lv_at hl 5 rfl) ?_
          refine g_nmuln (a := 8) (b := k) hx hb dL_lays_45 ?_
          refine g_naddn (a := 31) (b := 8 * k) hx hb dL_lays_46 ?_
          refine g_iald (n := 450) (f := g) (j := 31 + 8 * k) hC hA (by omega) (by decide) dL_lays_47 ?_
          rw [show g (31 + 8 * k) = μ 4 k from i2.p4 (i := k) (by omega) (by omega)]
          refine lv_aload_n hx hb dL_lays_48 rfl (lv_at hl 0 rfl) ?_
          refine lv_iload hx hb dL_lays_49 (lv_at hl 4 rfl) ?_
          refine g_iald (n := 450) (f := g) (j := 200 + 10 * (K 2)) hC hA (by omega) (by decide) dL_lays_51 ?_
          rw [show g (200 + 10 * (K 2)) = k0 from i3.1]
          refine lv_icmp_ne (tgt := 167) hx hb dL_lays_52 (by decide) (fun c3_ => ?_) (fun c3_ => ?_)
          · refine lv_iinc (v := nI k - 1) (lv' := [(5, .int (nI k - 1)), (0, .ref nb), (1, .int (nI (K 2))), (2, .int (nI p)), (3, .int (nI j)), (4, .int (nI (200 + 10 * (K 2))))]) hx hb dL_lays_167 hl (k := 5) rfl (g_dec _) (by decide) rfl (fun ls hl => ?_)
            refine lv_goto (tgt := 33) hx hb dL_lays_170 (by decide) ?_
            exact ih_loop k g H lo ls (by omega) (by omega) i2 i3 i4 (i5.skip hl9 el9 (Or.inl (by
            rintro ⟨z1, z2⟩
            rw [ea9] at z2
            first
            | exact absurd z1 (by assumption)
            | exact z2.elim (by assumption) (fun z => absurd z.1 (by decide))
            | exact z2.elim (by assumption) (fun z => absurd z.2 (by assumption))))) hA hS (lv_sub hl [1, 2, 3, 4, 5, 0] rfl)
          · refine lv_aload_n hx hb dL_lays_55 rfl (lv_at hl 0 rfl) ?_
            refine lv_iload_n hx hb dL_lays_56 rfl (lv_at hl 2 rfl) ?_
            refine lv_aload_n hx hb dL_lays_57 rfl (lv_at hl 0 rfl) ?_
            refine lv_bipush (v := 30) hx hb dL_lays_58 (by decide) ?_
            refine lv_bipush (v := 8) hx hb dL_lays_60 (by decide) ?_
            refine lv_iload hx hb dL_lays_62 (lv_at hl 5 rfl) ?_
            refine g_nmuln (a := 8) (b := k) hx hb dL_lays_64 ?_
            refine g_naddn (a := 30) (b := 8 * k) hx hb dL_lays_65 ?_
            refine g_iald (n := 450) (f := g) (j := 30 + 8 * k) hC hA (by omega) (by decide) dL_lays_66 ?_
            rw [show g (30 + 8 * k) = nI j9 from ((i2.p3 (i := k) (by omega) rfl).trans e9)]
            refine g_cRi (k2 := 0) (n2 := 0) (g_runS (rest := []) hC (c_L_acts hE (nb := nb) i2 hU p j9 (by omega) (by omega)) Y_L_acts k_849 S_L_acts hA rfl hl.1 dL_lays_67 ⟨Nat.le_of_ble_eq_true rfl, Nat.le_of_ble_eq_true rfl⟩ ⟨Nat.le_of_ble_eq_true rfl, Nat.le_of_ble_eq_true rfl⟩ rfl (Nat.le_of_ble_eq_true rfl)) rfl rfl g_no (fun r4_ h5_ => ?_)
            refine lv_if_ne (tgt := 95) hx hb dL_lays_70 (by decide) (fun c6_ => ?_) (fun c6_ => ?_)
            · have q7_ := bz.t h5_ c6_
              refine lv_aload_n hx hb dL_lays_95 rfl (lv_at hl 0 rfl) ?_
              refine lv_iload hx hb dL_lays_96 (lv_at hl 5 rfl) ?_
              refine lv_aload_n hx hb dL_lays_98 rfl (lv_at hl 0 rfl) ?_
              refine lv_iload hx hb dL_lays_99 (lv_at hl 4 rfl) ?_
              refine lv_iconst (v := 4) hx hb dL_lays_101 (by decide) ?_
              refine g_naddn (a := 200 + 10 * (K 2)) (b := 4) hx hb dL_lays_102 ?_
              refine g_iald (n := 450) (f := g) (j := 200 + 10 * (K 2) + 4) hC hA (by omega) (by decide) dL_lays_103 ?_
              rw [show g (200 + 10 * (K 2) + 4) = S from (by rw [show 200 + 10 * (K 2) + 4 = 204 + 10 * (K 2) by omega]; exact i3.2)]
              refine g_cRi (k2 := 0) (n2 := 0) (g_runS (rest := []) hC (c_L_faulted hE (nb := nb) i2 hU k S (by omega)) Y_L_faulted k_852 S_L_faulted hA rfl hl.1 dL_lays_104 ⟨Nat.le_of_ble_eq_true rfl, Nat.le_of_ble_eq_true rfl⟩ ⟨Nat.le_of_ble_eq_true rfl, Nat.le_of_ble_eq_true rfl⟩ rfl (Nat.le_of_ble_eq_true rfl)) rfl rfl g_no (fun r8_ h9_ => ?_)
              have hff := h9_
              rcases fTl_0 (td := μ 22 0) (s := S) (p := k) hU.fs (by omega) (by omega) with ⟨hfl, hfv⟩ | ⟨hfl, hfv, hdq⟩
              · obtain rfl : r8_ = 0 := hff.trans hfv
                have hcl : cLk (mv μ) (μ 22 0) S k = 4 := if_pos hfl
                have hyl : yLk (mv μ) (μ 22 0) S k = 0 := if_pos hfl
                refine lv_istore (lv' := [(6, .int 0), (0, .ref nb), (1, .int (nI (K 2))), (2, .int (nI p)), (3, .int (nI j)), (4, .int (nI (200 + 10 * (K 2)))), (5, .int (nI k))]) hx hb dL_lays_107 hl (by decide) rfl (fun ls hl => ?_)
                refine lv_iload hx hb dL_lays_109 (lv_at hl 0 rfl) ?_
                refine lv_if_ne (tgt := 118) hx hb dL_lays_111 (by decide) (fun c10_ => ?_) (fun c10_ => ?_)
                · exact absurd c10_ (by decide)
                · refine lv_iconst (v := 4) hx hb dL_lays_114 (by decide) ?_
                  refine lv_goto (tgt := 123) hx hb dL_lays_115 (by decide) ?_
                  refine lv_istore (lv' := [(7, .int 4), (6, .int 0), (0, .ref nb), (1, .int (nI (K 2))), (2, .int (nI p)), (3, .int (nI j)), (4, .int (nI (200 + 10 * (K 2)))), (5, .int (nI k))]) hx hb dL_lays_123 hl (by decide) rfl (fun ls hl => ?_)
                  refine lv_iload hx hb dL_lays_125 (lv_at hl 0 rfl) ?_
                  refine lv_aload_n hx hb dL_lays_127 rfl (lv_at hl 2 rfl) ?_
                  refine lv_iload hx hb dL_lays_128 (lv_at hl 6 rfl) ?_
                  refine lv_bipush (v := 6) hx hb dL_lays_130 (by decide) ?_
                  refine g_naddn (a := 200 + 10 * (K 2)) (b := 6) hx hb dL_lays_132 ?_
                  refine g_iald (n := 450) (f := g) (j := 200 + 10 * (K 2) + 6) hC hA (by omega) (by decide) dL_lays_133 ?_
                  rw [show g (200 + 10 * (K 2) + 6) = nI l9 from (by rw [show 200 + 10 * (K 2) + 6 = 206 + 10 * (K 2) by omega]; exact el9)]
                  refine lv_icmp_lt (tgt := 167) hx hb dL_lays_134 (by decide) (fun c11_ => ?_) (fun c11_ => ?_)
                  · have n12_ : 4 < l9 := (nI_ltI (by omega) (by omega)).mp c11_
                    refine lv_iinc (v := nI k - 1) (lv' := [(5, .int (nI k - 1)), (7, .int 4), (6, .int 0), (0, .ref nb), (1, .int (nI (K 2))), (2, .int (nI p)), (3, .int (nI j)), (4, .int (nI (200 + 10 * (K 2))))]) hx hb dL_lays_167 hl (k := 7) rfl (g_dec _) (by decide) rfl (fun ls hl => ?_)
                    refine lv_goto (tgt := 33) hx hb dL_lays_170 (by decide) ?_
                    exact ih_loop k g H lo ls (by omega) (by omega) i2 i3 i4 (i5.skip hl9 el9 (Or.inr (by rw [hcl]; omega))) hA hS (lv_sub hl [3, 4, 5, 6, 7, 0] rfl)
                  · have n12_ : l9 ≤ 4 := Nat.not_lt.mp (fun z => c11_ (show nI (4) < nI (l9) from (nI_ltI (by omega) (by omega)).mpr z))
                    refine lv_aload_n hx hb dL_lays_137 rfl (lv_at hl 2 rfl) ?_
                    refine lv_iload hx hb dL_lays_138 (lv_at hl 6 rfl) ?_
                    refine lv_bipush (v := 6) hx hb dL_lays_140 (by decide) ?_
                    refine g_naddn (a := 200 + 10 * (K 2)) (b := 6) hx hb dL_lays_142 ?_
                    refine lv_iload hx hb dL_lays_143 (lv_at hl 0 rfl) ?_
                    refine g_iast (n := 450) (f := g) (j := 200 + 10 * (K 2) + 6) (x := 4) hC hA hS hnb (by omega) (by decide) dL_lays_145 (fun H lo hA hz_ ho_ hS => ?_)
                    have hA : gNet E nb (upd g (200 + 10 * (K 2) + 6) 4) H := hA
                    refine lv_aload_n hx hb dL_lays_146 rfl (lv_at hl 2 rfl) ?_
                    refine lv_iload hx hb dL_lays_147 (lv_at hl 6 rfl) ?_
                    refine lv_bipush (v := 7) hx hb dL_lays_149 (by decide) ?_
                    refine g_naddn (a := 200 + 10 * (K 2)) (b := 7) hx hb dL_lays_151 ?_
                    refine lv_iload hx hb dL_lays_152 (lv_at hl 7 rfl) ?_
                    refine g_iast (n := 450) (f := (upd g (200 + 10 * (K 2) + 6) 4)) (j := 200 + 10 * (K 2) + 7) (x := nI k) hC hA hS hnb (by omega) (by decide) dL_lays_154 (fun H lo hA hz_ ho_ hS => ?_)
                    have hA : gNet E nb (upd (upd g (200 + 10 * (K 2) + 6) 4) (200 + 10 * (K 2) + 7) (nI k)) H := hA
                    refine lv_aload_n hx hb dL_lays_155 rfl (lv_at hl 2 rfl) ?_
                    refine lv_iload hx hb dL_lays_156 (lv_at hl 6 rfl) ?_
                    refine lv_bipush (v := 8) hx hb dL_lays_158 (by decide) ?_
                    refine g_naddn (a := 200 + 10 * (K 2)) (b := 8) hx hb dL_lays_160 ?_
                    refine lv_iload hx hb dL_lays_161 (lv_at hl 1 rfl) ?_
                    refine lv_bipush (v := 10) hx hb dL_lays_163 (by decide) ?_
                    refine g_ndivn (a := 0) (b := 10) (by omega) (by omega) (by omega) hx hb dL_lays_165 ?_
                    refine g_iast (n := 450) (f := (upd (upd g (200 + 10 * (K 2) + 6) 4) (200 + 10 * (K 2) + 7) (nI k))) (j := 200 + 10 * (K 2) + 8) (x := nI (0 / 10)) hC hA hS hnb (by omega) (by decide) dL_lays_166 (fun H lo hA hz_ ho_ hS => ?_)
                    have hA : gNet E nb (upd (upd (upd g (200 + 10 * (K 2) + 6) 4) (200 + 10 * (K 2) + 7) (nI k)) (200 + 10 * (K 2) + 8) (nI (0 / 10))) H := hA
                    refine lv_iinc (v := nI k - 1) (lv' := [(5, .int (nI k - 1)), (7, .int 4), (6, .int 0), (0, .ref nb), (1, .int (nI (K 2))), (2, .int (nI p)), (3, .int (nI j)), (4, .int (nI (200 + 10 * (K 2))))]) hx hb dL_lays_167 hl (k := 7) rfl (g_dec _) (by decide) rfl (fun ls hl => ?_)
                    refine lv_goto (tgt := 33) hx hb dL_lays_170 (by decide) ?_
                    exact ih_loop k (upd (upd (upd g (200 + 10 * (K 2) + 6) 4) (200 + 10 * (K 2) + 7) (nI k)) (200 + 10 * (K 2) + 8) (nI (0 / 10))) H lo ls (by omega) (by omega) (((i2.free (by omega) _).free (by omega) _).free (by omega) _) ⟨by rw [upd_n _ _ (by omega), upd_n _ _ (by omega), upd_n _ _ (by omega)]; exact i3.1, by rw [upd_n _ _ (by omega), upd_n _ _ (by omega), upd_n _ _ (by omega)]; exact i3.2⟩ (fun z z1 z2 z3 => by rw [upd_n _ _ (by omega), upd_n _ _ (by omega), upd_n _ _ (by omega)]; exact i4 z z1 z2 z3) (i5.take hl9 el9 (by omega) (⟨by assumption, by rw [ea9]; first | exact Or.inl (by assumption) | exact Or.inr ⟨nI_pos' (by omega), by assumption⟩⟩ : rLk _ _ _ _ k) (by rw [hcl]; omega) (by rw [upd_n _ _ (by omega), upd_n _ _ (by omega), show 206 + 10 * K 2 = 200 + 10 * K 2 + 6 by omega, upd_s, hcl]; rfl) (by rw [upd_n _ _ (by omega), show 207 + 10 * K 2 = 200 + 10 * K 2 + 7 by omega, upd_s]) (by rw [show 208 + 10 * K 2 = 200 + 10 * K 2 + 8 by omega, upd_s, hyl]; decide)) hA hS (lv_sub hl [3, 4, 5, 6, 7, 0] rfl)
              · obtain rfl : r8_ = nI _ := hff.trans hfv
                have hcl : cLk (mv μ) (μ 22 0) S k = fCd (fl (mv μ) (μ 22 0) S k) := if_neg hfl
                have hyl : yLk (mv μ) (μ 22 0) S k = nI (dpt (mv μ) (μ 22 0) S k) := if_neg hfl
                have hcb := fCd_b (fl (mv μ) (μ 22 0) S k)
                generalize fCd (fl (mv μ) (μ 22 0) S k) = cf at *
                generalize dpt (mv μ) (μ 22 0) S k = dq at *
                refine lv_istore (lv' := [(6, .int (nI (cf + 10 * dq))), (0, .ref nb), (1, .int (nI (K 2))), (2, .int (nI p)), (3, .int (nI j)), (4, .int (nI (200 + 10 * (K 2)))), (5, .int (nI k))]) hx hb dL_lays_107 hl (by decide) rfl (fun ls hl => ?_)
                refine lv_iload hx hb dL_lays_109 (lv_at hl 0 rfl) ?_
                refine lv_if_ne (tgt := 118) hx hb dL_lays_111 (by decide) (fun c13_ => ?_) (fun c13_ => ?_)
                · refine lv_iload hx hb dL_lays_118 (lv_at hl 0 rfl) ?_
                  refine lv_bipush (v := 10) hx hb dL_lays_120 (by decide) ?_
                  refine g_nremn (a := cf + 10 * dq) (b := 10) (by omega) (by omega) (by omega) hx hb dL_lays_122 ?_
                  rw [show (cf + 10 * dq) % 10 = cf by omega]
                  refine lv_istore (lv' := [(7, .int (nI cf)), (6, .int (nI (cf + 10 * dq))), (0, .ref nb), (1, .int (nI (K 2))), (2, .int (nI p)), (3, .int (nI j)), (4, .int (nI (200 + 10 * (K 2)))), (5, .int (nI k))]) hx hb dL_lays_123 hl (by decide) rfl (fun ls hl => ?_)
                  refine lv_iload hx hb dL_lays_125 (lv_at hl 0 rfl) ?_
                  refine lv_aload_n hx hb dL_lays_127 rfl (lv_at hl 2 rfl) ?_
                  refine lv_iload hx hb dL_lays_128 (lv_at hl 6 rfl) ?_
                  refine lv_bipush (v := 6) hx hb dL_lays_130 (by decide) ?_
                  refine g_naddn (a := 200 + 10 * (K 2)) (b := 6) hx hb dL_lays_132 ?_
                  refine g_iald (n := 450) (f := g) (j := 200 + 10 * (K 2) + 6) hC hA (by omega) (by decide) dL_lays_133 ?_
                  rw [show g (200 + 10 * (K 2) + 6) = nI l9 from (by rw [show 200 + 10 * (K 2) + 6 = 206 + 10 * (K 2) by omega]; exact el9)]
                  refine lv_icmp_lt (tgt := 167) hx hb dL_lays_134 (by decide) (fun c14_ => ?_) (fun c14_ => ?_)
                  · have n15_ : cf < l9 := (nI_ltI (by omega) (by omega)).mp c14_
                    refine lv_iinc (v := nI k - 1) (lv' := [(5, .int (nI k - 1)), (7, .int (nI cf)), (6, .int (nI (cf + 10 * dq))), (0, .ref nb), (1, .int (nI (K 2))), (2, .int (nI p)), (3, .int (nI j)), (4, .int (nI (200 + 10 * (K 2))))]) hx hb dL_lays_167 hl (k := 7) rfl (g_dec _) (by decide) rfl (fun ls hl => ?_)
                    refine lv_goto (tgt := 33) hx hb dL_lays_170 (by decide) ?_
                    exact ih_loop k g H lo ls (by omega) (by omega) i2 i3 i4 (i5.skip hl9 el9 (Or.inr (by rw [hcl]; omega))) hA hS (lv_sub hl [3, 4, 5, 6, 7, 0] rfl)
                  · have n15_ : l9 ≤ cf := Nat.not_lt.mp (fun z => c14_ (show nI (cf) < nI (l9) from (nI_ltI (by omega) (by omega)).mpr z))
                    refine lv_aload_n hx hb dL_lays_137 rfl (lv_at hl 2 rfl) ?_
                    refine lv_iload hx hb dL_lays_138 (lv_at hl 6 rfl) ?_
                    refine lv_bipush (v := 6) hx hb dL_lays_140 (by decide) ?_
                    refine g_naddn (a := 200 + 10 * (K 2)) (b := 6) hx hb dL_lays_142 ?_
                    refine lv_iload hx hb dL_lays_143 (lv_at hl 0 rfl) ?_
                    refine g_iast (n := 450) (f := g) (j := 200 + 10 * (K 2) + 6) (x := nI cf) hC hA hS hnb (by omega) (by decide) dL_lays_145 (fun H lo hA hz_ ho_ hS => ?_)
                    have hA : gNet E nb (upd g (200 + 10 * (K 2) + 6) (nI cf)) H := hA
                    refine lv_aload_n hx hb dL_lays_146 rfl (lv_at hl 2 rfl) ?_
                    refine lv_iload hx hb dL_lays_147 (lv_at hl 6 rfl) ?_
                    refine lv_bipush (v := 7) hx hb dL_lays_149 (by decide) ?_
                    refine g_naddn (a := 200 + 10 * (K 2)) (b := 7) hx hb dL_lays_151 ?_
                    refine lv_iload hx hb dL_lays_152 (lv_at hl 7 rfl) ?_
                    refine g_iast (n := 450) (f := (upd g (200 + 10 * (K 2) + 6) (nI cf))) (j := 200 + 10 * (K 2) + 7) (x := nI k) hC hA hS hnb (by omega) (by decide) dL_lays_154 (fun H lo hA hz_ ho_ hS => ?_)
                    have hA : gNet E nb (upd (upd g (200 + 10 * (K 2) + 6) (nI cf)) (200 + 10 * (K 2) + 7) (nI k)) H := hA
                    refine lv_aload_n hx hb dL_lays_155 rfl (lv_at hl 2 rfl) ?_
                    refine lv_iload hx hb dL_lays_156 (lv_at hl 6 rfl) ?_
                    refine lv_bipush (v := 8) hx hb dL_lays_158 (by decide) ?_
                    refine g_naddn (a := 200 + 10 * (K 2)) (b := 8) hx hb dL_lays_160 ?_
                    refine lv_iload hx hb dL_lays_161 (lv_at hl 1 rfl) ?_
                    refine lv_bipush (v := 10) hx hb dL_lays_163 (by decide) ?_
                    refine g_ndivn (a := cf + 10 * dq) (b := 10) (by omega) (by omega) (by omega) hx hb dL_lays_165 ?_
                    refine g_iast (n := 450) (f := (upd (upd g (200 + 10 * (K 2) + 6) (nI cf)) (200 + 10 * (K 2) + 7) (nI k))) (j := 200 + 10 * (K 2) + 8) (x := nI ((cf + 10 * dq) / 10)) hC hA hS hnb (by omega) (by decide) dL_lays_166 (fun H lo hA hz_ ho_ hS => ?_)
                    have hA : gNet E nb (upd (upd (upd g (200 + 10 * (K 2) + 6) (nI cf)) (200 + 10 * (K 2) + 7) (nI k)) (200 + 10 * (K 2) + 8) (nI ((cf + 10 * dq) / 10))) H := hA
                    refine lv_iinc (v := nI k - 1) (lv' := [(5, .int (nI k - 1)), (7, .int (nI cf)), (6, .int (nI (cf + 10 * dq))), (0, .ref nb), (1, .int (nI (K 2))), (2, .int (nI p)), (3, .int (nI j)), (4, .int (nI (200 + 10 * (K 2))))]) hx hb dL_lays_167 hl (k := 7) rfl (g_dec _) (by decide) rfl (fun ls hl => ?_)
                    refine lv_goto (tgt := 33) hx hb dL_lays_170 (by decide) ?_
                    exact ih_loop k (upd (upd (upd g (200 + 10 * (K 2) + 6) (nI cf)) (200 + 10 * (K 2) + 7) (nI k)) (200 + 10 * (K 2) + 8) (nI ((cf + 10 * dq) / 10))) H lo ls (by omega) (by omega) (((i2.free (by omega) _).free (by omega) _).free (by omega) _) ⟨by rw [upd_n _ _ (by omega), upd_n _ _ (by omega), upd_n _ _ (by omega)]; exact i3.1, by rw [upd_n _ _ (by omega), upd_n _ _ (by omega), upd_n _ _ (by omega)]; exact i3.2⟩ (fun z z1 z2 z3 => by rw [upd_n _ _ (by omega), upd_n _ _ (by omega), upd_n _ _ (by omega)]; exact i4 z z1 z2 z3) (i5.take hl9 el9 (by omega) (⟨by assumption, by rw [ea9]; first | exact Or.inl (by assumption) | exact Or.inr ⟨nI_pos' (by omega), by assumption⟩⟩ : rLk _ _ _ _ k) (by rw [hcl]; omega) (by rw [upd_n _ _ (by omega), upd_n _ _ (by omega), show 206 + 10 * K 2 = 200 + 10 * K 2 + 6 by omega, upd_s, hcl]) (by rw [upd_n _ _ (by omega), show 207 + 10 * K 2 = 200 + 10 * K 2 + 7 by omega, upd_s]) (by rw [show 208 + 10 * K 2 = 200 + 10 * K 2 + 8 by omega, upd_s, hyl]; exact congrArg nI (by omega))) hA hS (lv_sub hl [3, 4, 5, 6, 7, 0] rfl)
                · exact absurd c13_ (nI_ne0 (by omega) (by omega))
            · have q7_ := bz.f h5_ c6_
              refine lv_iload_n hx hb dL_lays_73 rfl (lv_at hl 3 rfl) ?_
              refine lv_if_lt (tgt := 167) hx hb dL_lays_74 (by decide) (fun c16_ => ?_) (fun c16_ => ?_)
              · exact absurd c16_ (nI_pos (by omega))
              · refine lv_aload_n hx hb dL_lays_77 rfl (lv_at hl 0 rfl) ?_
                refine lv_iload_n hx hb dL_lays_78 rfl (lv_at hl 3 rfl) ?_
                refine lv_aload_n hx hb dL_lays_79 rfl (lv_at hl 0 rfl) ?_
                refine lv_bipush (v := 30) hx hb dL_lays_80 (by decide) ?_
                refine lv_bipush (v := 8) hx hb dL_lays_82 (by decide) ?_
                refine lv_iload hx hb dL_lays_84 (lv_at hl 5 rfl) ?_
                refine g_nmuln (a := 8) (b := k) hx hb dL_lays_86 ?_
                refine g_naddn (a := 30) (b := 8 * k) hx hb dL_lays_87 ?_
                refine g_iald (n := 450) (f := g) (j := 30 + 8 * k) hC hA (by omega) (by decide) dL_lays_88 ?_
                rw [show g (30 + 8 * k) = nI j9 from ((i2.p3 (i := k) (by omega) rfl).trans e9)]
                refine g_cRi (k2 := 0) (n2 := 0) (g_runS (rest := []) hC (c_L_acts hE (nb := nb) i2 hU j j9 (by omega) (by omega)) Y_L_acts k_849 S_L_acts hA rfl hl.1 dL_lays_89 ⟨Nat.le_of_ble_eq_true rfl, Nat.le_of_ble_eq_true rfl⟩ ⟨Nat.le_of_ble_eq_true rfl, Nat.le_of_ble_eq_true rfl⟩ rfl (Nat.le_of_ble_eq_true rfl)) rfl rfl g_no (fun r17_ h18_ => ?_)
                refine lv_if_eq (tgt := 167) hx hb dL_lays_92 (by decide) (fun c19_ => ?_) (fun c19_ => ?_)
                · have q20_ := bz.f h18_ c19_
                  refine lv_iinc (v := nI k - 1) (lv' := [(5, .int (nI k - 1)), (0, .ref nb), (1, .int (nI (K 2))), (2, .int (nI p)), (3, .int (nI j)), (4, .int (nI (200 + 10 * (K 2))))]) hx hb dL_lays_167 hl (k := 5) rfl (g_dec _) (by decide) rfl (fun ls hl => ?_)
                  refine lv_goto (tgt := 33) hx hb dL_lays_170 (by decide) ?_
                  exact ih_loop k g H lo ls (by omega) (by omega) i2 i3 i4 (i5.skip hl9 el9 (Or.inl (by
            rintro ⟨z1, z2⟩
            rw [ea9] at z2
            first
            | exact absurd z1 (by assumption)
            | exact z2.elim (by assumption) (fun z => absurd z.1 (by decide))
            | exact z2.elim (by assumption) (fun z => absurd z.2 (by assumption))))) hA hS (lv_sub hl [1, 2, 3, 4, 5, 0] rfl)
                · have q20_ := bz.t h18_ c19_
                  refine lv_aload_n hx hb dL_lays_95 rfl (lv_at hl 0 rfl) ?_
                  refine lv_iload hx hb dL_lays_96 (lv_at hl 5 rfl) ?_
                  refine lv_aload_n hx hb dL_lays_98 rfl (lv_at hl 0 rfl) ?_
                  refine lv_iload hx hb dL_lays_99 (lv_at hl 4 rfl) ?_
                  refine lv_iconst (v := 4) hx hb dL_lays_101 (by decide) ?_
                  refine g_naddn (a := 200 + 10 * (K 2)) (b := 4) hx hb dL_lays_102 ?_
                  refine g_iald (n := 450) (f := g) (j := 200 + 10 * (K 2) + 4) hC hA (by omega) (by decide) dL_lays_103 ?_
                  rw [show g (200 + 10 * (K 2) + 4) = S from (by rw [show 200 + 10 * (K 2) + 4 = 204 + 10 * (K 2) by omega]; exact i3.2)]
                  refine g_cRi (k2 := 0) (n2 := 0) (g_runS (rest := []) hC (c_L_faulted hE (nb := nb) i2 hU k S (by omega)) Y_L_faulted k_852 S_L_faulted hA rfl hl.1 dL_lays_104 ⟨Nat.le_of_ble_eq_true rfl, Nat.le_of_ble_eq_true rfl⟩ ⟨Nat.le_of_ble_eq_true rfl, Nat.le_of_ble_eq_true rfl⟩ rfl (Nat.le_of_ble_eq_true rfl)) rfl rfl g_no (fun r21_ h22_ => ?_)
                  have hff := h22_
                  rcases fTl_0 (td := μ 22 0) (s := S) (p := k) hU.fs (by omega) (by omega) with ⟨hfl, hfv⟩ | ⟨hfl, hfv, hdq⟩
                  · obtain rfl : r21_ = 0 := hff.trans hfv
                    have hcl : cLk (mv μ) (μ 22 0) S k = 4 := if_pos hfl
                    have hyl : yLk (mv μ) (μ 22 0) S k = 0 := if_pos hfl
                    refine lv_istore (lv' := [(6, .int 0), (0, .ref nb), (1, .int (nI (K 2))), (2, .int (nI p)), (3, .int (nI j)), (4, .int (nI (200 + 10 * (K 2)))), (5, .int (nI k))]) hx hb dL_lays_107 hl (by decide) rfl (fun ls hl => ?_)
                    refine lv_iload hx hb dL_lays_109 (lv_at hl 0 rfl) ?_
                    refine lv_if_ne (tgt := 118) hx hb dL_lays_111 (by decide) (fun c23_ => ?_) (fun c23_ => ?_)
                    · exact absurd c23_ (by decide)
                    · refine lv_iconst (v := 4) hx hb dL_lays_114 (by decide) ?_
                      refine lv_goto (tgt := 123) hx hb dL_lays_115 (by decide) ?_
                      refine lv_istore (lv' := [(7, .int 4), (6, .int 0), (0, .ref nb), (1, .int (nI (K 2))), (2, .int (nI p)), (3, .int (nI j)), (4, .int (nI (200 + 10 * (K 2)))), (5, .int (nI k))]) hx hb dL_lays_123 hl (by decide) rfl (fun ls hl => ?_)
                      refine lv_iload hx hb dL_lays_125 (lv_at hl 0 rfl) ?_
                      refine lv_aload_n hx hb dL_lays_127 rfl (lv_at hl 2 rfl) ?_
                      refine lv_iload hx hb dL_lays_128 (lv_at hl 6 rfl) ?_
                      refine lv_bipush (v := 6) hx hb dL_lays_130 (by decide) ?_
                      refine g_naddn (a := 200 + 10 * (K 2)) (b := 6) hx hb dL_lays_132 ?_
                      refine g_iald (n := 450) (f := g) (j := 200 + 10 * (K 2) + 6) hC hA (by omega) (by decide) dL_lays_133 ?_
                      rw [show g (200 + 10 * (K 2) + 6) = nI l9 from (by rw [show 200 + 10 * (K 2) + 6 = 206 + 10 * (K 2) by omega]; exact el9)]
                      refine lv_icmp_lt (tgt := 167) hx hb dL_lays_134 (by decide) (fun c24_ => ?_) (fun c24_ => ?_)
                      · have n25_ : 4 < l9 := (nI_ltI (by omega) (by omega)).mp c24_
                        refine lv_iinc (v := nI k - 1) (lv' := [(5, .int (nI k - 1)), (7, .int 4), (6, .int 0), (0, .ref nb), (1, .int (nI (K 2))), (2, .int (nI p)), (3, .int (nI j)), (4, .int (nI (200 + 10 * (K 2))))]) hx hb dL_lays_167 hl (k := 7) rfl (g_dec _) (by decide) rfl (fun ls hl => ?_)
                        refine lv_goto (tgt := 33) hx hb dL_lays_170 (by decide) ?_
                        exact ih_loop k g H lo ls (by omega) (by omega) i2 i3 i4 (i5.skip hl9 el9 (Or.inr (by rw [hcl]; omega))) hA hS (lv_sub hl [3, 4, 5, 6, 7, 0] rfl)
                      · have n25_ : l9 ≤ 4 := Nat.not_lt.mp (fun z => c24_ (show nI (4) < nI (l9) from (nI_ltI (by omega) (by omega)).mpr z))
                        refine lv_aload_n hx hb dL_lays_137 rfl (lv_at hl 2 rfl) ?_
                        refine lv_iload hx hb dL_lays_138 (lv_at hl 6 rfl) ?_
                        refine lv_bipush (v := 6) hx hb dL_lays_140 (by decide) ?_
                        refine g_naddn (a := 200 + 10 * (K 2)) (b := 6) hx hb dL_lays_142 ?_
                        refine lv_iload hx hb dL_lays_143 (lv_at hl 0 rfl) ?_
                        refine g_iast (n := 450) (f := g) (j := 200 + 10 * (K 2) + 6) (x := 4) hC hA hS hnb (by omega) (by decide) dL_lays_145 (fun H lo hA hz_ ho_ hS => ?_)
                        have hA : gNet E nb (upd g (200 + 10 * (K 2) + 6) 4) H := hA
                        refine lv_aload_n hx hb dL_lays_146 rfl (lv_at hl 2 rfl) ?_
                        refine lv_iload hx hb dL_lays_147 (lv_at hl 6 rfl) ?_
                        refine lv_bipush (v := 7) hx hb dL_lays_149 (by decide) ?_
                        refine g_naddn (a := 200 + 10 * (K 2)) (b := 7) hx hb dL_lays_151 ?_
                        refine lv_iload hx hb dL_lays_152 (lv_at hl 7 rfl) ?_
                        refine g_iast (n := 450) (f := (upd g (200 + 10 * (K 2) + 6) 4)) (j := 200 + 10 * (K 2) + 7) (x := nI k) hC hA hS hnb (by omega) (by decide) dL_lays_154 (fun H lo hA hz_ ho_ hS => ?_)
                        have hA : gNet E nb (upd (upd g (200 + 10 * (K 2) + 6) 4) (200 + 10 * (K 2) + 7) (nI k)) H := hA
                        refine lv_aload_n hx hb dL_lays_155 rfl (lv_at hl 2 rfl) ?_
                        refine lv_iload hx hb dL_lays_156 (lv_at hl 6 rfl) ?_
                        refine lv_bipush (v := 8) hx hb dL_lays_158 (by decide) ?_
                        refine g_naddn (a := 200 + 10 * (K 2)) (b := 8) hx hb dL_lays_160 ?_
                        refine lv_iload hx hb dL_lays_161 (lv_at hl 1 rfl) ?_
                        refine lv_bipush (v := 10) hx hb dL_lays_163 (by decide) ?_
                        refine g_ndivn (a := 0) (b := 10) (by omega) (by omega) (by omega) hx hb dL_lays_165 ?_
                        refine g_iast (n := 450) (f := (upd (upd g (200 + 10 * (K 2) + 6) 4) (200 + 10 * (K 2) + 7) (nI k))) (j := 200 + 10 * (K 2) + 8) (x := nI (0 / 10)) hC hA hS hnb (by omega) (by decide) dL_lays_166 (fun H lo hA hz_ ho_ hS => ?_)
                        have hA : gNet E nb (upd (upd (upd g (200 + 10 * (K 2) + 6) 4) (200 + 10 * (K 2) + 7) (nI k)) (200 + 10 * (K 2) + 8) (nI (0 / 10))) H := hA
                        refine lv_iinc (v := nI k - 1) (lv' := [(5, .int (nI k - 1)), (7, .int 4), (6, .int 0), (0, .ref nb), (1, .int (nI (K 2))), (2, .int (nI p)), (3, .int (nI j)), (4, .int (nI (200 + 10 * (K 2))))]) hx hb dL_lays_167 hl (k := 7) rfl (g_dec _) (by decide) rfl (fun ls hl => ?_)
                        refine lv_goto (tgt := 33) hx hb dL_lays_170 (by decide) ?_
                        exact ih_loop k (upd (upd (upd g (200 + 10 * (K 2) + 6) 4) (200 + 10 * (K 2) + 7) (nI k)) (200 + 10 * (K 2) + 8) (nI (0 / 10))) H lo ls (by omega) (by omega) (((i2.free (by omega) _).free (by omega) _).free (by omega) _) ⟨by rw [upd_n _ _ (by omega), upd_n _ _ (by omega), upd_n _ _ (by omega)]; exact i3.1, by rw [upd_n _ _ (by omega), upd_n _ _ (by omega), upd_n _ _ (by omega)]; exact i3.2⟩ (fun z z1 z2 z3 => by rw [upd_n _ _ (by omega), upd_n _ _ (by omega), upd_n _ _ (by omega)]; exact i4 z z1 z2 z3) (i5.take hl9 el9 (by omega) (⟨by assumption, by rw [ea9]; first | exact Or.inl (by assumption) | exact Or.inr ⟨nI_pos' (by omega), by assumption⟩⟩ : rLk _ _ _ _ k) (by rw [hcl]; omega) (by rw [upd_n _ _ (by omega), upd_n _ _ (by omega), show 206 + 10 * K 2 = 200 + 10 * K 2 + 6 by omega, upd_s, hcl]; rfl) (by rw [upd_n _ _ (by omega), show 207 + 10 * K 2 = 200 + 10 * K 2 + 7 by omega, upd_s]) (by rw [show 208 + 10 * K 2 = 200 + 10 * K 2 + 8 by omega, upd_s, hyl]; decide)) hA hS (lv_sub hl [3, 4, 5, 6, 7, 0] rfl)
                  · obtain rfl : r21_ = nI _ := hff.trans hfv
                    have hcl : cLk (mv μ) (μ 22 0) S k = fCd (fl (mv μ) (μ 22 0) S k) := if_neg hfl
                    have hyl : yLk (mv μ) (μ 22 0) S k = nI (dpt (mv μ) (μ 22 0) S k) := if_neg hfl
                    have hcb := fCd_b (fl (mv μ) (μ 22 0) S k)
                    generalize fCd (fl (mv μ) (μ 22 0) S k) = cf at *
                    generalize dpt (mv μ) (μ 22 0) S k = dq at *
                    refine lv_istore (lv' := [(6, .int (nI (cf + 10 * dq))), (0, .ref nb), (1, .int (nI (K 2))), (2, .int (nI p)), (3, .int (nI j)), (4, .int (nI (200 + 10 * (K 2)))), (5, .int (nI k))]) hx hb dL_lays_107 hl (by decide) rfl (fun ls hl => ?_)
                    refine lv_iload hx hb dL_lays_109 (lv_at hl 0 rfl) ?_
                    refine lv_if_ne (tgt := 118) hx hb dL_lays_111 (by decide) (fun c26_ => ?_) (fun c26_ => ?_)
                    · refine lv_iload hx hb dL_lays_118 (lv_at hl 0 rfl) ?_
                      refine lv_bipush (v := 10) hx hb dL_lays_120 (by decide) ?_
                      refine g_nremn (a := cf + 10 * dq) (b := 10) (by omega) (by omega) (by omega) hx hb dL_lays_122 ?_
                      rw [show (cf + 10 * dq) % 10 = cf by omega]
                      refine lv_istore (lv' := [(7, .int (nI cf)), (6, .int (nI (cf + 10 * dq))), (0, .ref nb), (1, .int (nI (K 2))), (2, .int (nI p)), (3, .int (nI j)), (4, .int (nI (200 + 10 * (K 2)))), (5, .int (nI k))]) hx hb dL_lays_123 hl (by decide) rfl (fun ls hl => ?_)
                      refine lv_iload hx hb dL_lays_125 (lv_at hl 0 rfl) ?_
                      refine lv_aload_n hx hb dL_lays_127 rfl (lv_at hl 2 rfl) ?_
                      refine lv_iload hx hb dL_lays_128 (lv_at hl 6 rfl) ?_
                      refine lv_bipush (v := 6) hx hb dL_lays_130 (by decide) ?_
                      refine g_naddn (a := 200 + 10 * (K 2)) (b := 6) hx hb dL_lays_132 ?_
                      refine g_iald (n := 450) (f := g) (j := 200 + 10 * (K 2) + 6) hC hA (by omega) (by decide) dL_lays_133 ?_
                      rw [show g (200 + 10 * (K 2) + 6) = nI l9 from (by rw [show 200 + 10 * (K 2) + 6 = 206 + 10 * (K 2) by omega]; exact el9)]
                      refine lv_icmp_lt (tgt := 167) hx hb dL_lays_134 (by decide) (fun c27_ => ?_) (fun c27_ => ?_)
                      · have n28_ : cf < l9 := (nI_ltI (by omega) (by omega)).mp c27_
                        refine lv_iinc (v := nI k - 1) (lv' := [(5, .int (nI k - 1)), (7, .int (nI cf)), (6, .int (nI (cf + 10 * dq))), (0, .ref nb), (1, .int (nI (K 2))), (2, .int (nI p)), (3, .int (nI j)), (4, .int (nI (200 + 10 * (K 2))))]) hx hb dL_lays_167 hl (k := 7) rfl (g_dec _) (by decide) rfl (fun ls hl => ?_)
                        refine lv_goto (tgt := 33) hx hb dL_lays_170 (by decide) ?_
                        exact ih_loop k g H lo ls (by omega) (by omega) i2 i3 i4 (i5.skip hl9 el9 (Or.inr (by rw [hcl]; omega))) hA hS (lv_sub hl [3, 4, 5, 6, 7, 0] rfl)
                      · have n28_ : l9 ≤ cf := Nat.not_lt.mp (fun z => c27_ (show nI (cf) < nI (l9) from (nI_ltI (by omega) (by omega)).mpr z))
                        refine lv_aload_n hx hb dL_lays_137 rfl (lv_at hl 2 rfl) ?_
                        refine lv_iload hx hb dL_lays_138 (lv_at hl 6 rfl) ?_
                        refine lv_bipush (v := 6) hx hb dL_lays_140 (by decide) ?_
                        refine g_naddn (a := 200 + 10 * (K 2)) (b := 6) hx hb dL_lays_142 ?_
                        refine lv_iload hx hb dL_lays_143 (lv_at hl 0 rfl) ?_
                        refine g_iast (n := 450) (f := g) (j := 200 + 10 * (K 2) + 6) (x := nI cf) hC hA hS hnb (by omega) (by decide) dL_lays_145 (fun H lo hA hz_ ho_ hS => ?_)
                        have hA : gNet E nb (upd g (200 + 10 * (K 2) + 6) (nI cf)) H := hA
                        refine lv_aload_n hx hb dL_lays_146 rfl (lv_at hl 2 rfl) ?_
                        refine lv_iload hx hb dL_lays_147 (lv_at hl 6 rfl) ?_
                        refine lv_bipush (v := 7) hx hb dL_lays_149 (by decide) ?_
                        refine g_naddn (a := 200 + 10 * (K 2)) (b := 7) hx hb dL_lays_151 ?_
                        refine lv_iload hx hb dL_lays_152 (lv_at hl 7 rfl) ?_
                        refine g_iast (n := 450) (f := (upd g (200 + 10 * (K 2) + 6) (nI cf))) (j := 200 + 10 * (K 2) + 7) (x := nI k) hC hA hS hnb (by omega) (by decide) dL_lays_154 (fun H lo hA hz_ ho_ hS => ?_)
                        have hA : gNet E nb (upd (upd g (200 + 10 * (K 2) + 6) (nI cf)) (200 + 10 * (K 2) + 7) (nI k)) H := hA
                        refine lv_aload_n hx hb dL_lays_155 rfl (lv_at hl 2 rfl) ?_
                        refine lv_iload hx hb dL_lays_156 (lv_at hl 6 rfl) ?_
                        refine lv_bipush (v := 8) hx hb dL_lays_158 (by decide) ?_
                        refine g_naddn (a := 200 + 10 * (K 2)) (b := 8) hx hb dL_lays_160 ?_
                        refine lv_iload hx hb dL_lays_161 (lv_at hl 1 rfl) ?_
                        refine lv_bipush (v := 10) hx hb dL_lays_163 (by decide) ?_
                        refine g_ndivn (a := cf + 10 * dq) (b := 10) (by omega) (by omega) (by omega) hx hb dL_lays_165 ?_
                        refine g_iast (n := 450) (f := (upd (upd g (200 + 10 * (K 2) + 6) (nI cf)) (200 + 10 * (K 2) + 7) (nI k))) (j := 200 + 10 * (K 2) + 8) (x := nI ((cf + 10 * dq) / 10)) hC hA hS hnb (by omega) (by decide) dL_lays_166 (fun H lo hA hz_ ho_ hS => ?_)
                        have hA : gNet E nb (upd (upd (upd g (200 + 10 * (K 2) + 6) (nI cf)) (200 + 10 * (K 2) + 7) (nI k)) (200 + 10 * (K 2) + 8) (nI ((cf + 10 * dq) / 10))) H := hA
                        refine lv_iinc (v := nI k - 1) (lv' := [(5, .int (nI k - 1)), (7, .int (nI cf)), (6, .int (nI (cf + 10 * dq))), (0, .ref nb), (1, .int (nI (K 2))), (2, .int (nI p)), (3, .int (nI j)), (4, .int (nI (200 + 10 * (K 2))))]) hx hb dL_lays_167 hl (k := 7) rfl (g_dec _) (by decide) rfl (fun ls hl => ?_)
                        refine lv_goto (tgt := 33) hx hb dL_lays_170 (by decide) ?_
                        exact ih_loop k (upd (upd (upd g (200 + 10 * (K 2) + 6) (nI cf)) (200 + 10 * (K 2) + 7) (nI k)) (200 + 10 * (K 2) + 8) (nI ((cf + 10 * dq) / 10))) H lo ls (by omega) (by omega) (((i2.free (by omega) _).free (by omega) _).free (by omega) _) ⟨by rw [upd_n _ _ (by omega), upd_n _ _ (by omega), upd_n _ _ (by omega)]; exact i3.1, by rw [upd_n _ _ (by omega), upd_n _ _ (by omega), upd_n _ _ (by omega)]; exact i3.2⟩ (fun z z1 z2 z3 => by rw [upd_n _ _ (by omega), upd_n _ _ (by omega), upd_n _ _ (by omega)]; exact i4 z z1 z2 z3) (i5.take hl9 el9 (by omega) (⟨by assumption, by rw [ea9]; first | exact Or.inl (by assumption) | exact Or.inr ⟨nI_pos' (by omega), by assumption⟩⟩ : rLk _ _ _ _ k) (by rw [hcl]; omega) (by rw [upd_n _ _ (by omega), upd_n _ _ (by omega), show 206 + 10 * K 2 = 200 + 10 * K 2 + 6 by omega, upd_s, hcl]) (by rw [upd_n _ _ (by omega), show 207 + 10 * K 2 = 200 + 10 * K 2 + 7 by omega, upd_s]) (by rw [show 208 + 10 * K 2 = 200 + 10 * K 2 + 8 by omega, upd_s, hyl]; exact congrArg nI (by omega))) hA hS (lv_sub hl [3, 4, 5, 6, 7, 0] rfl)
                    · exact absurd c26_ (nI_ne0 (by omega) (by omega))
  exact loop (((K 1)) + 1) (K 1) (upd (upd f (200 + 10 * (K 2) + 6) 0) (200 + 10 * (K 2) + 7) (-1)) H lo ls (by omega) (Nat.le_refl _) ((hN.free (by omega) _).free (by omega) _) ⟨by rw [upd_n _ _ (by omega), upd_n _ _ (by omega)]; exact hk0, by rw [upd_n _ _ (by omega), upd_n _ _ (by omega)]; exact hS0⟩ (fun z z1 z2 z3 => by rw [upd_n _ _ (by omega), upd_n _ _ (by omega)]) (Or.inl ⟨by rw [upd_n _ _ (by omega), show 206 + 10 * K 2 = 200 + 10 * K 2 + 6 by omega, upd_s], by rw [show 207 + 10 * K 2 = 200 + 10 * K 2 + 7 by omega, upd_s], fun t t1 t2 => by omega⟩) hA hS (lv_sub hl [2, 3, 4, 5, 1, 0] rfl)
