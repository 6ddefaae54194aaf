set_option maxHeartbeats 4000000 in
set_option maxRecDepth 100000 in
theorem c_L_isRevoked {l : Launch} {E : gV} (hE : gOK l E) {nb oa n D : Nat} {f : Nat → Int32} {μ : F2} {K : Nat → Nat} (hN : NL f μ K D) (hnb : E.2.1.heap.size ≤ nb) (h2 : 2 ≤ K 0) (h1 : 1 ≤ K 1) (hn : n < 500) (hD : D ≤ 391) (p : Nat) (hp : p < K 1) : gM l E yL_isRevoked cL_isRevoked 6 (some .boolean) ({ frames := 12, cells := 4, slots := 1030, locals := 299 } : Room) [.ref oa, .ref nb, .int (nI p)] (fun H => SI E nb oa μ K n H ∧ gNet E nb f H) (gQW (gA0 E) (gWi (fun r H => r = 1 ∧ NJ E nb oa (D + 9) (n + 1) 1 H))) (fun _ => False) (gA0 E) := by
  refine gM_body hE (by decide +kernel) (Nat.le_of_ble_eq_true rfl) ?_
  intro p_ e_ s m args below meth c hC ht hr hname hP ls hl
  have hx := hC.2.2.1
  have hb := hC.2.2.2.1
  have hl : lv_has ls 6 [(0, .ref oa), (1, .ref nb), (2, .int (nI p))] := hl
  have hS : va_S ((gA0 E)) s.heap s.heap [] := va_S.rf
  obtain ⟨hSI, hA⟩ := hP
  have hU := hSI.pu
  have hb0 := hN.b0
  have hb1 := hN.b1
  have hb2 := hN.b2
  refine lv_aload_n hx hb dL_isRevoked_0 rfl (lv_at hl 1 rfl) ?_
  refine lv_bipush (v := 37) hx hb dL_isRevoked_1 (by decide) ?_
  refine lv_bipush (v := 8) hx hb dL_isRevoked_3 (by decide) ?_
  refine lv_iload_n hx hb dL_isRevoked_5 rfl (lv_at hl 2 rfl) ?_
  refine g_nmuln (a := 8) (b := p) hx hb dL_isRevoked_6 ?_
  refine g_naddn (a := 37) (b := 8 * p) hx hb dL_isRevoked_7 ?_
  refine g_iald (n := 450) (f := f) (j := 37 + 8 * p) hC hA (by omega) (by decide) dL_isRevoked_8 ?_
  rw [show f (37 + 8 * p) = μ 1 p from hN.rv (i := p) (by omega) (by omega)]
  refine lv_iconst (v := 1) hx hb dL_isRevoked_9 (by decide) ?_
  refine lv_icmp_ne (tgt := 29) hx hb dL_isRevoked_10 (by decide) (fun c1_ => ?_) (fun c1_ => ?_)
  · refine lv_aload_n hx hb dL_isRevoked_29 rfl (lv_at hl 1 rfl) ?_
    refine lv_bipush (v := 37) hx hb dL_isRevoked_30 (by decide) ?_
    refine lv_bipush (v := 8) hx hb dL_isRevoked_32 (by decide) ?_
    refine lv_iload_n hx hb dL_isRevoked_34 rfl (lv_at hl 2 rfl) ?_
    refine g_nmuln (a := 8) (b := p) hx hb dL_isRevoked_35 ?_
    refine g_naddn (a := 37) (b := 8 * p) hx hb dL_isRevoked_36 ?_
    refine lv_iconst (v := 1) hx hb dL_isRevoked_37 (by decide) ?_
    refine g_iast (n := 450) (f := f) (j := 37 + 8 * p) (x := 1) hC hA hS hnb (by omega) (by decide) dL_isRevoked_38 (fun H lo hA hz_ ho_ hS => ?_)
    have hSI := hSI.netw hnb hz_ ho_
    have hA : gNet E nb (upd f (37 + 8 * p) 1) H := hA
    have hN3_ : NL (upd f (37 + 8 * p) 1) (up2 μ 1 p 1) K D := hN.revoke hp
    obtain ⟨g2_, eg2_⟩ : ∃ g_, g_ = (upd f (37 + 8 * p) 1) := ⟨_, rfl⟩
    rw [← eg2_] at hN3_ hA
    have hT : NT E nb oa g2_ μ K n H := ⟨hSI, hA⟩
    have hU1 := hU.fs
    refine lv_iconst (v := 0) hx hb dL_isRevoked_39 (by decide) ?_
    refine lv_istore_n (lv' := [(3, .int 0), (0, .ref oa), (1, .ref nb), (2, .int (nI p))]) hx hb dL_isRevoked_40 rfl hl (by decide) rfl (fun ls hl => ?_)
    refine lv_iconst (v := 0) hx hb dL_isRevoked_41 (by decide) ?_
    refine lv_istore (lv' := [(4, .int 0), (3, .int 0), (0, .ref oa), (1, .ref nb), (2, .int (nI p))]) hx hb dL_isRevoked_42 hl (by decide) rfl (fun ls hl => ?_)
    have lpo : ∀ (n_ : Nat) (cn : Nat) (k : Nat) (H : Heap) (lo : List Loc) (ls : Array Slot), K 1 - k < n_ → (k ≤ K 1) → (cn = fCnt (fun t => fCome (mv μ) t p) k) → NT E nb oa g2_ μ K n H → va_S ((gA0 E)) s.heap H lo → lv_has ls 6 [(0, .ref oa), (1, .ref nb), (2, .int (nI p)), (3, .int (nI cn)), (4, .int (nI k))] → W p_ l e_ ({ frames := 12, cells := 4, slots := 1030, locals := 299 } : Room) s m args below meth c H lo 0 0 (vx_MQ below (gQW (gA0 E) (gWi (fun r H => r = 1 ∧ NJ E nb oa (D + 9) (n + 1) 1 H))) (gX (fun _ => False)) args s 4 1030 (gA0 E)) (F0 m 44 ls []) := by
      intro n_
      induction n_ with
      | zero => intro cn k H lo ls h_; exact absurd h_ (Nat.not_lt_zero _)
      | succ n_ ih_lpo =>
        intro cn k H lo ls hn_ i1 i2 hT hS hl
        have hSI := hT.1
        have hA := hT.2
        refine lv_iload hx hb dL_isRevoked_44 (lv_at hl 4 rfl) ?_
        refine lv_aload_n hx hb dL_isRevoked_46 rfl (lv_at hl 1 rfl) ?_
        refine lv_iconst (v := 1) hx hb dL_isRevoked_47 (by decide) ?_
        refine g_iald (n := 450) (f := g2_) (j := 1) hC hA (by omega) (by decide) dL_isRevoked_48 ?_
        rw [show g2_ (1) = nI (K 1) from hN3_.k1]
        refine lv_icmp_ge (tgt := 96) hx hb dL_isRevoked_49 (by decide) (fun c4_ => ?_) (fun c4_ => ?_)
        · have n5_ : (K 1) ≤ k := le_nI (by omega) (by omega) c4_
          have hq : k = K 1 := by omega
          refine lv_aload_n hx hb dL_isRevoked_96 rfl (lv_at hl 0 rfl) ?_
          refine lv_iload_n hx hb dL_isRevoked_97 rfl (lv_at hl 2 rfl) ?_
          refine g_cWi (k2 := 4) (n2 := 1030) (g_runSH (n := 2) (rest := []) hC (w_revoke hE (nb := nb) (oa := oa) (n := n) (μ := μ) (K := K) (nI p) (by omega)) Z_revoke.1 Z_revoke.2.1 Z_revoke.2.2.1 k_864 Z_revoke.2.2.2 hSI rfl hl.1 dL_isRevoked_98 ⟨Nat.le_of_ble_eq_true rfl, Nat.le_of_ble_eq_true rfl⟩ ⟨Nat.le_of_ble_eq_true rfl, Nat.le_of_ble_eq_true rfl⟩ rfl (Nat.le_of_ble_eq_true rfl)) hS (fun q h => h.1) rfl rfl (fun r6_ H lo hw7_ hz_ hk_ hS => ?_)
          have hA := hA.kept (hk_ nb hA.lt (fun z => z.2 rfl))
          obtain ⟨er_, hSI⟩ := hw7_.ok (kv_0 (isP_nI hp (by omega)) (by rw [show ix (nI p) = p from nI_clamp (by omega)]; exact fun z => z ((hU.2.2.2.2.1 p).resolve_right (by assumption))))
          simp only [show ix (nI p) = p from nI_clamp (by omega)] at er_ hSI
          have er_ : r6_ = nI (fCnt (fun t => fCome (mv μ) t p) (K 1)) := er_
          subst er_
          refine lv_iload_n hx hb dL_isRevoked_101 rfl (lv_at hl 3 rfl) ?_
          refine lv_icmp_ne (tgt := 109) hx hb dL_isRevoked_102 (by decide) (fun c8_ => ?_) (fun c8_ => ?_)
          · exact absurd (by rw [i2, hq]) c8_
          · refine lv_iconst (v := 1) hx hb dL_isRevoked_105 (by decide) ?_
            refine lv_goto (tgt := 110) hx hb dL_isRevoked_106 (by decide) ?_
            exact g_zretW hC hr rfl dL_isRevoked_110 hS (Nat.le_of_ble_eq_true rfl) (Nat.le_of_ble_eq_true rfl) ⟨rfl, _, _, _, ⟨hSI.mono (by omega), hA, (hN3_.mono (by omega) (by omega))⟩, h2, h1⟩
        · have n5_ : k < (K 1) := not_le_nI (by omega) (by omega) c4_
          have hq : k < K 1 := by omega
          refine lv_iload hx hb dL_isRevoked_52 (lv_at hl 4 rfl) ?_
          refine lv_istore (lv' := [(5, .int (nI k)), (0, .ref oa), (1, .ref nb), (2, .int (nI p)), (3, .int (nI cn)), (4, .int (nI k))]) hx hb dL_isRevoked_54 hl (by decide) rfl (fun ls hl => ?_)
          have hl : lv_has ls 6 [(5, .int (nI (k + 1) - 1)), (0, .ref oa), (1, .ref nb), (2, .int (nI p)), (3, .int (nI cn)), (4, .int (nI k))] := by rw [nI_pred]; exact hl
          have lpi : ∀ (n_ : Nat) (c2 : Nat) (z : Nat) (H : Heap) (lo : List Loc) (ls : Array Slot), z < n_ → (cnI (mv μ) p k (K 1) c2 z) → NT E nb oa g2_ μ K n H → va_S ((gA0 E)) s.heap H lo → lv_has ls 6 [(0, .ref oa), (1, .ref nb), (2, .int (nI p)), (3, .int (nI c2)), (4, .int (nI k)), (5, .int (nI z - 1))] → W p_ l e_ ({ frames := 12, cells := 4, slots := 1030, locals := 299 } : Room) s m args below meth c H lo 0 0 (vx_MQ below (gQW (gA0 E) (gWi (fun r H => r = 1 ∧ NJ E nb oa (D + 9) (n + 1) 1 H))) (gX (fun _ => False)) args s 4 1030 (gA0 E)) (F0 m 56 ls []) := by
            intro n_
            induction n_ with
            | zero => intro c2 z H lo ls h_; exact absurd h_ (Nat.not_lt_zero _)
            | succ n_ ih_lpi =>
              intro c2 z H lo ls hn_ i4 hT hS hl
              have hSI := hT.1
              have hA := hT.2
              rcases z with _ | q
              · refine lv_iload hx hb dL_isRevoked_56 (lv_at hl 5 rfl) ?_
                refine lv_if_lt (tgt := 90) hx hb dL_isRevoked_58 (by decide) (fun c9_ => ?_) (fun c9_ => ?_)
                · refine lv_iinc (v := nI (k + 1)) (lv' := [(4, .int (nI (k + 1))), (0, .ref oa), (1, .ref nb), (2, .int (nI p)), (3, .int (nI c2)), (5, .int (nI 0 - 1))]) hx hb dL_isRevoked_90 hl (k := 4) rfl (g_inc _) (by decide) rfl (fun ls hl => ?_)
                  refine lv_goto (tgt := 44) hx hb dL_isRevoked_93 (by decide) ?_
                  exact ih_lpo c2 (k + 1) H lo ls (by omega) (by omega) (cn_out i4) hT hS (lv_sub hl [1, 2, 3, 4, 0] rfl)
                · exact absurd (by decide) c9_
              · rw [nI_pred q] at hl
                have hl : lv_has ls 6 [(0, .ref oa), (1, .ref nb), (2, .int (nI p)), (3, .int (nI c2)), (4, .int (nI k)), (5, .int (nI q))] := hl
                have i3q := cn_q i4
                obtain ⟨z2, hz2, e8_⟩ := hU.srz i3q
                refine lv_iload hx hb dL_isRevoked_56 (lv_at hl 5 rfl) ?_
                refine lv_if_lt (tgt := 90) hx hb dL_isRevoked_58 (by decide) (fun c10_ => ?_) (fun c10_ => ?_)
                · exact absurd c10_ (nI_pos (by omega))
                · refine lv_iload_n hx hb dL_isRevoked_61 rfl (lv_at hl 3 rfl) ?_
                  refine lv_iload hx hb dL_isRevoked_62 (lv_at hl 5 rfl) ?_
                  refine lv_iload_n hx hb dL_isRevoked_64 rfl (lv_at hl 2 rfl) ?_
                  refine lv_icmp_ne (tgt := 72) hx hb dL_isRevoked_65 (by decide) (fun c11_ => ?_) (fun c11_ => ?_)
                  · have n12_ : ¬ q = p := fun z => c11_ (congrArg nI z)
                    refine lv_iconst (v := 0) hx hb dL_isRevoked_72 (by decide) ?_
                    refine g_naddn (a := c2) (b := 0) hx hb dL_isRevoked_73 ?_
                    refine lv_istore_n (lv' := [(3, .int (nI (c2 + 0))), (0, .ref oa), (1, .ref nb), (2, .int (nI p)), (4, .int (nI k)), (5, .int (nI q))]) hx hb dL_isRevoked_74 rfl hl (by decide) rfl (fun ls hl => ?_)
                    refine lv_aload_n hx hb dL_isRevoked_75 rfl (lv_at hl 2 rfl) ?_
                    refine lv_bipush (v := 36) hx hb dL_isRevoked_76 (by decide) ?_
                    refine lv_bipush (v := 8) hx hb dL_isRevoked_78 (by decide) ?_
                    refine lv_iload hx hb dL_isRevoked_80 (lv_at hl 5 rfl) ?_
                    refine g_nmuln (a := 8) (b := q) hx hb dL_isRevoked_82 ?_
                    refine g_naddn (a := 36) (b := 8 * q) hx hb dL_isRevoked_83 ?_
                    refine g_iald (n := 450) (f := g2_) (j := 36 + 8 * q) hC hA (by omega) (by decide) dL_isRevoked_84 ?_
                    rw [show g2_ (36 + 8 * q) = nI z2 - 1 from ((hN3_.p8 (i := q) (by omega) rfl).trans e8_)]
                    refine lv_istore (lv' := [(5, .int (nI z2 - 1)), (3, .int (nI (c2 + 0))), (0, .ref oa), (1, .ref nb), (2, .int (nI p)), (4, .int (nI k))]) hx hb dL_isRevoked_85 hl (by decide) rfl (fun ls hl => ?_)
                    refine lv_goto (tgt := 56) hx hb dL_isRevoked_87 (by decide) ?_
                    exact ih_lpi (c2 + 0) z2 H lo ls (by omega) (cn_next hU.fs (by omega) (by omega) hz2 e8_ (by omega) i4) hT hS (lv_sub hl [2, 3, 4, 1, 5, 0] rfl)
                  · have n12_ : q = p := (nI_eq (by omega) (by omega)).mp c11_
                    refine lv_iconst (v := 1) hx hb dL_isRevoked_68 (by decide) ?_
                    refine lv_goto (tgt := 73) hx hb dL_isRevoked_69 (by decide) ?_
                    refine g_naddn (a := c2) (b := 1) hx hb dL_isRevoked_73 ?_
                    refine lv_istore_n (lv' := [(3, .int (nI (c2 + 1))), (0, .ref oa), (1, .ref nb), (2, .int (nI p)), (4, .int (nI k)), (5, .int (nI q))]) hx hb dL_isRevoked_74 rfl hl (by decide) rfl (fun ls hl => ?_)
                    refine lv_aload_n hx hb dL_isRevoked_75 rfl (lv_at hl 2 rfl) ?_
                    refine lv_bipush (v := 36) hx hb dL_isRevoked_76 (by decide) ?_
                    refine lv_bipush (v := 8) hx hb dL_isRevoked_78 (by decide) ?_
                    refine lv_iload hx hb dL_isRevoked_80 (lv_at hl 5 rfl) ?_
                    refine g_nmuln (a := 8) (b := q) hx hb dL_isRevoked_82 ?_
                    refine g_naddn (a := 36) (b := 8 * q) hx hb dL_isRevoked_83 ?_
                    refine g_iald (n := 450) (f := g2_) (j := 36 + 8 * q) hC hA (by omega) (by decide) dL_isRevoked_84 ?_
                    rw [show g2_ (36 + 8 * q) = nI z2 - 1 from ((hN3_.p8 (i := q) (by omega) rfl).trans e8_)]
                    refine lv_istore (lv' := [(5, .int (nI z2 - 1)), (3, .int (nI (c2 + 1))), (0, .ref oa), (1, .ref nb), (2, .int (nI p)), (4, .int (nI k))]) hx hb dL_isRevoked_85 hl (by decide) rfl (fun ls hl => ?_)
                    refine lv_goto (tgt := 56) hx hb dL_isRevoked_87 (by decide) ?_
                    exact ih_lpi (c2 + 1) z2 H lo ls (by omega) (cn_next hU.fs (by omega) (by omega) hz2 e8_ (by omega) i4) hT hS (lv_sub hl [2, 3, 4, 1, 5, 0] rfl)
          exact lpi (((k + 1)) + 1) cn (k + 1) H lo ls (by omega) (cn_in hq i2) hT hS (lv_sub hl [1, 2, 3, 4, 5, 0] rfl)
    exact lpo ((K 1 - (0)) + 1) 0 0 H lo ls (by omega) (by omega) rfl hT hS (lv_sub hl [2, 3, 4, 1, 0] rfl)
  · refine lv_aload_n hx hb dL_isRevoked_13 rfl (lv_at hl 0 rfl) ?_
    refine lv_iload_n hx hb dL_isRevoked_14 rfl (lv_at hl 2 rfl) ?_
    refine g_cWi (k2 := 4) (n2 := 1030) (g_runSH (n := 2) (rest := []) hC (w_revoke hE (nb := nb) (oa := oa) (n := n) (μ := μ) (K := K) (nI p) (by omega)) Z_revoke.1 Z_revoke.2.1 Z_revoke.2.2.1 k_864 Z_revoke.2.2.2 hSI rfl hl.1 dL_isRevoked_15 ⟨Nat.le_of_ble_eq_true rfl, Nat.le_of_ble_eq_true rfl⟩ ⟨Nat.le_of_ble_eq_true rfl, Nat.le_of_ble_eq_true rfl⟩ rfl (Nat.le_of_ble_eq_true rfl)) hS (fun q h => h.1) rfl rfl (fun r13_ H lo hw14_ hz_ hk_ hS => ?_)
    have hA := hA.kept (hk_ nb hA.lt (fun z => z.2 rfl))
    obtain ⟨er_, hSI⟩ := hw14_.no 1 (kv_2 (isP_nI hp (by omega)) (by rw [show ix (nI p) = p from nI_clamp (by omega)]; show μ 1 p ≠ 0; rw [(by assumption : μ 1 p = 1)]; decide))
    have er_ : r13_ = (-900002 : Int32) := er_
    subst er_
    refine lv_ldc (own := "SignatoryLaw") (v := -900002) hx hb hC.2.2.2.2.2.1 (gw hC.1 hC.2.1 k_245 rfl) dL_isRevoked_18 ?_
    refine lv_icmp_ne (tgt := 27) hx hb dL_isRevoked_20 (by decide) (fun c15_ => ?_) (fun c15_ => ?_)
    · exact absurd rfl c15_
    · refine lv_iconst (v := 1) hx hb dL_isRevoked_23 (by decide) ?_
      refine lv_goto (tgt := 28) hx hb dL_isRevoked_24 (by decide) ?_
      exact g_zretW hC hr rfl dL_isRevoked_28 hS (Nat.le_of_ble_eq_true rfl) (Nat.le_of_ble_eq_true rfl) ⟨rfl, _, _, _, ⟨hSI.mono (by omega), hA, (hN.mono (by omega) (by omega))⟩, h2, h1⟩
set_option maxHeartbeats 4000000 in
set_option maxRecDepth 100000 in
theorem c_L_isLowered {l : Launch} {E : gV} (hE : gOK l E) {nb oa n D : Nat} {f : Nat → Int32} {μ : F2} {K : Nat → Nat} (hN : NL f μ K D) (hnb : E.2.1.heap.size ≤ nb) (h2 : 2 ≤ K 0) (h1 : 1 ≤ K 1) (hn : n < 500) (hD : D ≤ 391) (p lm : Nat) (hp : p < K 1) (hlm : lm < 2 ^ 30) : gM l E yL_isLowered cL_isLowered 5 (some .boolean) ({ frames := 12, cells := 4, slots := 1030, locals := 302 } : Room) [.ref oa, .ref nb, .int (nI p), .int (nI lm)] (fun H => SI E nb oa μ K n H ∧ gNet E nb f H) (gQW (gA0 E) (gWi (fun r H => r = 1 ∧ NJ E nb oa (D + 9) (n + 1) 1 H))) (fun _ => False) (gA0 E) := by
  refine gM_body hE (by decide +kernel) (Nat.le_of_ble_eq_true rfl) ?_
  intro p_ e_ s m args below meth c hC ht hr hname hP ls hl
  have hx := hC.2.2.1
  have hb := hC.2.2.2.1
  have hl : lv_has ls 5 [(0, .ref oa), (1, .ref nb), (2, .int (nI p)), (3, .int (nI lm))] := hl
  have hS : va_S ((gA0 E)) s.heap s.heap [] := va_S.rf
  obtain ⟨hSI, hA⟩ := hP
  have hU := hSI.pu
  have hb0 := hN.b0
  have hb1 := hN.b1
  have hb2 := hN.b2
  obtain ⟨L0, hL01, hL02, eL0⟩ := hU.lim hp
  refine lv_aload_n hx hb dL_isLowered_0 rfl (lv_at hl 1 rfl) ?_
  refine lv_bipush (v := 33) hx hb dL_isLowered_1 (by decide) ?_
  refine lv_bipush (v := 8) hx hb dL_isLowered_3 (by decide) ?_
  refine lv_iload_n hx hb dL_isLowered_5 rfl (lv_at hl 2 rfl) ?_
  refine g_nmuln (a := 8) (b := p) hx hb dL_isLowered_6 ?_
  refine g_naddn (a := 33) (b := 8 * p) hx hb dL_isLowered_7 ?_
  refine g_iald (n := 450) (f := f) (j := 33 + 8 * p) hC hA (by omega) (by decide) dL_isLowered_8 ?_
  rw [show f (33 + 8 * p) = nI L0 from ((hN.p5 (i := p) (by omega) rfl).trans eL0)]
  refine lv_istore (lv' := [(4, .int (nI L0)), (0, .ref oa), (1, .ref nb), (2, .int (nI p)), (3, .int (nI lm))]) hx hb dL_isLowered_9 hl (by decide) rfl (fun ls hl => ?_)
  refine lv_iload_n hx hb dL_isLowered_11 rfl (lv_at hl 4 rfl) ?_
  refine lv_iconst (v := 1) hx hb dL_isLowered_12 (by decide) ?_
  refine lv_icmp_lt (tgt := 22) hx hb dL_isLowered_13 (by decide) (fun c1_ => ?_) (fun c1_ => ?_)
  · have n2_ : lm < 1 := (nI_ltI (by omega) (by omega)).mp c1_
    refine lv_aload_n hx hb dL_isLowered_22 rfl (lv_at hl 1 rfl) ?_
    refine lv_iload_n hx hb dL_isLowered_23 rfl (lv_at hl 3 rfl) ?_
    refine lv_iload_n hx hb dL_isLowered_24 rfl (lv_at hl 4 rfl) ?_
    refine g_cWi (k2 := 4) (n2 := 1030) (g_runSH (n := 3) (rest := []) hC (w_lower hE (nb := nb) (oa := oa) (n := n) (μ := μ) (K := K) (nI p) (nI lm) (by omega)) Z_lower.1 Z_lower.2.1 Z_lower.2.2.1 k_882 Z_lower.2.2.2 hSI rfl hl.1 dL_isLowered_25 ⟨Nat.le_of_ble_eq_true rfl, Nat.le_of_ble_eq_true rfl⟩ ⟨Nat.le_of_ble_eq_true rfl, Nat.le_of_ble_eq_true rfl⟩ rfl (Nat.le_of_ble_eq_true rfl)) hS (fun q h => h.1) rfl rfl (fun r3_ H lo hw4_ hz_ hk_ hS => ?_)
    have hA := hA.kept (hk_ nb hA.lt (fun z => z.2 rfl))
    obtain ⟨er_, hSI⟩ := hw4_.no 1 (kl_2 (isP_nI hp (by omega)) (by rw [show ix (nI p) = p from nI_clamp (by omega)]; show ¬ (1 ≤ nI lm ∧ nI lm ≤ μ 5 p); rw [eL0, show (1 : Int32) = nI 1 from rfl, nI_leI (by omega) (by omega), nI_leI (by omega) (by omega)]; omega))
    have er_ : r3_ = (-900002 : Int32) := er_
    subst er_
    refine lv_ldc (own := "SignatoryLaw") (v := -900002) hx hb hC.2.2.2.2.2.1 (gw hC.1 hC.2.1 k_245 rfl) dL_isLowered_28 ?_
    refine lv_icmp_ne (tgt := 37) hx hb dL_isLowered_30 (by decide) (fun c5_ => ?_) (fun c5_ => ?_)
    · exact absurd rfl c5_
    · refine lv_iconst (v := 1) hx hb dL_isLowered_33 (by decide) ?_
      refine lv_goto (tgt := 38) hx hb dL_isLowered_34 (by decide) ?_
      exact g_zretW hC hr rfl dL_isLowered_38 hS (Nat.le_of_ble_eq_true rfl) (Nat.le_of_ble_eq_true rfl) ⟨rfl, _, _, _, ⟨hSI.mono (by omega), hA, (hN.mono (by omega) (by omega))⟩, h2, h1⟩
  · have n2_ : 1 ≤ lm := Nat.not_lt.mp (fun z => c1_ (show nI (lm) < nI (1) from (nI_ltI (by omega) (by omega)).mpr z))
    refine lv_iload_n hx hb dL_isLowered_16 rfl (lv_at hl 4 rfl) ?_
    refine lv_iload hx hb dL_isLowered_17 (lv_at hl 0 rfl) ?_
    refine lv_icmp_le (tgt := 39) hx hb dL_isLowered_19 (by decide) (fun c6_ => ?_) (fun c6_ => ?_)
    · have n7_ : lm ≤ L0 := le_nI (by omega) (by omega) c6_
      refine lv_aload_n hx hb dL_isLowered_39 rfl (lv_at hl 2 rfl) ?_
      refine lv_bipush (v := 33) hx hb dL_isLowered_40 (by decide) ?_
      refine lv_bipush (v := 8) hx hb dL_isLowered_42 (by decide) ?_
      refine lv_iload_n hx hb dL_isLowered_44 rfl (lv_at hl 3 rfl) ?_
      refine g_nmuln (a := 8) (b := p) hx hb dL_isLowered_45 ?_
      refine g_naddn (a := 33) (b := 8 * p) hx hb dL_isLowered_46 ?_
      refine lv_iload_n hx hb dL_isLowered_47 rfl (lv_at hl 4 rfl) ?_
      refine g_iast (n := 450) (f := f) (j := 33 + 8 * p) (x := nI lm) hC hA hS hnb (by omega) (by decide) dL_isLowered_48 (fun H lo hA hz_ ho_ hS => ?_)
      have hSI := hSI.netw hnb hz_ ho_
      have hA : gNet E nb (upd f (33 + 8 * p) (nI lm)) H := hA
      have hN9_ : NL (upd f (33 + 8 * p) (nI lm)) (up2 μ 5 p (nI lm)) K D := hN.lower hp
      obtain ⟨g8_, eg8_⟩ : ∃ g_, g_ = (upd f (33 + 8 * p) (nI lm)) := ⟨_, rfl⟩
      rw [← eg8_] at hN9_ hA
      refine lv_aload_n hx hb dL_isLowered_49 rfl (lv_at hl 1 rfl) ?_
      refine lv_iload_n hx hb dL_isLowered_50 rfl (lv_at hl 3 rfl) ?_
      refine lv_iload_n hx hb dL_isLowered_51 rfl (lv_at hl 4 rfl) ?_
      refine g_cWi (k2 := 4) (n2 := 1030) (g_runSH (n := 3) (rest := []) hC (w_lower hE (nb := nb) (oa := oa) (n := n) (μ := μ) (K := K) (nI p) (nI lm) (by omega)) Z_lower.1 Z_lower.2.1 Z_lower.2.2.1 k_882 Z_lower.2.2.2 hSI rfl hl.1 dL_isLowered_52 ⟨Nat.le_of_ble_eq_true rfl, Nat.le_of_ble_eq_true rfl⟩ ⟨Nat.le_of_ble_eq_true rfl, Nat.le_of_ble_eq_true rfl⟩ rfl (Nat.le_of_ble_eq_true rfl)) hS (fun q h => h.1) rfl rfl (fun r10_ H lo hw11_ hz_ hk_ hS => ?_)
      have hA := hA.kept (hk_ nb hA.lt (fun z => z.2 rfl))
      obtain ⟨er_, hSI⟩ := hw11_.ok (kl_0 (isP_nI hp (by omega)) (by rw [show ix (nI p) = p from nI_clamp (by omega)]; show (1 ≤ nI lm ∧ nI lm ≤ μ 5 p); rw [eL0, show (1 : Int32) = nI 1 from rfl, nI_leI (by omega) (by omega), nI_leI (by omega) (by omega)]; omega))
      simp only [show ix (nI p) = p from nI_clamp (by omega)] at er_ hSI
      rw [eL0] at er_
      have er_ : r10_ = nI L0 := er_
      subst er_
      refine lv_iload hx hb dL_isLowered_55 (lv_at hl 0 rfl) ?_
      refine lv_icmp_ne (tgt := 64) hx hb dL_isLowered_57 (by decide) (fun c12_ => ?_) (fun c12_ => ?_)
      · exact absurd rfl c12_
      · refine lv_iconst (v := 1) hx hb dL_isLowered_60 (by decide) ?_
        refine lv_goto (tgt := 65) hx hb dL_isLowered_61 (by decide) ?_
        exact g_zretW hC hr rfl dL_isLowered_65 hS (Nat.le_of_ble_eq_true rfl) (Nat.le_of_ble_eq_true rfl) ⟨rfl, _, _, _, ⟨hSI.mono (by omega), hA, (hN9_.mono (by omega) (by omega))⟩, h2, h1⟩
    · have n7_ : L0 < lm := not_le_nI (by omega) (by omega) c6_
      refine lv_aload_n hx hb dL_isLowered_22 rfl (lv_at hl 1 rfl) ?_
      refine lv_iload_n hx hb dL_isLowered_23 rfl (lv_at hl 3 rfl) ?_
      refine lv_iload_n hx hb dL_isLowered_24 rfl (lv_at hl 4 rfl) ?_
      refine g_cWi (k2 := 4) (n2 := 1030) (g_runSH (n := 3) (rest := []) hC (w_lower hE (nb := nb) (oa := oa) (n := n) (μ := μ) (K := K) (nI p) (nI lm) (by omega)) Z_lower.1 Z_lower.2.1 Z_lower.2.2.1 k_882 Z_lower.2.2.2 hSI rfl hl.1 dL_isLowered_25 ⟨Nat.le_of_ble_eq_true rfl, Nat.le_of_ble_eq_true rfl⟩ ⟨Nat.le_of_ble_eq_true rfl, Nat.le_of_ble_eq_true rfl⟩ rfl (Nat.le_of_ble_eq_true rfl)) hS (fun q h => h.1) rfl rfl (fun r13_ H lo hw14_ hz_ hk_ hS => ?_)
      have hA := hA.kept (hk_ nb hA.lt (fun z => z.2 rfl))
      obtain ⟨er_, hSI⟩ := hw14_.no 1 (kl_2 (isP_nI hp (by omega)) (by rw [show ix (nI p) = p from nI_clamp (by omega)]; show ¬ (1 ≤ nI lm ∧ nI lm ≤ μ 5 p); rw [eL0, show (1 : Int32) = nI 1 from rfl, nI_leI (by omega) (by omega), nI_leI (by omega) (by omega)]; omega))
      have er_ : r13_ = (-900002 : Int32) := er_
      subst er_
      refine lv_ldc (own := "SignatoryLaw") (v := -900002) hx hb hC.2.2.2.2.2.1 (gw hC.1 hC.2.1 k_245 rfl) dL_isLowered_28 ?_
      refine lv_icmp_ne (tgt := 37) hx hb dL_isLowered_30 (by decide) (fun c15_ => ?_) (fun c15_ => ?_)
      · exact absurd rfl c15_
      · refine lv_iconst (v := 1) hx hb dL_isLowered_33 (by decide) ?_
        refine lv_goto (tgt := 38) hx hb dL_isLowered_34 (by decide) ?_
        exact g_zretW hC hr rfl dL_isLowered_38 hS (Nat.le_of_ble_eq_true rfl) (Nat.le_of_ble_eq_true rfl) ⟨rfl, _, _, _, ⟨hSI.mono (by omega), hA, (hN.mono (by omega) (by omega))⟩, h2, h1⟩
set_option maxHeartbeats 4000000 in
set_option maxRecDepth 100000 in
theorem c_L_isLeft1 {l : Launch} {E : gV} (hE : gOK l E) {nb oa n D : Nat} {f : Nat → Int32} {μ : F2} {K : Nat → Nat} (hN : NL f μ K D) (hnb : E.2.1.heap.size ≤ nb) (h2 : 2 ≤ K 0) (h1 : 1 ≤ K 1) (hn : n < 500) (hD : D ≤ 391) (p : Nat) (hp : p < K 0) : gM l E yL_isLeft cL_isLeft 5 (some .boolean) ({ frames := 12, cells := 4, slots := 1030, locals := 301 } : Room) [.ref oa, .ref nb, .int (nI p), .int ((-1))] (fun H => SI E nb oa μ K n H ∧ gNet E nb f H) (gQW (gA0 E) (gWi (fun r H => r = 1 ∧ NJ E nb oa (D + 9) (n + 1) 1 H))) (fun _ => False) (gA0 E) := by
  refine gM_body hE (by decide +kernel) (Nat.le_of_ble_eq_true rfl) ?_
  intro p_ e_ s m args below meth c hC ht hr hname hP ls hl
  have hx := hC.2.2.1
  have hb := hC.2.2.2.1
  have hl : lv_has ls 5 [(0, .ref oa), (1, .ref nb), (2, .int (nI p)), (3, .int ((-1)))] := hl
  have hS : va_S ((gA0 E)) s.heap s.heap [] := va_S.rf
  obtain ⟨hSI, hA⟩ := hP
  have hU := hSI.pu
  have hb0 := hN.b0
  have hb1 := hN.b1
  have hb2 := hN.b2
  refine lv_iload_n hx hb dL_isLeft_0 rfl (lv_at hl 2 rfl) ?_
  refine lv_iload_n hx hb dL_isLeft_1 rfl (lv_at hl 3 rfl) ?_
  refine lv_icmp_ne (tgt := 22) hx hb dL_isLeft_2 (by decide) (fun c1_ => ?_) (fun c1_ => ?_)
  · refine lv_aload_n hx hb dL_isLeft_22 rfl (lv_at hl 1 rfl) ?_
    refine lv_bipush (v := 11) hx hb dL_isLeft_23 (by decide) ?_
    refine lv_iconst (v := 2) hx hb dL_isLeft_25 (by decide) ?_
    refine lv_iload_n hx hb dL_isLeft_26 rfl (lv_at hl 2 rfl) ?_
    refine g_nmuln (a := 2) (b := p) hx hb dL_isLeft_27 ?_
    refine g_naddn (a := 11) (b := 2 * p) hx hb dL_isLeft_28 ?_
    refine g_iald (n := 450) (f := f) (j := 11 + 2 * p) hC hA (by omega) (by decide) dL_isLeft_29 ?_
    rw [show f (11 + 2 * p) = μ 2 p from hN.sb (j := p) (by omega) (by omega)]
    refine lv_istore (lv' := [(4, .int (μ 2 p)), (0, .ref oa), (1, .ref nb), (2, .int (nI p)), (3, .int ((-1)))]) hx hb dL_isLeft_30 hl (by decide) rfl (fun ls hl => ?_)
    refine lv_aload_n hx hb dL_isLeft_32 rfl (lv_at hl 2 rfl) ?_
    refine lv_bipush (v := 10) hx hb dL_isLeft_33 (by decide) ?_
    refine lv_iconst (v := 2) hx hb dL_isLeft_35 (by decide) ?_
    refine lv_iload_n hx hb dL_isLeft_36 rfl (lv_at hl 3 rfl) ?_
    refine g_nmuln (a := 2) (b := p) hx hb dL_isLeft_37 ?_
    refine g_naddn (a := 10) (b := 2 * p) hx hb dL_isLeft_38 ?_
    refine lv_iconst (v := 1) hx hb dL_isLeft_39 (by decide) ?_
    refine g_iast (n := 450) (f := f) (j := 10 + 2 * p) (x := 1) hC hA hS hnb (by omega) (by decide) dL_isLeft_40 (fun H lo hA hz_ ho_ hS => ?_)
    have hSI := hSI.netw hnb hz_ ho_
    have hA : gNet E nb (upd f (10 + 2 * p) 1) H := hA
    refine lv_aload_n hx hb dL_isLeft_41 rfl (lv_at hl 2 rfl) ?_
    refine lv_bipush (v := 11) hx hb dL_isLeft_42 (by decide) ?_
    refine lv_iconst (v := 2) hx hb dL_isLeft_44 (by decide) ?_
    refine lv_iload_n hx hb dL_isLeft_45 rfl (lv_at hl 3 rfl) ?_
    refine g_nmuln (a := 2) (b := p) hx hb dL_isLeft_46 ?_
    refine g_naddn (a := 11) (b := 2 * p) hx hb dL_isLeft_47 ?_
    refine lv_iload_n hx hb dL_isLeft_48 rfl (lv_at hl 4 rfl) ?_
    refine g_iast (n := 450) (f := (upd f (10 + 2 * p) 1)) (j := 11 + 2 * p) (x := (-1)) hC hA hS hnb (by omega) (by decide) dL_isLeft_49 (fun H lo hA hz_ ho_ hS => ?_)
    have hSI := hSI.netw hnb hz_ ho_
    have hA : gNet E nb (upd (upd f (10 + 2 * p) 1) (11 + 2 * p) (-1)) H := hA
    have hN3_ : NL (upd (upd f (10 + 2 * p) 1) (11 + 2 * p) (-1)) (up2 (up2 μ 0 p 1) 2 p (-1)) K D := hN.pers2 hp (Or.inr rfl)
    obtain ⟨g2_, eg2_⟩ : ∃ g_, g_ = (upd (upd f (10 + 2 * p) 1) (11 + 2 * p) (-1)) := ⟨_, rfl⟩
    rw [← eg2_] at hN3_ hA
    refine lv_aload_n hx hb dL_isLeft_50 rfl (lv_at hl 1 rfl) ?_
    refine lv_iload_n hx hb dL_isLeft_51 rfl (lv_at hl 3 rfl) ?_
    refine lv_iload_n hx hb dL_isLeft_52 rfl (lv_at hl 4 rfl) ?_
    refine g_cWi (k2 := 4) (n2 := 1030) (g_runSH (n := 3) (rest := []) hC (w_leave hE (nb := nb) (oa := oa) (n := n) (μ := μ) (K := K) (nI p) (-1) (by omega)) Z_leave.1 Z_leave.2.1 Z_leave.2.2.1 k_27 Z_leave.2.2.2 hSI rfl hl.1 dL_isLeft_53 ⟨Nat.le_of_ble_eq_true rfl, Nat.le_of_ble_eq_true rfl⟩ ⟨Nat.le_of_ble_eq_true rfl, Nat.le_of_ble_eq_true rfl⟩ rfl (Nat.le_of_ble_eq_true rfl)) hS (fun q h => h.1) rfl rfl (fun r4_ H lo hw5_ hz_ hk_ hS => ?_)
    have hA := hA.kept (hk_ nb hA.lt (fun z => z.2 rfl))
    obtain ⟨er_, hSI⟩ := hw5_.ok (kle_0 (isP_nI hp (by omega)) (Or.inl rfl) (fun z => absurd (z ▸ nI_pos (by omega) : ¬ (-1 : Int32) < 0) (fun y => y (by decide))))
    simp only [show ix (nI p) = p from nI_clamp (by omega)] at er_ hSI
    have er_ : r4_ = μ 2 p := er_
    subst er_
    refine lv_iload hx hb dL_isLeft_56 (lv_at hl 0 rfl) ?_
    refine lv_icmp_ne (tgt := 65) hx hb dL_isLeft_58 (by decide) (fun c6_ => ?_) (fun c6_ => ?_)
    · exact absurd rfl c6_
    · refine lv_iconst (v := 1) hx hb dL_isLeft_61 (by decide) ?_
      refine lv_goto (tgt := 66) hx hb dL_isLeft_62 (by decide) ?_
      exact g_zretW hC hr rfl dL_isLeft_66 hS (Nat.le_of_ble_eq_true rfl) (Nat.le_of_ble_eq_true rfl) ⟨rfl, _, _, _, ⟨hSI.mono (by omega), hA, (hN3_.mono (by omega) (by omega))⟩, h2, h1⟩
  · refine lv_aload_n hx hb dL_isLeft_5 rfl (lv_at hl 0 rfl) ?_
    refine lv_iload_n hx hb dL_isLeft_6 rfl (lv_at hl 2 rfl) ?_
    refine lv_iload_n hx hb dL_isLeft_7 rfl (lv_at hl 3 rfl) ?_
    refine g_cWi (k2 := 4) (n2 := 1030) (g_runSH (n := 3) (rest := []) hC (w_leave hE (nb := nb) (oa := oa) (n := n) (μ := μ) (K := K) (nI p) (-1) (by omega)) Z_leave.1 Z_leave.2.1 Z_leave.2.2.1 k_27 Z_leave.2.2.2 hSI rfl hl.1 dL_isLeft_8 ⟨Nat.le_of_ble_eq_true rfl, Nat.le_of_ble_eq_true rfl⟩ ⟨Nat.le_of_ble_eq_true rfl, Nat.le_of_ble_eq_true rfl⟩ rfl (Nat.le_of_ble_eq_true rfl)) hS (fun q h => h.1) rfl rfl (fun r7_ H lo hw8_ hz_ hk_ hS => ?_)
    have hA := hA.kept (hk_ nb hA.lt (fun z => z.2 rfl))
    obtain ⟨er_, hSI⟩ := hw8_.no 1 (kle_2 (isP_nI hp (by omega)) (Or.inl rfl) (by first | assumption | exact congrArg nI (by omega)))
    have er_ : r7_ = (-900002 : Int32) := er_
    subst er_
    refine lv_ldc (own := "SignatoryLaw") (v := -900002) hx hb hC.2.2.2.2.2.1 (gw hC.1 hC.2.1 k_245 rfl) dL_isLeft_11 ?_
    refine lv_icmp_ne (tgt := 20) hx hb dL_isLeft_13 (by decide) (fun c9_ => ?_) (fun c9_ => ?_)
    · exact absurd rfl c9_
    · refine lv_iconst (v := 1) hx hb dL_isLeft_16 (by decide) ?_
      refine lv_goto (tgt := 21) hx hb dL_isLeft_17 (by decide) ?_
      exact g_zretW hC hr rfl dL_isLeft_21 hS (Nat.le_of_ble_eq_true rfl) (Nat.le_of_ble_eq_true rfl) ⟨rfl, _, _, _, ⟨hSI.mono (by omega), hA, (hN.mono (by omega) (by omega))⟩, h2, h1⟩
set_option maxHeartbeats 4000000 in
set_option maxRecDepth 100000 in
theorem c_L_isLeft2 {l : Launch} {E : gV} (hE : gOK l E) {nb oa n D : Nat} {f : Nat → Int32} {μ : F2} {K : Nat → Nat} (hN : NL f μ K D) (hnb : E.2.1.heap.size ≤ nb) (h2 : 2 ≤ K 0) (h1 : 1 ≤ K 1) (hn : n < 500) (hD : D ≤ 391) (p j : Nat) (hp : p < K 0) (hj : j < K 0) : gM l E yL_isLeft cL_isLeft 5 (some .boolean) ({ frames := 12, cells := 4, slots := 1030, locals := 301 } : Room) [.ref oa, .ref nb, .int (nI p), .int (nI j)] (fun H => SI E nb oa μ K n H ∧ gNet E nb f H) (gQW (gA0 E) (gWi (fun r H => r = 1 ∧ NJ E nb oa (D + 9) (n + 1) 1 H))) (fun _ => False) (gA0 E) := by
  refine gM_body hE (by decide +kernel) (Nat.le_of_ble_eq_true rfl) ?_
  intro p_ e_ s m args below meth c hC ht hr hname hP ls hl
  have hx := hC.2.2.1
  have hb := hC.2.2.2.1
  have hl : lv_has ls 5 [(0, .ref oa), (1, .ref nb), (2, .int (nI p)), (3, .int (nI j))] := hl
  have hS : va_S ((gA0 E)) s.heap s.heap [] := va_S.rf
  obtain ⟨hSI, hA⟩ := hP
  have hU := hSI.pu
  have hb0 := hN.b0
  have hb1 := hN.b1
  have hb2 := hN.b2
  refine lv_iload_n hx hb dL_isLeft_0 rfl (lv_at hl 2 rfl) ?_
  refine lv_iload_n hx hb dL_isLeft_1 rfl (lv_at hl 3 rfl) ?_
  refine lv_icmp_ne (tgt := 22) hx hb dL_isLeft_2 (by decide) (fun c1_ => ?_) (fun c1_ => ?_)
  · have n2_ : ¬ p = j := fun z => c1_ (congrArg nI z)
    refine lv_aload_n hx hb dL_isLeft_22 rfl (lv_at hl 1 rfl) ?_
    refine lv_bipush (v := 11) hx hb dL_isLeft_23 (by decide) ?_
    refine lv_iconst (v := 2) hx hb dL_isLeft_25 (by decide) ?_
    refine lv_iload_n hx hb dL_isLeft_26 rfl (lv_at hl 2 rfl) ?_
    refine g_nmuln (a := 2) (b := p) hx hb dL_isLeft_27 ?_
    refine g_naddn (a := 11) (b := 2 * p) hx hb dL_isLeft_28 ?_
    refine g_iald (n := 450) (f := f) (j := 11 + 2 * p) hC hA (by omega) (by decide) dL_isLeft_29 ?_
    rw [show f (11 + 2 * p) = μ 2 p from hN.sb (j := p) (by omega) (by omega)]
    refine lv_istore (lv' := [(4, .int (μ 2 p)), (0, .ref oa), (1, .ref nb), (2, .int (nI p)), (3, .int (nI j))]) hx hb dL_isLeft_30 hl (by decide) rfl (fun ls hl => ?_)
    refine lv_aload_n hx hb dL_isLeft_32 rfl (lv_at hl 2 rfl) ?_
    refine lv_bipush (v := 10) hx hb dL_isLeft_33 (by decide) ?_
    refine lv_iconst (v := 2) hx hb dL_isLeft_35 (by decide) ?_
    refine lv_iload_n hx hb dL_isLeft_36 rfl (lv_at hl 3 rfl) ?_
    refine g_nmuln (a := 2) (b := p) hx hb dL_isLeft_37 ?_
    refine g_naddn (a := 10) (b := 2 * p) hx hb dL_isLeft_38 ?_
    refine lv_iconst (v := 1) hx hb dL_isLeft_39 (by decide) ?_
    refine g_iast (n := 450) (f := f) (j := 10 + 2 * p) (x := 1) hC hA hS hnb (by omega) (by decide) dL_isLeft_40 (fun H lo hA hz_ ho_ hS => ?_)
    have hSI := hSI.netw hnb hz_ ho_
    have hA : gNet E nb (upd f (10 + 2 * p) 1) H := hA
    refine lv_aload_n hx hb dL_isLeft_41 rfl (lv_at hl 2 rfl) ?_
    refine lv_bipush (v := 11) hx hb dL_isLeft_42 (by decide) ?_
    refine lv_iconst (v := 2) hx hb dL_isLeft_44 (by decide) ?_
    refine lv_iload_n hx hb dL_isLeft_45 rfl (lv_at hl 3 rfl) ?_
    refine g_nmuln (a := 2) (b := p) hx hb dL_isLeft_46 ?_
    refine g_naddn (a := 11) (b := 2 * p) hx hb dL_isLeft_47 ?_
    refine lv_iload_n hx hb dL_isLeft_48 rfl (lv_at hl 4 rfl) ?_
    refine g_iast (n := 450) (f := (upd f (10 + 2 * p) 1)) (j := 11 + 2 * p) (x := nI j) hC hA hS hnb (by omega) (by decide) dL_isLeft_49 (fun H lo hA hz_ ho_ hS => ?_)
    have hSI := hSI.netw hnb hz_ ho_
    have hA : gNet E nb (upd (upd f (10 + 2 * p) 1) (11 + 2 * p) (nI j)) H := hA
    have hN4_ : NL (upd (upd f (10 + 2 * p) 1) (11 + 2 * p) (nI j)) (up2 (up2 μ 0 p 1) 2 p (nI j)) K D := hN.pers2 hp (Or.inr rfl)
    obtain ⟨g3_, eg3_⟩ : ∃ g_, g_ = (upd (upd f (10 + 2 * p) 1) (11 + 2 * p) (nI j)) := ⟨_, rfl⟩
    rw [← eg3_] at hN4_ hA
    refine lv_aload_n hx hb dL_isLeft_50 rfl (lv_at hl 1 rfl) ?_
    refine lv_iload_n hx hb dL_isLeft_51 rfl (lv_at hl 3 rfl) ?_
    refine lv_iload_n hx hb dL_isLeft_52 rfl (lv_at hl 4 rfl) ?_
    refine g_cWi (k2 := 4) (n2 := 1030) (g_runSH (n := 3) (rest := []) hC (w_leave hE (nb := nb) (oa := oa) (n := n) (μ := μ) (K := K) (nI p) (nI j) (by omega)) Z_leave.1 Z_leave.2.1 Z_leave.2.2.1 k_27 Z_leave.2.2.2 hSI rfl hl.1 dL_isLeft_53 ⟨Nat.le_of_ble_eq_true rfl, Nat.le_of_ble_eq_true rfl⟩ ⟨Nat.le_of_ble_eq_true rfl, Nat.le_of_ble_eq_true rfl⟩ rfl (Nat.le_of_ble_eq_true rfl)) hS (fun q h => h.1) rfl rfl (fun r5_ H lo hw6_ hz_ hk_ hS => ?_)
    have hA := hA.kept (hk_ nb hA.lt (fun z => z.2 rfl))
    obtain ⟨er_, hSI⟩ := hw6_.ok (kle_0 (isP_nI hp (by omega)) (Or.inr (isP_nI hj (by omega))) (fun z => by have := (nI_eq (by omega) (by omega)).mp z; omega))
    simp only [show ix (nI p) = p from nI_clamp (by omega)] at er_ hSI
    have er_ : r5_ = μ 2 p := er_
    subst er_
    refine lv_iload hx hb dL_isLeft_56 (lv_at hl 0 rfl) ?_
    refine lv_icmp_ne (tgt := 65) hx hb dL_isLeft_58 (by decide) (fun c7_ => ?_) (fun c7_ => ?_)
    · exact absurd rfl c7_
    · refine lv_iconst (v := 1) hx hb dL_isLeft_61 (by decide) ?_
      refine lv_goto (tgt := 66) hx hb dL_isLeft_62 (by decide) ?_
      exact g_zretW hC hr rfl dL_isLeft_66 hS (Nat.le_of_ble_eq_true rfl) (Nat.le_of_ble_eq_true rfl) ⟨rfl, _, _, _, ⟨hSI.mono (by omega), hA, (hN4_.mono (by omega) (by omega))⟩, h2, h1⟩
  · have n2_ : p = j := (nI_eq (by omega) (by omega)).mp c1_
    refine lv_aload_n hx hb dL_isLeft_5 rfl (lv_at hl 0 rfl) ?_
    refine lv_iload_n hx hb dL_isLeft_6 rfl (lv_at hl 2 rfl) ?_
    refine lv_iload_n hx hb dL_isLeft_7 rfl (lv_at hl 3 rfl) ?_
    refine g_cWi (k2 := 4) (n2 := 1030) (g_runSH (n := 3) (rest := []) hC (w_leave hE (nb := nb) (oa := oa) (n := n) (μ := μ) (K := K) (nI p) (nI j) (by omega)) Z_leave.1 Z_leave.2.1 Z_leave.2.2.1 k_27 Z_leave.2.2.2 hSI rfl hl.1 dL_isLeft_8 ⟨Nat.le_of_ble_eq_true rfl, Nat.le_of_ble_eq_true rfl⟩ ⟨Nat.le_of_ble_eq_true rfl, Nat.le_of_ble_eq_true rfl⟩ rfl (Nat.le_of_ble_eq_true rfl)) hS (fun q h => h.1) rfl rfl (fun r8_ H lo hw9_ hz_ hk_ hS => ?_)
    have hA := hA.kept (hk_ nb hA.lt (fun z => z.2 rfl))
    obtain ⟨er_, hSI⟩ := hw9_.no 1 (kle_2 (isP_nI hp (by omega)) (Or.inr (isP_nI hj (by omega))) (by first | assumption | exact congrArg nI (by omega)))
    have er_ : r8_ = (-900002 : Int32) := er_
    subst er_
    refine lv_ldc (own := "SignatoryLaw") (v := -900002) hx hb hC.2.2.2.2.2.1 (gw hC.1 hC.2.1 k_245 rfl) dL_isLeft_11 ?_
    refine lv_icmp_ne (tgt := 20) hx hb dL_isLeft_13 (by decide) (fun c10_ => ?_) (fun c10_ => ?_)
    · exact absurd rfl c10_
    · refine lv_iconst (v := 1) hx hb dL_isLeft_16 (by decide) ?_
      refine lv_goto (tgt := 21) hx hb dL_isLeft_17 (by decide) ?_
      exact g_zretW hC hr rfl dL_isLeft_21 hS (Nat.le_of_ble_eq_true rfl) (Nat.le_of_ble_eq_true rfl) ⟨rfl, _, _, _, ⟨hSI.mono (by omega), hA, (hN.mono (by omega) (by omega))⟩, h2, h1⟩
set_option maxHeartbeats 4000000 in
set_option maxRecDepth 100000 in
theorem c_L_isBack {l : Launch} {E : gV} (hE : gOK l E) {nb oa n D : Nat} {f : Nat → Int32} {μ : F2} {K : Nat → Nat} (hN : NL f μ K D) (hnb : E.2.1.heap.size ≤ nb) (h2 : 2 ≤ K 0) (h1 : 1 ≤ K 1) (hn : n < 500) (hD : D ≤ 391) (p : Nat) (hp : p < K 0) : gM l E yL_isBack cL_isBack 4 (some .boolean) ({ frames := 12, cells := 4, slots := 1030, locals := 299 } : Room) [.ref oa, .ref nb, .int (nI p)] (fun H => SI E nb oa μ K n H ∧ gNet E nb f H) (gQW (gA0 E) (gWi (fun r H => r = 1 ∧ NJ E nb oa (D + 9) (n + 1) 1 H))) (fun _ => False) (gA0 E) := by
  refine gM_body hE (by decide +kernel) (Nat.le_of_ble_eq_true rfl) ?_
  intro p_ e_ s m args below meth c hC ht hr hname hP ls hl
  have hx := hC.2.2.1
  have hb := hC.2.2.2.1
  have hl : lv_has ls 4 [(0, .ref oa), (1, .ref nb), (2, .int (nI p))] := hl
  have hS : va_S ((gA0 E)) s.heap s.heap [] := va_S.rf
  obtain ⟨hSI, hA⟩ := hP
  have hU := hSI.pu
  have hb0 := hN.b0
  have hb1 := hN.b1
  have hb2 := hN.b2
  refine lv_aload_n hx hb dL_isBack_0 rfl (lv_at hl 1 rfl) ?_
  refine lv_bipush (v := 10) hx hb dL_isBack_1 (by decide) ?_
  refine lv_iconst (v := 2) hx hb dL_isBack_3 (by decide) ?_
  refine lv_iload_n hx hb dL_isBack_4 rfl (lv_at hl 2 rfl) ?_
  refine g_nmuln (a := 2) (b := p) hx hb dL_isBack_5 ?_
  refine g_naddn (a := 10) (b := 2 * p) hx hb dL_isBack_6 ?_
  refine g_iald (n := 450) (f := f) (j := 10 + 2 * p) hC hA (by omega) (by decide) dL_isBack_7 ?_
  rw [show f (10 + 2 * p) = μ 0 p from hN.ab (j := p) (by omega) (by omega)]
  refine lv_if_ne (tgt := 27) hx hb dL_isBack_8 (by decide) (fun c1_ => ?_) (fun c1_ => ?_)
  · refine lv_aload_n hx hb dL_isBack_27 rfl (lv_at hl 1 rfl) ?_
    refine lv_bipush (v := 11) hx hb dL_isBack_28 (by decide) ?_
    refine lv_iconst (v := 2) hx hb dL_isBack_30 (by decide) ?_
    refine lv_iload_n hx hb dL_isBack_31 rfl (lv_at hl 2 rfl) ?_
    refine g_nmuln (a := 2) (b := p) hx hb dL_isBack_32 ?_
    refine g_naddn (a := 11) (b := 2 * p) hx hb dL_isBack_33 ?_
    refine g_iald (n := 450) (f := f) (j := 11 + 2 * p) hC hA (by omega) (by decide) dL_isBack_34 ?_
    rw [show f (11 + 2 * p) = μ 2 p from hN.sb (j := p) (by omega) (by omega)]
    refine lv_istore_n (lv' := [(3, .int (μ 2 p)), (0, .ref oa), (1, .ref nb), (2, .int (nI p))]) hx hb dL_isBack_35 rfl hl (by decide) rfl (fun ls hl => ?_)
    refine lv_aload_n hx hb dL_isBack_36 rfl (lv_at hl 2 rfl) ?_
    refine lv_bipush (v := 10) hx hb dL_isBack_37 (by decide) ?_
    refine lv_iconst (v := 2) hx hb dL_isBack_39 (by decide) ?_
    refine lv_iload_n hx hb dL_isBack_40 rfl (lv_at hl 3 rfl) ?_
    refine g_nmuln (a := 2) (b := p) hx hb dL_isBack_41 ?_
    refine g_naddn (a := 10) (b := 2 * p) hx hb dL_isBack_42 ?_
    refine lv_iconst (v := 0) hx hb dL_isBack_43 (by decide) ?_
    refine g_iast (n := 450) (f := f) (j := 10 + 2 * p) (x := 0) hC hA hS hnb (by omega) (by decide) dL_isBack_44 (fun H lo hA hz_ ho_ hS => ?_)
    have hSI := hSI.netw hnb hz_ ho_
    have hA : gNet E nb (upd f (10 + 2 * p) 0) H := hA
    refine lv_aload_n hx hb dL_isBack_45 rfl (lv_at hl 2 rfl) ?_
    refine lv_bipush (v := 11) hx hb dL_isBack_46 (by decide) ?_
    refine lv_iconst (v := 2) hx hb dL_isBack_48 (by decide) ?_
    refine lv_iload_n hx hb dL_isBack_49 rfl (lv_at hl 3 rfl) ?_
    refine g_nmuln (a := 2) (b := p) hx hb dL_isBack_50 ?_
    refine g_naddn (a := 11) (b := 2 * p) hx hb dL_isBack_51 ?_
    refine lv_iconst (v := (-1)) hx hb dL_isBack_52 (by decide) ?_
    refine g_iast (n := 450) (f := (upd f (10 + 2 * p) 0)) (j := 11 + 2 * p) (x := (-1)) hC hA hS hnb (by omega) (by decide) dL_isBack_53 (fun H lo hA hz_ ho_ hS => ?_)
    have hSI := hSI.netw hnb hz_ ho_
    have hA : gNet E nb (upd (upd f (10 + 2 * p) 0) (11 + 2 * p) (-1)) H := hA
    have hN4_ : NL (upd (upd f (10 + 2 * p) 0) (11 + 2 * p) (-1)) (up2 (up2 μ 0 p 0) 2 p (-1)) K D := hN.pers2 hp (Or.inl rfl)
    obtain ⟨g3_, eg3_⟩ : ∃ g_, g_ = (upd (upd f (10 + 2 * p) 0) (11 + 2 * p) (-1)) := ⟨_, rfl⟩
    rw [← eg3_] at hN4_ hA
    refine lv_aload_n hx hb dL_isBack_54 rfl (lv_at hl 1 rfl) ?_
    refine lv_iload_n hx hb dL_isBack_55 rfl (lv_at hl 3 rfl) ?_
    refine g_cWi (k2 := 4) (n2 := 1030) (g_runSH (n := 2) (rest := []) hC (w_comeBack hE (nb := nb) (oa := oa) (n := n) (μ := μ) (K := K) (nI p) (by omega)) Z_comeBack.1 Z_comeBack.2.1 Z_comeBack.2.2.1 k_246 Z_comeBack.2.2.2 hSI rfl hl.1 dL_isBack_56 ⟨Nat.le_of_ble_eq_true rfl, Nat.le_of_ble_eq_true rfl⟩ ⟨Nat.le_of_ble_eq_true rfl, Nat.le_of_ble_eq_true rfl⟩ rfl (Nat.le_of_ble_eq_true rfl)) hS (fun q h => h.1) rfl rfl (fun r5_ H lo hw6_ hz_ hk_ hS => ?_)
    have hA := hA.kept (hk_ nb hA.lt (fun z => z.2 rfl))
    obtain ⟨er_, hSI⟩ := hw6_.ok (kb_0 (isP_nI hp (by omega)) (by rw [show ix (nI p) = p from nI_clamp (by omega)]; assumption))
    simp only [show ix (nI p) = p from nI_clamp (by omega)] at er_ hSI
    have er_ : r5_ = μ 2 p := er_
    subst er_
    refine lv_iload_n hx hb dL_isBack_59 rfl (lv_at hl 0 rfl) ?_
    refine lv_icmp_ne (tgt := 67) hx hb dL_isBack_60 (by decide) (fun c7_ => ?_) (fun c7_ => ?_)
    · exact absurd rfl c7_
    · refine lv_iconst (v := 1) hx hb dL_isBack_63 (by decide) ?_
      refine lv_goto (tgt := 68) hx hb dL_isBack_64 (by decide) ?_
      exact g_zretW hC hr rfl dL_isBack_68 hS (Nat.le_of_ble_eq_true rfl) (Nat.le_of_ble_eq_true rfl) ⟨rfl, _, _, _, ⟨hSI.mono (by omega), hA, (hN4_.mono (by omega) (by omega))⟩, h2, h1⟩
  · refine lv_aload_n hx hb dL_isBack_11 rfl (lv_at hl 0 rfl) ?_
    refine lv_iload_n hx hb dL_isBack_12 rfl (lv_at hl 2 rfl) ?_
    refine g_cWi (k2 := 4) (n2 := 1030) (g_runSH (n := 2) (rest := []) hC (w_comeBack hE (nb := nb) (oa := oa) (n := n) (μ := μ) (K := K) (nI p) (by omega)) Z_comeBack.1 Z_comeBack.2.1 Z_comeBack.2.2.1 k_246 Z_comeBack.2.2.2 hSI rfl hl.1 dL_isBack_13 ⟨Nat.le_of_ble_eq_true rfl, Nat.le_of_ble_eq_true rfl⟩ ⟨Nat.le_of_ble_eq_true rfl, Nat.le_of_ble_eq_true rfl⟩ rfl (Nat.le_of_ble_eq_true rfl)) hS (fun q h => h.1) rfl rfl (fun r8_ H lo hw9_ hz_ hk_ hS => ?_)
    have hA := hA.kept (hk_ nb hA.lt (fun z => z.2 rfl))
    obtain ⟨er_, hSI⟩ := hw9_.no 1 (kb_2 (isP_nI hp (by omega)) (by rw [show ix (nI p) = p from nI_clamp (by omega)]; assumption))
    have er_ : r8_ = (-900002 : Int32) := er_
    subst er_
    refine lv_ldc (own := "SignatoryLaw") (v := -900002) hx hb hC.2.2.2.2.2.1 (gw hC.1 hC.2.1 k_245 rfl) dL_isBack_16 ?_
    refine lv_icmp_ne (tgt := 25) hx hb dL_isBack_18 (by decide) (fun c10_ => ?_) (fun c10_ => ?_)
    · exact absurd rfl c10_
    · refine lv_iconst (v := 1) hx hb dL_isBack_21 (by decide) ?_
      refine lv_goto (tgt := 26) hx hb dL_isBack_22 (by decide) ?_
      exact g_zretW hC hr rfl dL_isBack_26 hS (Nat.le_of_ble_eq_true rfl) (Nat.le_of_ble_eq_true rfl) ⟨rfl, _, _, _, ⟨hSI.mono (by omega), hA, (hN.mono (by omega) (by omega))⟩, h2, h1⟩
