set_option maxHeartbeats 4000000 in
set_option maxRecDepth 100000 in
theorem c_L_begun {l : Launch} {E : gV} (hE : gOK l E) {b L : Nat} {xs : Nat → Int32} (hX : va_X b L xs E.2.1 E.2.1.heap) (hbl : b < E.2.1.heap.size) (hL : L < 2 ^ 31) {nb : Nat} (hnb : E.2.1.heap.size ≤ nb) : gM l E yL_begun cL_begun 5 (some (.object "Signatory")) ({ frames := 14, cells := 100, slots := 20742, locals := 360 } : Room) [.ref b, .ref nb] (fun H => gFz E H ∧ gNet E nb (fun _ => 0) H) (gQW (gA0 E) (gWr (fun r H => NJ E nb r 90 10 1 H))) (fun _ => False) (gA0 E) := by
  refine gM_body hE (by decide +kernel) (Nat.le_of_ble_eq_true rfl) ?_
  intro p_ e_ s m args below meth c hC ht hr hname hP ls hl
  have hx := hC.2.2.1
  have hb := hC.2.2.2.1
  have hl : lv_has ls 5 [(0, .ref b), (1, .ref nb)] := hl
  have hS : va_S ((gA0 E)) s.heap s.heap [] := va_S.rf
  obtain ⟨hF, hA⟩ := hP
  have hEs := gFz.le hF
  have hAl : ∀ q, s.heap.size ≤ q → gA0 E q := fun q hq => by show E.2.1.heap.size ≤ q; omega
  have hnl := hA.lt
  obtain ⟨a, ha⟩ : ∃ a, a = s.heap.size := ⟨_, rfl⟩
  have haE : E.2.1.heap.size ≤ a := by omega
  refine g_nwo (q := a) (ci := 5) ha.symm hC rfl u4_in tyX4 tyX4_ok k_666 k_39 k_1 bl4_ok hS hAl (Nat.le_of_ble_eq_true rfl) (Nat.le_of_ble_eq_true rfl) dL_begun_0 (fun H hO hz1 ho1 hS => ?_)
  have hA := hA.kept (ho1 nb (by omega))
  refine lv_dup hx hb dL_begun_3 rfl ?_
  refine g_cWv (k2 := 14) (n2 := 206) (g_runI (rest := [.ref a]) hC (c_X4_init hE a (a + 1) haE) Y_X4_init k_667 I_X4_init rfl ⟨hF.kept (fun q hq => ho1 q (by omega)), hz1, hO⟩ rfl hl.1 dL_begun_4 ⟨Nat.le_of_ble_eq_true rfl, Nat.le_of_ble_eq_true rfl⟩ ⟨Nat.le_of_ble_eq_true rfl, Nat.le_of_ble_eq_true rfl⟩ rfl (Nat.le_of_ble_eq_true rfl)) hS (fun q h => hAl q (by rcases h with h | h <;> omega)) rfl rfl (fun H lo hx_ hz_ hk_ hS => ?_)
  obtain ⟨hz2, t, hR⟩ := hx_
  have hA := hA.kept (hk_ nb hA.lt (fun z => by rcases z with z | z <;> omega))
  have hSI := si_new hR (by omega) hA.lt
  refine lv_astore_n (lv' := [(2, .ref a), (0, .ref b), (1, .ref nb)]) hx hb dL_begun_7 rfl hl (by decide) rfl (fun ls hl => ?_)
  refine lv_aload_n hx hb dL_begun_8 rfl (lv_at hl 2 rfl) ?_
  refine lv_iconst (v := 4) hx hb dL_begun_9 (by decide) ?_
  refine lv_bipush (v := 30) hx hb dL_begun_10 (by decide) ?_
  refine g_iast (n := 450) (f := (fun _ => (0 : Int32))) (j := 4) (x := 30) hC hA hS hnb (by omega) (by decide) dL_begun_12 (fun H lo hA hz_ ho_ hS => ?_)
  have hSI := hSI.netw hnb hz_ ho_
  have hA : gNet E nb (upd (fun _ => (0 : Int32)) (4) 30) H := hA
  have hN1_ : NL (upd (fun _ => (0 : Int32)) (4) 30) mu0 nZ 0 := NL.new
  obtain ⟨g1_, eg1_⟩ : ∃ g_, g_ = (upd (fun _ => (0 : Int32)) (4) 30) := ⟨_, rfl⟩
  rw [← eg1_] at hN1_ hA
  refine lv_iconst (v := 1) hx hb dL_begun_13 (by decide) ?_
  refine lv_istore_n (lv' := [(3, .int 1), (2, .ref a), (0, .ref b), (1, .ref nb)]) hx hb dL_begun_14 rfl hl (by decide) rfl (fun ls hl => ?_)
  refine lv_iconst (v := 2) hx hb dL_begun_15 (by decide) ?_
  refine lv_aload_n hx hb dL_begun_16 rfl (lv_at hl 2 rfl) ?_
  refine lv_iconst (v := 0) hx hb dL_begun_17 (by decide) ?_
  refine lv_iconst (v := 5) hx hb dL_begun_18 (by decide) ?_
  refine g_cRi (k2 := 14) (n2 := 206) (g_runS (rest := [.int 2]) hC (c_L_in hE hX hbl hL (0) (5) (by omega) (by omega) (by omega)) Y_L_in k_654 S_L_in hSI.frz rfl hl.1 dL_begun_19 ⟨Nat.le_of_ble_eq_true rfl, Nat.le_of_ble_eq_true rfl⟩ ⟨Nat.le_of_ble_eq_true rfl, Nat.le_of_ble_eq_true rfl⟩ rfl (Nat.le_of_ble_eq_true rfl)) rfl rfl g_no (fun r1_ h2_ => ?_)
  obtain ⟨jn, hjn, rfl⟩ := h2_
  refine g_naddn (a := 2) (b := jn) hx hb dL_begun_22 ?_
  refine lv_istore (lv' := [(4, .int (nI (2 + jn))), (3, .int 1), (2, .ref a), (0, .ref b), (1, .ref nb)]) hx hb dL_begun_23 hl (by decide) rfl (fun ls hl => ?_)
  have hB : BJ E nb a (2 + jn) (2 + jn) H := ⟨_, _, _, hSI, hA, hN1_, Nat.zero_add _, rfl⟩
  have lp1 : ∀ (n_ : Nat) (z : Nat) (H : Heap) (lo : List Loc) (ls : Array Slot), z < n_ → (z ≤ 6) → BJ E nb a (2 + jn) z H → va_S ((gA0 E)) s.heap H lo → lv_has ls 5 [(0, .ref b), (1, .ref nb), (2, .ref a), (3, .int 1), (4, .int (nI z))] → W p_ l e_ ({ frames := 14, cells := 100, slots := 20742, locals := 360 } : Room) s m args below meth c H lo (14 + (6 - z)) (206 + 6 * (6 - z)) (vx_MQ below (gQW (gA0 E) (gWr (fun r H => NJ E nb r 90 10 1 H))) (gX (fun _ => False)) args s 100 20742 (gA0 E)) (F0 m 25 ls []) := by
    intro n_
    induction n_ with
    | zero => intro z H lo ls h_; exact absurd h_ (Nat.not_lt_zero _)
    | succ n_ ih_lp1 =>
      intro z H lo ls hn_ i1 hB hS hl
      rcases z with _ | z
      · obtain ⟨f, μ, K, hSI, hA, hN, hKz, hK1⟩ := id hB
        refine lv_iload hx hb dL_begun_25 (lv_at hl 4 rfl) ?_
        refine lv_if_le (tgt := 74) hx hb dL_begun_27 (by decide) (fun c3_ => ?_) (fun c3_ => ?_)
        · refine lv_iconst (v := 1) hx hb dL_begun_74 (by decide) ?_
          refine lv_aload_n hx hb dL_begun_75 rfl (lv_at hl 0 rfl) ?_
          refine lv_iconst (v := 1) hx hb dL_begun_76 (by decide) ?_
          refine lv_bipush (v := 6) hx hb dL_begun_77 (by decide) ?_
          refine g_cRi (k2 := 20) (n2 := 242) (g_runS (rest := [.int 1]) hC (c_L_in hE hX hbl hL (1) (6) (by omega) (by omega) (by omega)) Y_L_in k_654 S_L_in hSI.frz rfl hl.1 dL_begun_79 ⟨Nat.le_of_ble_eq_true rfl, Nat.le_of_ble_eq_true rfl⟩ ⟨Nat.le_of_ble_eq_true rfl, Nat.le_of_ble_eq_true rfl⟩ rfl (Nat.le_of_ble_eq_true rfl)) rfl rfl g_no (fun r4_ h5_ => ?_)
          obtain ⟨j2, hj2, rfl⟩ := h5_
          refine g_naddn (a := 1) (b := j2) hx hb dL_begun_82 ?_
          refine lv_istore (lv' := [(4, .int (nI (1 + j2))), (0, .ref b), (1, .ref nb), (2, .ref a), (3, .int 1)]) hx hb dL_begun_83 hl (by decide) rfl (fun ls hl => ?_)
          have hJ : NJ E nb a (9 * 0) 0 (min 0 1) H := ⟨f, μ, K, ⟨hSI, hA, hN⟩, by omega, by omega⟩
          have lp2 : ∀ (n_ : Nat) (z : Nat) (k : Nat) (H : Heap) (lo : List Loc) (ls : Array Slot), z < n_ → (z + k = 1 + j2) → NJ E nb a (9 * k) k (min k 1) H → va_S ((gA0 E)) s.heap H lo → lv_has ls 5 [(0, .ref b), (1, .ref nb), (2, .ref a), (3, .int 1), (4, .int (nI z))] → W p_ l e_ ({ frames := 14, cells := 100, slots := 20742, locals := 360 } : Room) s m args below meth c H lo (20 + 8 * k) (242 + 2050 * k) (vx_MQ below (gQW (gA0 E) (gWr (fun r H => NJ E nb r 90 10 1 H))) (gX (fun _ => False)) args s 100 20742 (gA0 E)) (F0 m 85 ls []) := by
            intro n_
            induction n_ with
            | zero => intro z k H lo ls h_; exact absurd h_ (Nat.not_lt_zero _)
            | succ n_ ih_lp2 =>
              intro z k H lo ls hn_ i2 hJ hS hl
              rcases z with _ | z
              · obtain ⟨f, μ, K, ⟨hSI, hA, hN⟩, h2, hc1⟩ := id hJ
                have hU := hSI.pu
                refine lv_iload hx hb dL_begun_85 (lv_at hl 4 rfl) ?_
                refine lv_if_le (tgt := 113) hx hb dL_begun_87 (by decide) (fun c6_ => ?_) (fun c6_ => ?_)
                · refine lv_aload_n hx hb dL_begun_113 rfl (lv_at hl 0 rfl) ?_
                  refine lv_iconst (v := 2) hx hb dL_begun_114 (by decide) ?_
                  refine lv_iconst (v := 5) hx hb dL_begun_115 (by decide) ?_
                  refine g_cRi (k2 := (20 + 8 * k) + 0) (n2 := (242 + 2050 * k) + 0) (g_runS (rest := []) hC (c_L_in hE hX hbl hL (2) (5) (by omega) (by omega) (by omega)) Y_L_in k_654 S_L_in hSI.frz rfl hl.1 dL_begun_116 ⟨Nat.le_of_ble_eq_true rfl, Nat.le_of_ble_eq_true rfl⟩ ⟨by show (20 + 8 * k) + 0 + 0 ≤ 100; omega, by show (242 + 2050 * k) + 0 + 0 ≤ 20742; omega⟩ rfl (Nat.le_of_ble_eq_true rfl)) (by show (20 + 8 * k) + 0 + 0 = (20 + 8 * k) + 0; omega) (by show (242 + 2050 * k) + 0 + 0 = (242 + 2050 * k) + 0; omega) g_no (fun r7_ h8_ => ?_)
                  obtain ⟨j3, hj3, rfl⟩ := h8_
                  refine lv_istore (lv' := [(4, .int (nI j3)), (0, .ref b), (1, .ref nb), (2, .ref a), (3, .int 1)]) hx hb dL_begun_119 hl (by decide) rfl (fun ls hl => ?_)
                  have hJ : NJ E nb a (54 + 9 * 0) (6 + 0) 1 H := hJ.to (by omega) (by omega) (by omega) (by omega)
                  have lp3 : ∀ (n_ : Nat) (z : Nat) (k3 : Nat) (H : Heap) (lo : List Loc) (ls : Array Slot), z < n_ → (z + k3 = j3) → NJ E nb a (54 + 9 * k3) (6 + k3) 1 H → va_S ((gA0 E)) s.heap H lo → lv_has ls 5 [(0, .ref b), (1, .ref nb), (2, .ref a), (3, .int 1), (4, .int (nI z))] → W p_ l e_ ({ frames := 14, cells := 100, slots := 20742, locals := 360 } : Room) s m args below meth c H lo (68 + 8 * k3) (12542 + 2050 * k3) (vx_MQ below (gQW (gA0 E) (gWr (fun r H => NJ E nb r 90 10 1 H))) (gX (fun _ => False)) args s 100 20742 (gA0 E)) (F0 m 121 ls []) := by
                    intro n_
                    induction n_ with
                    | zero => intro z k3 H lo ls h_; exact absurd h_ (Nat.not_lt_zero _)
                    | succ n_ ih_lp3 =>
                      intro z k3 H lo ls hn_ i3 hJ hS hl
                      rcases z with _ | z
                      · obtain ⟨f, μ, K, ⟨hSI, hA, hN⟩, h2, hc1⟩ := id hJ
                        have hU := hSI.pu
                        refine lv_iload hx hb dL_begun_121 (lv_at hl 4 rfl) ?_
                        refine lv_if_le (tgt := 149) hx hb dL_begun_123 (by decide) (fun c9_ => ?_) (fun c9_ => ?_)
                        · refine lv_iload_n hx hb dL_begun_149 rfl (lv_at hl 3 rfl) ?_
                          refine lv_if_eq (tgt := 157) hx hb dL_begun_150 (by decide) (fun c10_ => ?_) (fun c10_ => ?_)
                          · exact absurd c10_ (by decide)
                          · refine lv_aload_n hx hb dL_begun_153 rfl (lv_at hl 2 rfl) ?_
                            refine lv_goto (tgt := 158) hx hb dL_begun_154 (by decide) ?_
                            exact g_aretW hC hr (Or.inl ⟨_, rfl⟩) dL_begun_158 hS (by show (68 + 8 * k3) + 0 ≤ 100; omega) (by show (12542 + 2050 * k3) + 0 ≤ 20742; omega) (hJ.to (by omega) (by omega) (by omega) (by omega))
                        · exact absurd (by decide) c9_
                      · obtain ⟨f, μ, K, ⟨hSI, hA, hN⟩, h2, hc1⟩ := id hJ
                        have hU := hSI.pu
                        have hn : 6 + k3 < 500 := by omega
                        have hD : 54 + 9 * k3 ≤ 391 := by omega
                        have h1 := hc1
                        refine lv_iload hx hb dL_begun_121 (lv_at hl 4 rfl) ?_
                        refine lv_if_le (tgt := 149) hx hb dL_begun_123 (by decide) (fun c11_ => ?_) (fun c11_ => ?_)
                        · exact absurd c11_ (nI_nle (by omega) (by omega))
                        · refine lv_iload_n hx hb dL_begun_126 rfl (lv_at hl 3 rfl) ?_
                          refine lv_aload_n hx hb dL_begun_127 rfl (lv_at hl 2 rfl) ?_
                          refine lv_aload_n hx hb dL_begun_128 rfl (lv_at hl 1 rfl) ?_
                          refine lv_aload_n hx hb dL_begun_129 rfl (lv_at hl 0 rfl) ?_
                          refine lv_bipush (v := 70) hx hb dL_begun_130 (by decide) ?_
                          refine lv_bipush (v := 7) hx hb dL_begun_132 (by decide) ?_
                          refine lv_iload hx hb dL_begun_134 (lv_at hl 4 rfl) ?_
                          refine g_nmuln (a := 7) (b := z + 1) hx hb dL_begun_136 ?_
                          refine g_naddn (a := 70) (b := 7 * (z + 1)) hx hb dL_begun_137 ?_
                          refine g_cWi (k2 := (68 + 8 * k3) + 8) (n2 := (12542 + 2050 * k3) + 2050) (g_runS (rest := [.int 1]) hC (c_L_isDelegated hE hX hbl hL hN hnb h2 h1 hn hD (70 + (7 * (z + 1))) (by omega)) Y_L_isDelegated k_824 S_L_isDelegated ⟨hSI, hA⟩ rfl hl.1 dL_begun_138 ⟨Nat.le_of_ble_eq_true rfl, Nat.le_of_ble_eq_true rfl⟩ ⟨by show (68 + 8 * k3) + 0 + 8 ≤ 100; omega, by show (12542 + 2050 * k3) + 0 + 2050 ≤ 20742; omega⟩ rfl (Nat.le_of_ble_eq_true rfl)) hS (fun _ h => h) (by show (68 + 8 * k3) + 0 + 8 = (68 + 8 * k3) + 8; omega) (by show (12542 + 2050 * k3) + 0 + 2050 = (12542 + 2050 * k3) + 2050; omega) (fun r12_ H lo h13_ hz_ hk_ hS => ?_)
                          obtain ⟨rfl, hJ⟩ := h13_
                          refine lv_iand hx hb dL_begun_141 ?_
                          rw [show ((1 : Int32) &&& 1) = 1 from by decide]
                          refine lv_istore_n (lv' := [(3, .int 1), (0, .ref b), (1, .ref nb), (2, .ref a), (4, .int (nI (z + 1)))]) hx hb dL_begun_142 rfl hl (by decide) rfl (fun ls hl => ?_)
                          refine lv_iinc (v := nI z) (lv' := [(4, .int (nI z)), (3, .int 1), (0, .ref b), (1, .ref nb), (2, .ref a)]) hx hb dL_begun_143 hl (k := 4) rfl ((g_dec _).trans (nI_pred _)) (by decide) rfl (fun ls hl => ?_)
                          refine lv_goto (tgt := 121) hx hb dL_begun_146 (by decide) ?_
                          have hJ : NJ E nb a (54 + 9 * (k3 + 1)) (6 + (k3 + 1)) 1 H := hJ.to (by omega) (by omega) (by omega) (by omega)
                          exact W.widen (by omega) (by omega) (ih_lp3 z (k3 + 1) H lo ls (by omega) (by omega) hJ hS (lv_sub hl [2, 3, 4, 1, 0] rfl))
                  exact W.widen (by omega) (by omega) (lp3 (((j3)) + 1) j3 0 H lo ls (by omega) (by omega) hJ hS (lv_sub hl [1, 2, 3, 4, 0] rfl))
                · exact absurd (by decide) c6_
              · obtain ⟨f, μ, K, ⟨hSI, hA, hN⟩, h2, hc1⟩ := id hJ
                have hU := hSI.pu
                have hn : k < 500 := by omega
                have hD : 9 * k ≤ 391 := by omega
                refine lv_iload hx hb dL_begun_85 (lv_at hl 4 rfl) ?_
                refine lv_if_le (tgt := 113) hx hb dL_begun_87 (by decide) (fun c14_ => ?_) (fun c14_ => ?_)
                · exact absurd c14_ (nI_nle (by omega) (by omega))
                · refine lv_iload_n hx hb dL_begun_90 rfl (lv_at hl 3 rfl) ?_
                  refine lv_aload_n hx hb dL_begun_91 rfl (lv_at hl 2 rfl) ?_
                  refine lv_aload_n hx hb dL_begun_92 rfl (lv_at hl 1 rfl) ?_
                  refine lv_aload_n hx hb dL_begun_93 rfl (lv_at hl 0 rfl) ?_
                  refine lv_bipush (v := 10) hx hb dL_begun_94 (by decide) ?_
                  refine lv_bipush (v := 8) hx hb dL_begun_96 (by decide) ?_
                  refine lv_iload hx hb dL_begun_98 (lv_at hl 4 rfl) ?_
                  refine g_nmuln (a := 8) (b := z + 1) hx hb dL_begun_100 ?_
                  refine g_naddn (a := 10) (b := 8 * (z + 1)) hx hb dL_begun_101 ?_
                  refine g_cWi (k2 := (20 + 8 * k) + 8) (n2 := (242 + 2050 * k) + 2050) (g_runS (rest := [.int 1]) hC (c_L_isPower hE hX hbl hL hN hnb h2 hn hD (10 + (8 * (z + 1))) (by omega)) Y_L_isPower k_753 S_L_isPower ⟨hSI, hA⟩ rfl hl.1 dL_begun_102 ⟨Nat.le_of_ble_eq_true rfl, Nat.le_of_ble_eq_true rfl⟩ ⟨by show (20 + 8 * k) + 0 + 8 ≤ 100; omega, by show (242 + 2050 * k) + 0 + 2050 ≤ 20742; omega⟩ rfl (Nat.le_of_ble_eq_true rfl)) hS (fun _ h => h) (by show (20 + 8 * k) + 0 + 8 = (20 + 8 * k) + 8; omega) (by show (242 + 2050 * k) + 0 + 2050 = (242 + 2050 * k) + 2050; omega) (fun r15_ H lo h16_ hz_ hk_ hS => ?_)
                  obtain ⟨rfl, hJ⟩ := h16_
                  refine lv_iand hx hb dL_begun_105 ?_
                  rw [show ((1 : Int32) &&& 1) = 1 from by decide]
                  refine lv_istore_n (lv' := [(3, .int 1), (0, .ref b), (1, .ref nb), (2, .ref a), (4, .int (nI (z + 1)))]) hx hb dL_begun_106 rfl hl (by decide) rfl (fun ls hl => ?_)
                  refine lv_iinc (v := nI z) (lv' := [(4, .int (nI z)), (3, .int 1), (0, .ref b), (1, .ref nb), (2, .ref a)]) hx hb dL_begun_107 hl (k := 4) rfl ((g_dec _).trans (nI_pred _)) (by decide) rfl (fun ls hl => ?_)
                  refine lv_goto (tgt := 85) hx hb dL_begun_110 (by decide) ?_
                  have hJ : NJ E nb a (9 * (k + 1)) (k + 1) (min (k + 1) 1) H := hJ.to (by omega) (by omega) (by omega) (by omega)
                  exact W.widen (by omega) (by omega) (ih_lp2 z (k + 1) H lo ls (by omega) (by omega) hJ hS (lv_sub hl [2, 3, 4, 1, 0] rfl))
          exact W.widen (by omega) (by omega) (lp2 (((1 + j2)) + 1) (1 + j2) 0 H lo ls (by omega) (by omega) hJ hS (lv_sub hl [1, 2, 3, 4, 0] rfl))
        · exact absurd (by decide) c3_
      · obtain ⟨f, μ, K, hSI, hA, hN, hKz, hK1⟩ := id hB
        have hU := hSI.pu
        have hb0 := hN.b0
        refine lv_iload hx hb dL_begun_25 (lv_at hl 4 rfl) ?_
        refine lv_if_le (tgt := 74) hx hb dL_begun_27 (by decide) (fun c17_ => ?_) (fun c17_ => ?_)
        · exact absurd c17_ (nI_nle (by omega) (by omega))
        · refine lv_aload_n hx hb dL_begun_30 rfl (lv_at hl 1 rfl) ?_
          refine lv_bipush (v := 11) hx hb dL_begun_31 (by decide) ?_
          refine lv_iconst (v := 2) hx hb dL_begun_33 (by decide) ?_
          refine lv_aload_n hx hb dL_begun_34 rfl (lv_at hl 1 rfl) ?_
          refine lv_iconst (v := 0) hx hb dL_begun_35 (by decide) ?_
          refine g_iald (n := 450) (f := f) (j := 0) hC hA (by omega) (by decide) dL_begun_36 ?_
          rw [show f (0) = nI (K 0) from hN.k0]
          refine g_nmuln (a := 2) (b := K 0) hx hb dL_begun_37 ?_
          refine g_naddn (a := 11) (b := 2 * (K 0)) hx hb dL_begun_38 ?_
          refine lv_iconst (v := (-1)) hx hb dL_begun_39 (by decide) ?_
          refine g_iast (n := 450) (f := f) (j := 11 + 2 * (K 0)) (x := (-1)) hC hA hS hnb (by omega) (by decide) dL_begun_40 (fun H lo hA hz_ ho_ hS => ?_)
          have hSI := hSI.netw hnb hz_ ho_
          have hA : gNet E nb (upd f (11 + 2 * (K 0)) (-1)) H := hA
          refine lv_aload_n hx hb dL_begun_41 rfl (lv_at hl 1 rfl) ?_
          refine lv_iconst (v := 0) hx hb dL_begun_42 (by decide) ?_
          refine lv_dup2_11 hx hb dL_begun_43 rfl rfl ?_
          refine g_iald (n := 450) (f := (upd f (11 + 2 * (K 0)) (-1))) (j := 0) hC hA (by omega) (by decide) dL_begun_44 ?_
          rw [show (upd f (11 + 2 * (K 0)) (-1)) (0) = nI (K 0) from by rw [upd_n _ _ (by omega)]; exact hN.k0]
          refine lv_iconst (v := 1) hx hb dL_begun_45 (by decide) ?_
          refine g_naddn (a := K 0) (b := 1) hx hb dL_begun_46 ?_
          refine g_iast (n := 450) (f := (upd f (11 + 2 * (K 0)) (-1))) (j := 0) (x := nI (K 0 + 1)) hC hA hS hnb (by omega) (by decide) dL_begun_47 (fun H lo hA hz_ ho_ hS => ?_)
          have hSI := hSI.netw hnb hz_ ho_
          have hA : gNet E nb (upd (upd f (11 + 2 * (K 0)) (-1)) (0) (nI (K 0 + 1))) H := hA
          have hN19_ : NL (upd (upd f (11 + 2 * (K 0)) (-1)) (0) (nI (K 0 + 1))) (up2 μ 2 (K 0) (-1)) (updN K 0 (K 0 + 1)) 0 := hN.person (by omega)
          obtain ⟨g18_, eg18_⟩ : ∃ g_, g_ = (upd (upd f (11 + 2 * (K 0)) (-1)) (0) (nI (K 0 + 1))) := ⟨_, rfl⟩
          rw [← eg18_] at hN19_ hA
          refine lv_iload_n hx hb dL_begun_48 rfl (lv_at hl 3 rfl) ?_
          refine lv_aload_n hx hb dL_begun_49 rfl (lv_at hl 2 rfl) ?_
          refine g_cWi (k2 := (14 + (6 - (z + 1))) + 1) (n2 := (206 + 6 * (6 - (z + 1))) + 6) (g_runSH (n := 1) (rest := [.int 1]) hC (w_addPerson hE (nb := nb) (oa := a) (n := 0) (μ := μ) (K := K) ) Z_addPerson.1 Z_addPerson.2.1 Z_addPerson.2.2.1 k_745 Z_addPerson.2.2.2 hSI rfl hl.1 dL_begun_50 ⟨Nat.le_of_ble_eq_true rfl, Nat.le_of_ble_eq_true rfl⟩ ⟨by show (14 + (6 - (z + 1))) + 0 + 1 ≤ 100; omega, by show (206 + 6 * (6 - (z + 1))) + 0 + 6 ≤ 20742; omega⟩ rfl (Nat.le_of_ble_eq_true rfl)) hS (fun q h => h.1) (by show (14 + (6 - (z + 1))) + 0 + 1 = (14 + (6 - (z + 1))) + 1; omega) (by show (206 + 6 * (6 - (z + 1))) + 0 + 6 = (206 + 6 * (6 - (z + 1))) + 6; omega) (fun r20_ H lo hw21_ hz_ hk_ hS => ?_)
          have hA := hA.kept (hk_ nb hA.lt (fun z => z.2 rfl))
          obtain ⟨er_, hSI⟩ := hw21_.ok (kad_0 (by omega))
          have er_ : r20_ = nI (K 0) := er_
          subst er_
          refine lv_aload_n hx hb dL_begun_53 rfl (lv_at hl 1 rfl) ?_
          refine lv_iconst (v := 0) hx hb dL_begun_54 (by decide) ?_
          refine g_iald (n := 450) (f := g18_) (j := 0) hC hA (by omega) (by decide) dL_begun_55 ?_
          rw [show g18_ (0) = nI (K 0 + 1) from hN19_.k0]
          refine lv_iconst (v := 1) hx hb dL_begun_56 (by decide) ?_
          refine g_isub1 hx hb dL_begun_57 ?_
          refine lv_icmp_ne (tgt := 65) hx hb dL_begun_58 (by decide) (fun c22_ => ?_) (fun c22_ => ?_)
          · exact absurd rfl c22_
          · refine lv_iconst (v := 1) hx hb dL_begun_61 (by decide) ?_
            refine lv_goto (tgt := 66) hx hb dL_begun_62 (by decide) ?_
            refine lv_iand hx hb dL_begun_66 ?_
            rw [show ((1 : Int32) &&& 1) = 1 from by decide]
            refine lv_istore_n (lv' := [(3, .int 1), (0, .ref b), (1, .ref nb), (2, .ref a), (4, .int (nI (z + 1)))]) hx hb dL_begun_67 rfl hl (by decide) rfl (fun ls hl => ?_)
            refine lv_iinc (v := nI z) (lv' := [(4, .int (nI z)), (3, .int 1), (0, .ref b), (1, .ref nb), (2, .ref a)]) hx hb dL_begun_68 hl (k := 4) rfl ((g_dec _).trans (nI_pred _)) (by decide) rfl (fun ls hl => ?_)
            refine lv_goto (tgt := 25) hx hb dL_begun_71 (by decide) ?_
            have hB : BJ E nb a (2 + jn) z H := ⟨_, _, _, hSI, hA, hN19_, (by show K 0 + 1 + z = _; omega), hK1⟩
            exact W.widen (by omega) (by omega) (ih_lp1 z H lo ls (by omega) (by omega) hB hS (lv_sub hl [2, 3, 4, 1, 0] rfl))
  exact W.widen (by omega) (by omega) (lp1 (((2 + jn)) + 1) (2 + jn) H lo ls (by omega) (by omega) hB hS (lv_sub hl [3, 4, 2, 1, 0] rfl))
