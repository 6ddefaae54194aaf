set_option maxHeartbeats 4000000 in
set_option maxRecDepth 100000 in
theorem c_L_faulted {l : Launch} {E : gV} (hE : gOK l E) {nb D : Nat} {f : Nat → Int32} {μ : F2} {K : Nat → Nat} (hN : NL f μ K D) (hU : PU μ K) (p : Nat) (s0 : Int32) (hp : p < K 1) : gM l E yL_faulted cL_faulted 8 (some .int) ({ frames := 0, cells := 0, slots := 0, locals := 0 } : Room) [.ref nb, .int (nI p), .int s0] (fun H => gNet E nb f H) (gQR (gPi (fun r => r = fTl (mv μ) (μ 22 0) s0 0 0 p))) (fun _ => False) gN := by
  refine gM_body hE (by decide +kernel) (Nat.le_of_ble_eq_true rfl) ?_
  intro p_ e_ s m args below meth c hC ht hr hname hP ls hl
  have hx := hC.2.2.1
  have hb := hC.2.2.2.1
  have hl : lv_has ls 8 [(0, .ref nb), (1, .int (nI p)), (2, .int s0)] := hl
  have hA : gNet E nb f s.heap := hP
  have hb0 := hN.b0
  have hb1 := hN.b1
  have hb2 := hN.b2
  obtain ⟨td, htd, hd3, hd22⟩ := hN.day
  have e3_ : f 3 = μ 22 0 := hd3.trans hd22.symm
  have ep1 : nI p = nI (p + 1) - 1 := (nI_pred p).symm
  refine lv_iconst (v := 0) hx hb dL_faulted_0 (by decide) ?_
  refine lv_istore_n (lv' := [(3, .int 0), (0, .ref nb), (1, .int (nI p)), (2, .int s0)]) hx hb dL_faulted_1 rfl hl (by decide) rfl (fun ls hl => ?_)
  refine lv_iconst (v := 0) hx hb dL_faulted_2 (by decide) ?_
  refine lv_istore (lv' := [(4, .int 0), (3, .int 0), (0, .ref nb), (1, .int (nI p)), (2, .int s0)]) hx hb dL_faulted_3 hl (by decide) rfl (fun ls hl => ?_)
  refine lv_iload_n hx hb dL_faulted_5 rfl (lv_at hl 3 rfl) ?_
  refine lv_istore (lv' := [(5, .int (nI p)), (4, .int 0), (3, .int 0), (0, .ref nb), (1, .int (nI p)), (2, .int s0)]) hx hb dL_faulted_6 hl (by decide) rfl (fun ls hl => ?_)
  have hl : lv_has ls 8 [(5, .int (nI (p + 1) - 1)), (4, .int 0), (3, .int 0), (0, .ref nb), (1, .int (nI p)), (2, .int s0)] := by rw [nI_pred]; exact hl
  have loop : ∀ (n_ : Nat) (t : Int32) (k : Nat) (z : Nat) (ls : Array Slot), z < n_ → (fInv (mv μ) (μ 22 0) s0 (K 1) (fTl (mv μ) (μ 22 0) s0 0 0 p) t k z) → lv_has ls 8 [(0, .ref nb), (1, .int (nI p)), (2, .int s0), (3, .int t), (4, .int (nI k)), (5, .int (nI z - 1))] → W p_ l e_ ({ frames := 0, cells := 0, slots := 0, locals := 0 } : Room) s m args below meth c s.heap [] 0 0 (vx_MQ below (gQR (gPi (fun r => r = fTl (mv μ) (μ 22 0) s0 0 0 p))) (gX (fun _ => False)) args s 0 0 gN) (F0 m 8 ls []) := by
    intro n_
    induction n_ with
    | zero => intro t k z ls h_; exact absurd h_ (Nat.not_lt_zero _)
    | succ n_ ih_loop =>
      intro t k z ls hn_ i1 hl
      rcases z with _ | q
      · refine lv_iload hx hb dL_faulted_8 (lv_at hl 5 rfl) ?_
        refine lv_if_lt (tgt := 119) hx hb dL_faulted_10 (by decide) (fun c1_ => ?_) (fun c1_ => ?_)
        · refine lv_iload_n hx hb dL_faulted_119 rfl (lv_at hl 3 rfl) ?_
          exact g_iret hC hr dL_faulted_120 (Nat.le_of_ble_eq_true rfl) (Nat.le_of_ble_eq_true rfl) ((i1.resolve_right (fun ⟨q, hq, _⟩ => absurd hq (by omega))).2.symm)
        · exact absurd (by decide) c1_
      · rw [nI_pred q] at hl
        have hl : lv_has ls 8 [(0, .ref nb), (1, .int (nI p)), (2, .int s0), (3, .int t), (4, .int (nI k)), (5, .int (nI q))] := hl
        obtain ⟨q_, eq_, i1a, i1b, i1c⟩ := i1.resolve_left (fun z => absurd z.1 (by omega))
        have eq__ : q_ = q := by omega
        subst eq__
        obtain ⟨z2, hz2, e8_⟩ := hU.srz i1a
        have hr01 := hU.2.2.2.2.1 q_
        refine lv_iload hx hb dL_faulted_8 (lv_at hl 5 rfl) ?_
        refine lv_if_lt (tgt := 119) hx hb dL_faulted_10 (by decide) (fun c2_ => ?_) (fun c2_ => ?_)
        · exact absurd c2_ (nI_pos (by omega))
        · refine lv_bipush (v := 30) hx hb dL_faulted_13 (by decide) ?_
          refine lv_bipush (v := 8) hx hb dL_faulted_15 (by decide) ?_
          refine lv_iload hx hb dL_faulted_17 (lv_at hl 5 rfl) ?_
          refine g_nmuln (a := 8) (b := q_) hx hb dL_faulted_19 ?_
          refine g_naddn (a := 30) (b := 8 * q_) hx hb dL_faulted_20 ?_
          refine lv_istore (lv' := [(6, .int (nI (30 + 8 * q_))), (0, .ref nb), (1, .int (nI p)), (2, .int s0), (3, .int t), (4, .int (nI k)), (5, .int (nI q_))]) hx hb dL_faulted_21 hl (by decide) rfl (fun ls hl => ?_)
          refine lv_aload_n hx hb dL_faulted_23 rfl (lv_at hl 1 rfl) ?_
          refine lv_iconst (v := 3) hx hb dL_faulted_24 (by decide) ?_
          refine g_iald (n := 450) (f := f) (j := 3) hC hA (by omega) (by decide) dL_faulted_25 ?_
          rw [show f (3) = μ 22 0 from e3_]
          refine lv_aload_n hx hb dL_faulted_26 rfl (lv_at hl 1 rfl) ?_
          refine lv_iload hx hb dL_faulted_27 (lv_at hl 0 rfl) ?_
          refine lv_iconst (v := 4) hx hb dL_faulted_29 (by decide) ?_
          refine g_naddn (a := 30 + 8 * q_) (b := 4) hx hb dL_faulted_30 ?_
          refine g_iald (n := 450) (f := f) (j := 30 + 8 * q_ + 4) hC hA (by omega) (by decide) dL_faulted_31 ?_
          rw [show f (30 + 8 * q_ + 4) = μ 6 q_ from hN.p6 (i := q_) (by omega) (by omega)]
          refine lv_icmp_lt (tgt := 47) hx hb dL_faulted_32 (by decide) (fun c3_ => ?_) (fun c3_ => ?_)
          · refine lv_iconst (v := 1) hx hb dL_faulted_47 (by decide) ?_
            refine lv_goto (tgt := 81) hx hb dL_faulted_48 (by decide) ?_
            refine lv_istore (lv' := [(7, .int 1), (6, .int (nI (30 + 8 * q_))), (0, .ref nb), (1, .int (nI p)), (2, .int s0), (3, .int t), (4, .int (nI k)), (5, .int (nI q_))]) hx hb dL_faulted_81 hl (by decide) rfl (fun ls hl => ?_)
            refine lv_iload hx hb dL_faulted_83 (lv_at hl 0 rfl) ?_
            refine lv_if_le (tgt := 99) hx hb dL_faulted_85 (by decide) (fun c4_ => ?_) (fun c4_ => ?_)
            · exact absurd c4_ (by decide)
            · refine lv_iload hx hb dL_faulted_88 (lv_at hl 0 rfl) ?_
              refine lv_bipush (v := 10) hx hb dL_faulted_90 (by decide) ?_
              refine lv_iload hx hb dL_faulted_92 (lv_at hl 6 rfl) ?_
              refine g_nmuln (a := 10) (b := k) hx hb dL_faulted_94 ?_
              refine g_naddn (a := 1) (b := 10 * k) hx hb dL_faulted_95 ?_
              refine lv_goto (tgt := 100) hx hb dL_faulted_96 (by decide) ?_
              refine lv_istore_n (lv' := [(3, .int (nI (1 + 10 * k))), (7, .int 1), (6, .int (nI (30 + 8 * q_))), (0, .ref nb), (1, .int (nI p)), (2, .int s0), (4, .int (nI k)), (5, .int (nI q_))]) hx hb dL_faulted_100 rfl hl (by decide) rfl (fun ls hl => ?_)
              refine lv_iinc (v := nI (k + 1)) (lv' := [(4, .int (nI (k + 1))), (3, .int (nI (1 + 10 * k))), (7, .int 1), (6, .int (nI (30 + 8 * q_))), (0, .ref nb), (1, .int (nI p)), (2, .int s0), (5, .int (nI q_))]) hx hb dL_faulted_101 hl (k := 6) rfl (g_inc _) (by decide) rfl (fun ls hl => ?_)
              refine lv_aload_n hx hb dL_faulted_104 rfl (lv_at hl 4 rfl) ?_
              refine lv_bipush (v := 36) hx hb dL_faulted_105 (by decide) ?_
              refine lv_bipush (v := 8) hx hb dL_faulted_107 (by decide) ?_
              refine lv_iload hx hb dL_faulted_109 (lv_at hl 7 rfl) ?_
              refine g_nmuln (a := 8) (b := q_) hx hb dL_faulted_111 ?_
              refine g_naddn (a := 36) (b := 8 * q_) hx hb dL_faulted_112 ?_
              refine g_iald (n := 450) (f := f) (j := 36 + 8 * q_) hC hA (by omega) (by decide) dL_faulted_113 ?_
              rw [show f (36 + 8 * q_) = nI z2 - 1 from ((hN.p8 (i := q_) (by omega) rfl).trans e8_)]
              refine lv_istore (lv' := [(5, .int (nI z2 - 1)), (4, .int (nI (k + 1))), (3, .int (nI (1 + 10 * k))), (7, .int 1), (6, .int (nI (30 + 8 * q_))), (0, .ref nb), (1, .int (nI p)), (2, .int s0)]) hx hb dL_faulted_114 hl (by decide) rfl (fun ls hl => ?_)
              refine lv_goto (tgt := 8) hx hb dL_faulted_116 (by decide) ?_
              exact ih_loop (nI (1 + 10 * k)) (k + 1) z2 ls (by omega) (i1.elim (fun z => absurd z.1 (by omega)) (fun _ => fInv.next (o := 100) hU.fs (by omega) i1a i1b i1c (show fOwn (mv μ) (μ 22 0) s0 q_ = 100 by simp only [fOwn, mv]; grind) (by rw [if_neg (by decide)]; rfl) hz2 e8_)) (lv_sub hl [5, 6, 7, 2, 1, 0] rfl)
          · refine lv_aload_n hx hb dL_faulted_35 rfl (lv_at hl 1 rfl) ?_
            refine lv_iconst (v := 3) hx hb dL_faulted_36 (by decide) ?_
            refine g_iald (n := 450) (f := f) (j := 3) hC hA (by omega) (by decide) dL_faulted_37 ?_
            rw [show f (3) = μ 22 0 from e3_]
            refine lv_aload_n hx hb dL_faulted_38 rfl (lv_at hl 1 rfl) ?_
            refine lv_iload hx hb dL_faulted_39 (lv_at hl 0 rfl) ?_
            refine lv_iconst (v := 5) hx hb dL_faulted_41 (by decide) ?_
            refine g_naddn (a := 30 + 8 * q_) (b := 5) hx hb dL_faulted_42 ?_
            refine g_iald (n := 450) (f := f) (j := 30 + 8 * q_ + 5) hC hA (by omega) (by decide) dL_faulted_43 ?_
            rw [show f (30 + 8 * q_ + 5) = μ 7 q_ from hN.p7 (i := q_) (by omega) (by omega)]
            refine lv_icmp_le (tgt := 51) hx hb dL_faulted_44 (by decide) (fun c5_ => ?_) (fun c5_ => ?_)
            · refine lv_aload_n hx hb dL_faulted_51 rfl (lv_at hl 1 rfl) ?_
              refine lv_iload hx hb dL_faulted_52 (lv_at hl 0 rfl) ?_
              refine lv_bipush (v := 7) hx hb dL_faulted_54 (by decide) ?_
              refine g_naddn (a := 30 + 8 * q_) (b := 7) hx hb dL_faulted_56 ?_
              refine g_iald (n := 450) (f := f) (j := 30 + 8 * q_ + 7) hC hA (by omega) (by decide) dL_faulted_57 ?_
              rw [show f (30 + 8 * q_ + 7) = μ 1 q_ from hN.rv (i := q_) (by omega) (by omega)]
              refine lv_iconst (v := 1) hx hb dL_faulted_58 (by decide) ?_
              refine lv_icmp_ne (tgt := 66) hx hb dL_faulted_59 (by decide) (fun c6_ => ?_) (fun c6_ => ?_)
              · refine lv_iload_n hx hb dL_faulted_66 rfl (lv_at hl 3 rfl) ?_
                refine lv_aload_n hx hb dL_faulted_67 rfl (lv_at hl 1 rfl) ?_
                refine lv_iload hx hb dL_faulted_68 (lv_at hl 0 rfl) ?_
                refine lv_iconst (v := 3) hx hb dL_faulted_70 (by decide) ?_
                refine g_naddn (a := 30 + 8 * q_) (b := 3) hx hb dL_faulted_71 ?_
                refine g_iald (n := 450) (f := f) (j := 30 + 8 * q_ + 3) hC hA (by omega) (by decide) dL_faulted_72 ?_
                rw [show f (30 + 8 * q_ + 3) = μ 5 q_ from hN.p5 (i := q_) (by omega) (by omega)]
                refine lv_icmp_le (tgt := 80) hx hb dL_faulted_73 (by decide) (fun c7_ => ?_) (fun c7_ => ?_)
                · refine lv_iconst (v := 0) hx hb dL_faulted_80 (by decide) ?_
                  refine lv_istore (lv' := [(7, .int 0), (6, .int (nI (30 + 8 * q_))), (0, .ref nb), (1, .int (nI p)), (2, .int s0), (3, .int t), (4, .int (nI k)), (5, .int (nI q_))]) hx hb dL_faulted_81 hl (by decide) rfl (fun ls hl => ?_)
                  refine lv_iload hx hb dL_faulted_83 (lv_at hl 0 rfl) ?_
                  refine lv_if_le (tgt := 99) hx hb dL_faulted_85 (by decide) (fun c8_ => ?_) (fun c8_ => ?_)
                  · refine lv_iload_n hx hb dL_faulted_99 rfl (lv_at hl 5 rfl) ?_
                    refine lv_istore_n (lv' := [(3, .int t), (7, .int 0), (6, .int (nI (30 + 8 * q_))), (0, .ref nb), (1, .int (nI p)), (2, .int s0), (4, .int (nI k)), (5, .int (nI q_))]) hx hb dL_faulted_100 rfl hl (by decide) rfl (fun ls hl => ?_)
                    refine lv_iinc (v := nI (k + 1)) (lv' := [(4, .int (nI (k + 1))), (3, .int t), (7, .int 0), (6, .int (nI (30 + 8 * q_))), (0, .ref nb), (1, .int (nI p)), (2, .int s0), (5, .int (nI q_))]) hx hb dL_faulted_101 hl (k := 6) rfl (g_inc _) (by decide) rfl (fun ls hl => ?_)
                    refine lv_aload_n hx hb dL_faulted_104 rfl (lv_at hl 4 rfl) ?_
                    refine lv_bipush (v := 36) hx hb dL_faulted_105 (by decide) ?_
                    refine lv_bipush (v := 8) hx hb dL_faulted_107 (by decide) ?_
                    refine lv_iload hx hb dL_faulted_109 (lv_at hl 7 rfl) ?_
                    refine g_nmuln (a := 8) (b := q_) hx hb dL_faulted_111 ?_
                    refine g_naddn (a := 36) (b := 8 * q_) hx hb dL_faulted_112 ?_
                    refine g_iald (n := 450) (f := f) (j := 36 + 8 * q_) hC hA (by omega) (by decide) dL_faulted_113 ?_
                    rw [show f (36 + 8 * q_) = nI z2 - 1 from ((hN.p8 (i := q_) (by omega) rfl).trans e8_)]
                    refine lv_istore (lv' := [(5, .int (nI z2 - 1)), (4, .int (nI (k + 1))), (3, .int t), (7, .int 0), (6, .int (nI (30 + 8 * q_))), (0, .ref nb), (1, .int (nI p)), (2, .int s0)]) hx hb dL_faulted_114 hl (by decide) rfl (fun ls hl => ?_)
                    refine lv_goto (tgt := 8) hx hb dL_faulted_116 (by decide) ?_
                    exact ih_loop t (k + 1) z2 ls (by omega) (i1.elim (fun z => absurd z.1 (by omega)) (fun _ => fInv.next (o := 45) hU.fs (by omega) i1a i1b i1c (show fOwn (mv μ) (μ 22 0) s0 q_ = 45 by simp only [fOwn, mv]; grind) (if_pos rfl).symm hz2 e8_)) (lv_sub hl [5, 6, 7, 2, 1, 0] rfl)
                  · exact absurd (by decide) c8_
                · refine lv_iconst (v := 3) hx hb dL_faulted_76 (by decide) ?_
                  refine lv_goto (tgt := 81) hx hb dL_faulted_77 (by decide) ?_
                  refine lv_istore (lv' := [(7, .int 3), (6, .int (nI (30 + 8 * q_))), (0, .ref nb), (1, .int (nI p)), (2, .int s0), (3, .int t), (4, .int (nI k)), (5, .int (nI q_))]) hx hb dL_faulted_81 hl (by decide) rfl (fun ls hl => ?_)
                  refine lv_iload hx hb dL_faulted_83 (lv_at hl 0 rfl) ?_
                  refine lv_if_le (tgt := 99) hx hb dL_faulted_85 (by decide) (fun c9_ => ?_) (fun c9_ => ?_)
                  · exact absurd c9_ (by decide)
                  · refine lv_iload hx hb dL_faulted_88 (lv_at hl 0 rfl) ?_
                    refine lv_bipush (v := 10) hx hb dL_faulted_90 (by decide) ?_
                    refine lv_iload hx hb dL_faulted_92 (lv_at hl 6 rfl) ?_
                    refine g_nmuln (a := 10) (b := k) hx hb dL_faulted_94 ?_
                    refine g_naddn (a := 3) (b := 10 * k) hx hb dL_faulted_95 ?_
                    refine lv_goto (tgt := 100) hx hb dL_faulted_96 (by decide) ?_
                    refine lv_istore_n (lv' := [(3, .int (nI (3 + 10 * k))), (7, .int 3), (6, .int (nI (30 + 8 * q_))), (0, .ref nb), (1, .int (nI p)), (2, .int s0), (4, .int (nI k)), (5, .int (nI q_))]) hx hb dL_faulted_100 rfl hl (by decide) rfl (fun ls hl => ?_)
                    refine lv_iinc (v := nI (k + 1)) (lv' := [(4, .int (nI (k + 1))), (3, .int (nI (3 + 10 * k))), (7, .int 3), (6, .int (nI (30 + 8 * q_))), (0, .ref nb), (1, .int (nI p)), (2, .int s0), (5, .int (nI q_))]) hx hb dL_faulted_101 hl (k := 6) rfl (g_inc _) (by decide) rfl (fun ls hl => ?_)
                    refine lv_aload_n hx hb dL_faulted_104 rfl (lv_at hl 4 rfl) ?_
                    refine lv_bipush (v := 36) hx hb dL_faulted_105 (by decide) ?_
                    refine lv_bipush (v := 8) hx hb dL_faulted_107 (by decide) ?_
                    refine lv_iload hx hb dL_faulted_109 (lv_at hl 7 rfl) ?_
                    refine g_nmuln (a := 8) (b := q_) hx hb dL_faulted_111 ?_
                    refine g_naddn (a := 36) (b := 8 * q_) hx hb dL_faulted_112 ?_
                    refine g_iald (n := 450) (f := f) (j := 36 + 8 * q_) hC hA (by omega) (by decide) dL_faulted_113 ?_
                    rw [show f (36 + 8 * q_) = nI z2 - 1 from ((hN.p8 (i := q_) (by omega) rfl).trans e8_)]
                    refine lv_istore (lv' := [(5, .int (nI z2 - 1)), (4, .int (nI (k + 1))), (3, .int (nI (3 + 10 * k))), (7, .int 3), (6, .int (nI (30 + 8 * q_))), (0, .ref nb), (1, .int (nI p)), (2, .int s0)]) hx hb dL_faulted_114 hl (by decide) rfl (fun ls hl => ?_)
                    refine lv_goto (tgt := 8) hx hb dL_faulted_116 (by decide) ?_
                    exact ih_loop (nI (3 + 10 * k)) (k + 1) z2 ls (by omega) (i1.elim (fun z => absurd z.1 (by omega)) (fun _ => fInv.next (o := 108) hU.fs (by omega) i1a i1b i1c (show fOwn (mv μ) (μ 22 0) s0 q_ = 108 by simp only [fOwn, mv]; grind) (by rw [if_neg (by decide)]; rfl) hz2 e8_)) (lv_sub hl [5, 6, 7, 2, 1, 0] rfl)
              · refine lv_iconst (v := 2) hx hb dL_faulted_62 (by decide) ?_
                refine lv_goto (tgt := 81) hx hb dL_faulted_63 (by decide) ?_
                refine lv_istore (lv' := [(7, .int 2), (6, .int (nI (30 + 8 * q_))), (0, .ref nb), (1, .int (nI p)), (2, .int s0), (3, .int t), (4, .int (nI k)), (5, .int (nI q_))]) hx hb dL_faulted_81 hl (by decide) rfl (fun ls hl => ?_)
                refine lv_iload hx hb dL_faulted_83 (lv_at hl 0 rfl) ?_
                refine lv_if_le (tgt := 99) hx hb dL_faulted_85 (by decide) (fun c10_ => ?_) (fun c10_ => ?_)
                · exact absurd c10_ (by decide)
                · refine lv_iload hx hb dL_faulted_88 (lv_at hl 0 rfl) ?_
                  refine lv_bipush (v := 10) hx hb dL_faulted_90 (by decide) ?_
                  refine lv_iload hx hb dL_faulted_92 (lv_at hl 6 rfl) ?_
                  refine g_nmuln (a := 10) (b := k) hx hb dL_faulted_94 ?_
                  refine g_naddn (a := 2) (b := 10 * k) hx hb dL_faulted_95 ?_
                  refine lv_goto (tgt := 100) hx hb dL_faulted_96 (by decide) ?_
                  refine lv_istore_n (lv' := [(3, .int (nI (2 + 10 * k))), (7, .int 2), (6, .int (nI (30 + 8 * q_))), (0, .ref nb), (1, .int (nI p)), (2, .int s0), (4, .int (nI k)), (5, .int (nI q_))]) hx hb dL_faulted_100 rfl hl (by decide) rfl (fun ls hl => ?_)
                  refine lv_iinc (v := nI (k + 1)) (lv' := [(4, .int (nI (k + 1))), (3, .int (nI (2 + 10 * k))), (7, .int 2), (6, .int (nI (30 + 8 * q_))), (0, .ref nb), (1, .int (nI p)), (2, .int s0), (5, .int (nI q_))]) hx hb dL_faulted_101 hl (k := 6) rfl (g_inc _) (by decide) rfl (fun ls hl => ?_)
                  refine lv_aload_n hx hb dL_faulted_104 rfl (lv_at hl 4 rfl) ?_
                  refine lv_bipush (v := 36) hx hb dL_faulted_105 (by decide) ?_
                  refine lv_bipush (v := 8) hx hb dL_faulted_107 (by decide) ?_
                  refine lv_iload hx hb dL_faulted_109 (lv_at hl 7 rfl) ?_
                  refine g_nmuln (a := 8) (b := q_) hx hb dL_faulted_111 ?_
                  refine g_naddn (a := 36) (b := 8 * q_) hx hb dL_faulted_112 ?_
                  refine g_iald (n := 450) (f := f) (j := 36 + 8 * q_) hC hA (by omega) (by decide) dL_faulted_113 ?_
                  rw [show f (36 + 8 * q_) = nI z2 - 1 from ((hN.p8 (i := q_) (by omega) rfl).trans e8_)]
                  refine lv_istore (lv' := [(5, .int (nI z2 - 1)), (4, .int (nI (k + 1))), (3, .int (nI (2 + 10 * k))), (7, .int 2), (6, .int (nI (30 + 8 * q_))), (0, .ref nb), (1, .int (nI p)), (2, .int s0)]) hx hb dL_faulted_114 hl (by decide) rfl (fun ls hl => ?_)
                  refine lv_goto (tgt := 8) hx hb dL_faulted_116 (by decide) ?_
                  exact ih_loop (nI (2 + 10 * k)) (k + 1) z2 ls (by omega) (i1.elim (fun z => absurd z.1 (by omega)) (fun _ => fInv.next (o := 118) hU.fs (by omega) i1a i1b i1c (show fOwn (mv μ) (μ 22 0) s0 q_ = 118 by simp only [fOwn, mv]; grind) (by rw [if_neg (by decide)]; rfl) hz2 e8_)) (lv_sub hl [5, 6, 7, 2, 1, 0] rfl)
            · refine lv_iconst (v := 1) hx hb dL_faulted_47 (by decide) ?_
              refine lv_goto (tgt := 81) hx hb dL_faulted_48 (by decide) ?_
              refine lv_istore (lv' := [(7, .int 1), (6, .int (nI (30 + 8 * q_))), (0, .ref nb), (1, .int (nI p)), (2, .int s0), (3, .int t), (4, .int (nI k)), (5, .int (nI q_))]) hx hb dL_faulted_81 hl (by decide) rfl (fun ls hl => ?_)
              refine lv_iload hx hb dL_faulted_83 (lv_at hl 0 rfl) ?_
              refine lv_if_le (tgt := 99) hx hb dL_faulted_85 (by decide) (fun c11_ => ?_) (fun c11_ => ?_)
              · exact absurd c11_ (by decide)
              · refine lv_iload hx hb dL_faulted_88 (lv_at hl 0 rfl) ?_
                refine lv_bipush (v := 10) hx hb dL_faulted_90 (by decide) ?_
                refine lv_iload hx hb dL_faulted_92 (lv_at hl 6 rfl) ?_
                refine g_nmuln (a := 10) (b := k) hx hb dL_faulted_94 ?_
                refine g_naddn (a := 1) (b := 10 * k) hx hb dL_faulted_95 ?_
                refine lv_goto (tgt := 100) hx hb dL_faulted_96 (by decide) ?_
                refine lv_istore_n (lv' := [(3, .int (nI (1 + 10 * k))), (7, .int 1), (6, .int (nI (30 + 8 * q_))), (0, .ref nb), (1, .int (nI p)), (2, .int s0), (4, .int (nI k)), (5, .int (nI q_))]) hx hb dL_faulted_100 rfl hl (by decide) rfl (fun ls hl => ?_)
                refine lv_iinc (v := nI (k + 1)) (lv' := [(4, .int (nI (k + 1))), (3, .int (nI (1 + 10 * k))), (7, .int 1), (6, .int (nI (30 + 8 * q_))), (0, .ref nb), (1, .int (nI p)), (2, .int s0), (5, .int (nI q_))]) hx hb dL_faulted_101 hl (k := 6) rfl (g_inc _) (by decide) rfl (fun ls hl => ?_)
                refine lv_aload_n hx hb dL_faulted_104 rfl (lv_at hl 4 rfl) ?_
                refine lv_bipush (v := 36) hx hb dL_faulted_105 (by decide) ?_
                refine lv_bipush (v := 8) hx hb dL_faulted_107 (by decide) ?_
                refine lv_iload hx hb dL_faulted_109 (lv_at hl 7 rfl) ?_
                refine g_nmuln (a := 8) (b := q_) hx hb dL_faulted_111 ?_
                refine g_naddn (a := 36) (b := 8 * q_) hx hb dL_faulted_112 ?_
                refine g_iald (n := 450) (f := f) (j := 36 + 8 * q_) hC hA (by omega) (by decide) dL_faulted_113 ?_
                rw [show f (36 + 8 * q_) = nI z2 - 1 from ((hN.p8 (i := q_) (by omega) rfl).trans e8_)]
                refine lv_istore (lv' := [(5, .int (nI z2 - 1)), (4, .int (nI (k + 1))), (3, .int (nI (1 + 10 * k))), (7, .int 1), (6, .int (nI (30 + 8 * q_))), (0, .ref nb), (1, .int (nI p)), (2, .int s0)]) hx hb dL_faulted_114 hl (by decide) rfl (fun ls hl => ?_)
                refine lv_goto (tgt := 8) hx hb dL_faulted_116 (by decide) ?_
                exact ih_loop (nI (1 + 10 * k)) (k + 1) z2 ls (by omega) (i1.elim (fun z => absurd z.1 (by omega)) (fun _ => fInv.next (o := 100) hU.fs (by omega) i1a i1b i1c (show fOwn (mv μ) (μ 22 0) s0 q_ = 100 by simp only [fOwn, mv]; grind) (by rw [if_neg (by decide)]; rfl) hz2 e8_)) (lv_sub hl [5, 6, 7, 2, 1, 0] rfl)
  exact loop (((p + 1)) + 1) 0 0 (p + 1) ls (by omega) (Or.inr ⟨p, rfl, hp, by omega, rfl⟩) (lv_sub hl [3, 4, 5, 2, 1, 0] rfl)
set_option maxHeartbeats 4000000 in
set_option maxRecDepth 100000 in
theorem c_L_has {l : Launch} {E : gV} (hE : gOK l E) {nb D : Nat} {f : Nat → Int32} {μ : F2} {K : Nat → Nat} (hN : NL f μ K D) (hU : PU μ K) (i : Nat) (k0 : Int32) (h : Nat) (s0 : Int32) (hi : i < K 0) (hh : h < 3) : gM l E yL_has cL_has 8 (some .boolean) ({ frames := 1, cells := 0, slots := 0, locals := 27 } : Room) [.ref nb, .int (nI i), .int k0, .int (nI h), .int s0] (fun H => gNet E nb f H) (gQR (gPi (bz (fHas (mv μ) (K 1) (μ 22 0) (nI i) k0 (hch (nI h)) s0)))) (fun _ => False) gN := by
  refine gM_body hE (by decide +kernel) (Nat.le_of_ble_eq_true rfl) ?_
  intro p_ e_ s m args below meth c hC ht hr hname hP ls hl
  have hx := hC.2.2.1
  have hb := hC.2.2.2.1
  have hl : lv_has ls 8 [(0, .ref nb), (1, .int (nI i)), (2, .int k0), (3, .int (nI h)), (4, .int s0)] := hl
  have hA : gNet E nb f s.heap := hP
  have hb0 := hN.b0
  have hb1 := hN.b1
  have hb2 := hN.b2
  refine lv_iconst (v := 0) hx hb dL_has_0 (by decide) ?_
  refine lv_istore (lv' := [(5, .int 0), (0, .ref nb), (1, .int (nI i)), (2, .int k0), (3, .int (nI h)), (4, .int s0)]) hx hb dL_has_1 hl (by decide) rfl (fun ls hl => ?_)
  refine lv_iconst (v := 0) hx hb dL_has_3 (by decide) ?_
  refine lv_istore (lv' := [(6, .int 0), (5, .int 0), (0, .ref nb), (1, .int (nI i)), (2, .int k0), (3, .int (nI h)), (4, .int s0)]) hx hb dL_has_4 hl (by decide) rfl (fun ls hl => ?_)
  have loop : ∀ (n_ : Nat) (q : Nat) (r : Int32) (ls : Array Slot), K 1 - q < n_ → (q ≤ K 1) → (bz (∃ t, t < q ∧ (fun t => mv μ 6 t = k0 ∧ mv μ 8 t = hch (nI h) ∧ fAct (mv μ) (nI i) (mv μ 5 t) ∧ fl (mv μ) (μ 22 0) s0 t = 45) t) r) → lv_has ls 8 [(0, .ref nb), (1, .int (nI i)), (2, .int k0), (3, .int (nI h)), (4, .int s0), (5, .int r), (6, .int (nI q))] → W p_ l e_ ({ frames := 1, cells := 0, slots := 0, locals := 27 } : Room) s m args below meth c s.heap [] 0 0 (vx_MQ below (gQR (gPi (bz (fHas (mv μ) (K 1) (μ 22 0) (nI i) k0 (hch (nI h)) s0)))) (gX (fun _ => False)) args s 0 0 gN) (F0 m 6 ls []) := by
    intro n_
    induction n_ with
    | zero => intro q r ls h_; exact absurd h_ (Nat.not_lt_zero _)
    | succ n_ ih_loop =>
      intro q r ls hn_ i1 i2 hl
      refine lv_iload hx hb dL_has_6 (lv_at hl 6 rfl) ?_
      refine lv_aload_n hx hb dL_has_8 rfl (lv_at hl 0 rfl) ?_
      refine lv_iconst (v := 1) hx hb dL_has_9 (by decide) ?_
      refine g_iald (n := 450) (f := f) (j := 1) hC hA (by omega) (by decide) dL_has_10 ?_
      rw [show f (1) = nI (K 1) from hN.k1]
      refine lv_icmp_ge (tgt := 83) hx hb dL_has_11 (by decide) (fun c1_ => ?_) (fun c1_ => ?_)
      · have n2_ : (K 1) ≤ q := le_nI (by omega) (by omega) c1_
        have hq : q = K 1 := by omega
        refine lv_iload hx hb dL_has_83 (lv_at hl 5 rfl) ?_
        exact g_zret hC hr i2.nar dL_has_85 (Nat.le_of_ble_eq_true rfl) (Nat.le_of_ble_eq_true rfl) (by subst hq; exact i2)
      · have n2_ : q < (K 1) := not_le_nI (by omega) (by omega) c1_
        have hq : q < K 1 := by omega
        obtain ⟨h9, h9l, h9a, h9b⟩ := hN.hand hq
        obtain ⟨j9, hj9, e9⟩ := hU.hol hq
        have ea9 : mv μ 5 q = nI j9 := e9
        have eh9 : mv μ 8 q = hch (nI h9) := h9b
        refine lv_bipush (v := 30) hx hb dL_has_14 (by decide) ?_
        refine lv_bipush (v := 8) hx hb dL_has_16 (by decide) ?_
        refine lv_iload hx hb dL_has_18 (lv_at hl 6 rfl) ?_
        refine g_nmuln (a := 8) (b := q) hx hb dL_has_20 ?_
        refine g_naddn (a := 30) (b := 8 * q) hx hb dL_has_21 ?_
        refine lv_istore (lv' := [(7, .int (nI (30 + 8 * q))), (0, .ref nb), (1, .int (nI i)), (2, .int k0), (3, .int (nI h)), (4, .int s0), (5, .int r), (6, .int (nI q))]) hx hb dL_has_22 hl (by decide) rfl (fun ls hl => ?_)
        refine lv_iload hx hb dL_has_24 (lv_at hl 6 rfl) ?_
        refine lv_aload_n hx hb dL_has_26 rfl (lv_at hl 1 rfl) ?_
        refine lv_iload hx hb dL_has_27 (lv_at hl 0 rfl) ?_
        refine lv_iconst (v := 1) hx hb dL_has_29 (by decide) ?_
        refine g_naddn (a := 30 + 8 * q) (b := 1) hx hb dL_has_30 ?_
        refine g_iald (n := 450) (f := f) (j := 30 + 8 * q + 1) hC hA (by omega) (by decide) dL_has_31 ?_
        rw [show f (30 + 8 * q + 1) = μ 4 q from hN.p4 (i := q) (by omega) (by omega)]
        refine lv_iload_n hx hb dL_has_32 rfl (lv_at hl 3 rfl) ?_
        refine lv_icmp_ne (tgt := 73) hx hb dL_has_33 (by decide) (fun c3_ => ?_) (fun c3_ => ?_)
        · refine lv_iconst (v := 0) hx hb dL_has_73 (by decide) ?_
          refine lv_ior hx hb dL_has_74 ?_
          refine lv_istore (lv' := [(5, .int (r ||| 0)), (7, .int (nI (30 + 8 * q))), (0, .ref nb), (1, .int (nI i)), (2, .int k0), (3, .int (nI h)), (4, .int s0), (6, .int (nI q))]) hx hb dL_has_75 hl (by decide) rfl (fun ls hl => ?_)
          refine lv_iinc (v := nI (q + 1)) (lv' := [(6, .int (nI (q + 1))), (5, .int (r ||| 0)), (7, .int (nI (30 + 8 * q))), (0, .ref nb), (1, .int (nI i)), (2, .int k0), (3, .int (nI h)), (4, .int s0)]) hx hb dL_has_77 hl (k := 7) rfl (g_inc _) (by decide) rfl (fun ls hl => ?_)
          refine lv_goto (tgt := 6) hx hb dL_has_80 (by decide) ?_
          exact ih_loop (q + 1) (r ||| 0) ls (by omega) (by omega) (bzE_0 i2 (by
            rintro ⟨z1, z2, z3, z4⟩
            rw [eh9] at z2
            rw [ea9] at z3
            have z2 := (hch_inj h9l hh).mp z2
            first
            | exact absurd z1 (by assumption)
            | exact absurd z2 (by assumption)
            | exact absurd z3 (by assumption)
            | exact absurd (hff.trans ((fTl_z hU.fs (by omega) (by omega)).mpr z4)) (by assumption))) (lv_sub hl [3, 4, 5, 6, 7, 1, 0] rfl)
        · refine lv_aload_n hx hb dL_has_36 rfl (lv_at hl 1 rfl) ?_
          refine lv_iload hx hb dL_has_37 (lv_at hl 0 rfl) ?_
          refine lv_iconst (v := 2) hx hb dL_has_39 (by decide) ?_
          refine g_naddn (a := 30 + 8 * q) (b := 2) hx hb dL_has_40 ?_
          refine g_iald (n := 450) (f := f) (j := 30 + 8 * q + 2) hC hA (by omega) (by decide) dL_has_41 ?_
          rw [show f (30 + 8 * q + 2) = nI h9 from (by rw [show 30 + 8 * q + 2 = 32 + 8 * q by omega]; exact h9a)]
          refine lv_iload_n hx hb dL_has_42 rfl (lv_at hl 4 rfl) ?_
          refine lv_icmp_ne (tgt := 73) hx hb dL_has_43 (by decide) (fun c4_ => ?_) (fun c4_ => ?_)
          · have n5_ : ¬ h9 = h := fun z => c4_ (congrArg nI z)
            refine lv_iconst (v := 0) hx hb dL_has_73 (by decide) ?_
            refine lv_ior hx hb dL_has_74 ?_
            refine lv_istore (lv' := [(5, .int (r ||| 0)), (7, .int (nI (30 + 8 * q))), (0, .ref nb), (1, .int (nI i)), (2, .int k0), (3, .int (nI h)), (4, .int s0), (6, .int (nI q))]) hx hb dL_has_75 hl (by decide) rfl (fun ls hl => ?_)
            refine lv_iinc (v := nI (q + 1)) (lv' := [(6, .int (nI (q + 1))), (5, .int (r ||| 0)), (7, .int (nI (30 + 8 * q))), (0, .ref nb), (1, .int (nI i)), (2, .int k0), (3, .int (nI h)), (4, .int s0)]) hx hb dL_has_77 hl (k := 7) rfl (g_inc _) (by decide) rfl (fun ls hl => ?_)
            refine lv_goto (tgt := 6) hx hb dL_has_80 (by decide) ?_
            exact ih_loop (q + 1) (r ||| 0) ls (by omega) (by omega) (bzE_0 i2 (by
            rintro ⟨z1, z2, z3, z4⟩
            rw [eh9] at z2
            rw [ea9] at z3
            have z2 := (hch_inj h9l hh).mp z2
            first
            | exact absurd z1 (by assumption)
            | exact absurd z2 (by assumption)
            | exact absurd z3 (by assumption)
            | exact absurd (hff.trans ((fTl_z hU.fs (by omega) (by omega)).mpr z4)) (by assumption))) (lv_sub hl [3, 4, 5, 6, 7, 1, 0] rfl)
          · have n5_ : h9 = h := (nI_eq (by omega) (by omega)).mp c4_
            refine lv_aload_n hx hb dL_has_46 rfl (lv_at hl 1 rfl) ?_
            refine lv_iload_n hx hb dL_has_47 rfl (lv_at hl 2 rfl) ?_
            refine lv_aload_n hx hb dL_has_48 rfl (lv_at hl 1 rfl) ?_
            refine lv_iload hx hb dL_has_49 (lv_at hl 0 rfl) ?_
            refine g_iald (n := 450) (f := f) (j := 30 + 8 * q) hC hA (by omega) (by decide) dL_has_51 ?_
            rw [show f (30 + 8 * q) = nI j9 from ((hN.p3 (i := q) (by omega) rfl).trans e9)]
            refine g_cRi (k2 := 0) (n2 := 0) (g_runS (rest := [.int r]) hC (c_L_acts hE (nb := nb) hN hU i j9 (by omega) (by omega)) Y_L_acts k_849 S_L_acts hA rfl hl.1 dL_has_52 ⟨Nat.le_of_ble_eq_true rfl, Nat.le_of_ble_eq_true rfl⟩ ⟨Nat.le_of_ble_eq_true rfl, Nat.le_of_ble_eq_true rfl⟩ rfl (Nat.le_of_ble_eq_true rfl)) rfl rfl g_no (fun r6_ h7_ => ?_)
            refine lv_if_eq (tgt := 73) hx hb dL_has_55 (by decide) (fun c8_ => ?_) (fun c8_ => ?_)
            · have q9_ := bz.f h7_ c8_
              refine lv_iconst (v := 0) hx hb dL_has_73 (by decide) ?_
              refine lv_ior hx hb dL_has_74 ?_
              refine lv_istore (lv' := [(5, .int (r ||| 0)), (7, .int (nI (30 + 8 * q))), (0, .ref nb), (1, .int (nI i)), (2, .int k0), (3, .int (nI h)), (4, .int s0), (6, .int (nI q))]) hx hb dL_has_75 hl (by decide) rfl (fun ls hl => ?_)
              refine lv_iinc (v := nI (q + 1)) (lv' := [(6, .int (nI (q + 1))), (5, .int (r ||| 0)), (7, .int (nI (30 + 8 * q))), (0, .ref nb), (1, .int (nI i)), (2, .int k0), (3, .int (nI h)), (4, .int s0)]) hx hb dL_has_77 hl (k := 7) rfl (g_inc _) (by decide) rfl (fun ls hl => ?_)
              refine lv_goto (tgt := 6) hx hb dL_has_80 (by decide) ?_
              exact ih_loop (q + 1) (r ||| 0) ls (by omega) (by omega) (bzE_0 i2 (by
            rintro ⟨z1, z2, z3, z4⟩
            rw [eh9] at z2
            rw [ea9] at z3
            have z2 := (hch_inj h9l hh).mp z2
            first
            | exact absurd z1 (by assumption)
            | exact absurd z2 (by assumption)
            | exact absurd z3 (by assumption)
            | exact absurd (hff.trans ((fTl_z hU.fs (by omega) (by omega)).mpr z4)) (by assumption))) (lv_sub hl [3, 4, 5, 6, 7, 1, 0] rfl)
            · have q9_ := bz.t h7_ c8_
              refine lv_aload_n hx hb dL_has_58 rfl (lv_at hl 1 rfl) ?_
              refine lv_iload hx hb dL_has_59 (lv_at hl 7 rfl) ?_
              refine lv_iload hx hb dL_has_61 (lv_at hl 5 rfl) ?_
              refine g_cRi (k2 := 0) (n2 := 0) (g_runS (rest := [.int r]) hC (c_L_faulted hE (nb := nb) hN hU q s0 (by omega)) Y_L_faulted k_852 S_L_faulted hA rfl hl.1 dL_has_63 ⟨Nat.le_of_ble_eq_true rfl, Nat.le_of_ble_eq_true rfl⟩ ⟨Nat.le_of_ble_eq_true rfl, Nat.le_of_ble_eq_true rfl⟩ rfl (Nat.le_of_ble_eq_true rfl)) rfl rfl g_no (fun r10_ h11_ => ?_)
              have hff := h11_
              refine lv_if_ne (tgt := 73) hx hb dL_has_66 (by decide) (fun c12_ => ?_) (fun c12_ => ?_)
              · refine lv_iconst (v := 0) hx hb dL_has_73 (by decide) ?_
                refine lv_ior hx hb dL_has_74 ?_
                refine lv_istore (lv' := [(5, .int (r ||| 0)), (7, .int (nI (30 + 8 * q))), (0, .ref nb), (1, .int (nI i)), (2, .int k0), (3, .int (nI h)), (4, .int s0), (6, .int (nI q))]) hx hb dL_has_75 hl (by decide) rfl (fun ls hl => ?_)
                refine lv_iinc (v := nI (q + 1)) (lv' := [(6, .int (nI (q + 1))), (5, .int (r ||| 0)), (7, .int (nI (30 + 8 * q))), (0, .ref nb), (1, .int (nI i)), (2, .int k0), (3, .int (nI h)), (4, .int s0)]) hx hb dL_has_77 hl (k := 7) rfl (g_inc _) (by decide) rfl (fun ls hl => ?_)
                refine lv_goto (tgt := 6) hx hb dL_has_80 (by decide) ?_
                exact ih_loop (q + 1) (r ||| 0) ls (by omega) (by omega) (bzE_0 i2 (by
            rintro ⟨z1, z2, z3, z4⟩
            rw [eh9] at z2
            rw [ea9] at z3
            have z2 := (hch_inj h9l hh).mp z2
            first
            | exact absurd z1 (by assumption)
            | exact absurd z2 (by assumption)
            | exact absurd z3 (by assumption)
            | exact absurd (hff.trans ((fTl_z hU.fs (by omega) (by omega)).mpr z4)) (by assumption))) (lv_sub hl [3, 4, 5, 6, 7, 1, 0] rfl)
              · refine lv_iconst (v := 1) hx hb dL_has_69 (by decide) ?_
                refine lv_goto (tgt := 74) hx hb dL_has_70 (by decide) ?_
                refine lv_ior hx hb dL_has_74 ?_
                refine lv_istore (lv' := [(5, .int (r ||| 1)), (7, .int (nI (30 + 8 * q))), (0, .ref nb), (1, .int (nI i)), (2, .int k0), (3, .int (nI h)), (4, .int s0), (6, .int (nI q))]) hx hb dL_has_75 hl (by decide) rfl (fun ls hl => ?_)
                refine lv_iinc (v := nI (q + 1)) (lv' := [(6, .int (nI (q + 1))), (5, .int (r ||| 1)), (7, .int (nI (30 + 8 * q))), (0, .ref nb), (1, .int (nI i)), (2, .int k0), (3, .int (nI h)), (4, .int s0)]) hx hb dL_has_77 hl (k := 7) rfl (g_inc _) (by decide) rfl (fun ls hl => ?_)
                refine lv_goto (tgt := 6) hx hb dL_has_80 (by decide) ?_
                exact ih_loop (q + 1) (r ||| 1) ls (by omega) (by omega) (bzE_1 i2 ⟨by assumption, by rw [eh9, (by assumption : h9 = h)], by rw [ea9]; assumption, (fTl_z hU.fs (by omega) (by omega)).mp (by rw [← hff]; assumption)⟩) (lv_sub hl [3, 4, 5, 6, 7, 1, 0] rfl)
  exact loop ((K 1 - (0)) + 1) 0 0 ls (by omega) (by omega) bzE_z (lv_sub hl [2, 3, 4, 5, 6, 1, 0] rfl)
set_option maxHeartbeats 4000000 in
set_option maxRecDepth 100000 in
theorem c_L_can1 {l : Launch} {E : gV} (hE : gOK l E) {nb D : Nat} {f : Nat → Int32} {μ : F2} {K : Nat → Nat} (hN : NL f μ K D) (hU : PU μ K) (i : Nat) (k0 s0 : Int32) (hi : i < K 0) : gM l E yL_can cL_can 5 (some .boolean) ({ frames := 2, cells := 0, slots := 0, locals := 54 } : Room) [.ref nb, .int (nI i), .int ((-1)), .int k0, .int s0] (fun H => gNet E nb f H) (gQR (gPi (bz (mOk (mv μ) (K 1) (μ 22 0) (nI i) (-1) k0 s0)))) (fun _ => False) gN := by
  refine gM_body hE (by decide +kernel) (Nat.le_of_ble_eq_true rfl) ?_
  intro p_ e_ s m args below meth c hC ht hr hname hP ls hl
  have hx := hC.2.2.1
  have hb := hC.2.2.2.1
  have hl : lv_has ls 5 [(0, .ref nb), (1, .int (nI i)), (2, .int ((-1))), (3, .int k0), (4, .int s0)] := hl
  have hA : gNet E nb f s.heap := hP
  have hb0 := hN.b0
  have hb1 := hN.b1
  have hb2 := hN.b2
  have hm1 : (-1 : Int32) < 0 := by decide
  refine lv_aload_n hx hb dL_can_0 rfl (lv_at hl 0 rfl) ?_
  refine lv_iload_n hx hb dL_can_1 rfl (lv_at hl 1 rfl) ?_
  refine lv_iload_n hx hb dL_can_2 rfl (lv_at hl 3 rfl) ?_
  refine lv_iconst (v := 0) hx hb dL_can_3 (by decide) ?_
  refine lv_iload hx hb dL_can_4 (lv_at hl 4 rfl) ?_
  refine g_cRi (k2 := 0) (n2 := 0) (g_runS (rest := []) hC (c_L_has hE (nb := nb) hN hU i k0 0 s0 (by omega) (by omega)) Y_L_has k_846 S_L_has hA rfl hl.1 dL_can_6 ⟨Nat.le_of_ble_eq_true rfl, Nat.le_of_ble_eq_true rfl⟩ ⟨Nat.le_of_ble_eq_true rfl, Nat.le_of_ble_eq_true rfl⟩ rfl (Nat.le_of_ble_eq_true rfl)) rfl rfl g_no (fun r1_ h2_ => ?_)
  rw [hch_0] at h2_
  refine lv_if_ne (tgt := 28) hx hb dL_can_9 (by decide) (fun c3_ => ?_) (fun c3_ => ?_)
  · have q4_ := bz.t h2_ c3_
    refine lv_iconst (v := 1) hx hb dL_can_28 (by decide) ?_
    exact g_zret hC hr rfl dL_can_29 (Nat.le_of_ble_eq_true rfl) (Nat.le_of_ble_eq_true rfl) (bz_1 (by unfold mOk fTog; grind))
  · have q4_ := bz.f h2_ c3_
    refine lv_iload_n hx hb dL_can_12 rfl (lv_at hl 2 rfl) ?_
    refine lv_if_lt (tgt := 30) hx hb dL_can_13 (by decide) (fun c5_ => ?_) (fun c5_ => ?_)
    · refine lv_iload_n hx hb dL_can_30 rfl (lv_at hl 2 rfl) ?_
      refine lv_if_lt (tgt := 86) hx hb dL_can_31 (by decide) (fun c6_ => ?_) (fun c6_ => ?_)
      · refine lv_iconst (v := 0) hx hb dL_can_86 (by decide) ?_
        exact g_zret hC hr rfl dL_can_87 (Nat.le_of_ble_eq_true rfl) (Nat.le_of_ble_eq_true rfl) (bz_0 (by unfold mOk fTog; grind))
      · exact absurd (by decide) c6_
    · exact absurd (by decide) c5_
set_option maxHeartbeats 4000000 in
set_option maxRecDepth 100000 in
theorem c_L_can2 {l : Launch} {E : gV} (hE : gOK l E) {nb D : Nat} {f : Nat → Int32} {μ : F2} {K : Nat → Nat} (hN : NL f μ K D) (hU : PU μ K) (i j : Nat) (k0 s0 : Int32) (hi : i < K 0) (hj : j < K 0) : gM l E yL_can cL_can 5 (some .boolean) ({ frames := 2, cells := 0, slots := 0, locals := 54 } : Room) [.ref nb, .int (nI i), .int (nI j), .int k0, .int s0] (fun H => gNet E nb f H) (gQR (gPi (bz (mOk (mv μ) (K 1) (μ 22 0) (nI i) (nI j) k0 s0)))) (fun _ => False) gN := by
  refine gM_body hE (by decide +kernel) (Nat.le_of_ble_eq_true rfl) ?_
  intro p_ e_ s m args below meth c hC ht hr hname hP ls hl
  have hx := hC.2.2.1
  have hb := hC.2.2.2.1
  have hl : lv_has ls 5 [(0, .ref nb), (1, .int (nI i)), (2, .int (nI j)), (3, .int k0), (4, .int s0)] := hl
  have hA : gNet E nb f s.heap := hP
  have hb0 := hN.b0
  have hb1 := hN.b1
  have hb2 := hN.b2
  have hm1 : ¬ nI j < 0 := nI_pos (by omega)
  refine lv_aload_n hx hb dL_can_0 rfl (lv_at hl 0 rfl) ?_
  refine lv_iload_n hx hb dL_can_1 rfl (lv_at hl 1 rfl) ?_
  refine lv_iload_n hx hb dL_can_2 rfl (lv_at hl 3 rfl) ?_
  refine lv_iconst (v := 0) hx hb dL_can_3 (by decide) ?_
  refine lv_iload hx hb dL_can_4 (lv_at hl 4 rfl) ?_
  refine g_cRi (k2 := 0) (n2 := 0) (g_runS (rest := []) hC (c_L_has hE (nb := nb) hN hU i k0 0 s0 (by omega) (by omega)) Y_L_has k_846 S_L_has hA rfl hl.1 dL_can_6 ⟨Nat.le_of_ble_eq_true rfl, Nat.le_of_ble_eq_true rfl⟩ ⟨Nat.le_of_ble_eq_true rfl, Nat.le_of_ble_eq_true rfl⟩ rfl (Nat.le_of_ble_eq_true rfl)) rfl rfl g_no (fun r1_ h2_ => ?_)
  rw [hch_0] at h2_
  refine lv_if_ne (tgt := 28) hx hb dL_can_9 (by decide) (fun c3_ => ?_) (fun c3_ => ?_)
  · have q4_ := bz.t h2_ c3_
    refine lv_iconst (v := 1) hx hb dL_can_28 (by decide) ?_
    exact g_zret hC hr rfl dL_can_29 (Nat.le_of_ble_eq_true rfl) (Nat.le_of_ble_eq_true rfl) (bz_1 (by unfold mOk fTog; grind))
  · have q4_ := bz.f h2_ c3_
    refine lv_iload_n hx hb dL_can_12 rfl (lv_at hl 2 rfl) ?_
    refine lv_if_lt (tgt := 30) hx hb dL_can_13 (by decide) (fun c5_ => ?_) (fun c5_ => ?_)
    · exact absurd c5_ (hm1)
    · refine lv_aload_n hx hb dL_can_16 rfl (lv_at hl 0 rfl) ?_
      refine lv_iload_n hx hb dL_can_17 rfl (lv_at hl 2 rfl) ?_
      refine lv_iload_n hx hb dL_can_18 rfl (lv_at hl 3 rfl) ?_
      refine lv_iconst (v := 0) hx hb dL_can_19 (by decide) ?_
      refine lv_iload hx hb dL_can_20 (lv_at hl 4 rfl) ?_
      refine g_cRi (k2 := 0) (n2 := 0) (g_runS (rest := []) hC (c_L_has hE (nb := nb) hN hU j k0 0 s0 (by omega) (by omega)) Y_L_has k_846 S_L_has hA rfl hl.1 dL_can_22 ⟨Nat.le_of_ble_eq_true rfl, Nat.le_of_ble_eq_true rfl⟩ ⟨Nat.le_of_ble_eq_true rfl, Nat.le_of_ble_eq_true rfl⟩ rfl (Nat.le_of_ble_eq_true rfl)) rfl rfl g_no (fun r6_ h7_ => ?_)
      rw [hch_0] at h7_
      refine lv_if_eq (tgt := 30) hx hb dL_can_25 (by decide) (fun c8_ => ?_) (fun c8_ => ?_)
      · have q9_ := bz.f h7_ c8_
        refine lv_iload_n hx hb dL_can_30 rfl (lv_at hl 2 rfl) ?_
        refine lv_if_lt (tgt := 86) hx hb dL_can_31 (by decide) (fun c10_ => ?_) (fun c10_ => ?_)
        · exact absurd c10_ (hm1)
        · refine lv_aload_n hx hb dL_can_34 rfl (lv_at hl 0 rfl) ?_
          refine lv_iload_n hx hb dL_can_35 rfl (lv_at hl 1 rfl) ?_
          refine lv_iload_n hx hb dL_can_36 rfl (lv_at hl 3 rfl) ?_
          refine lv_iconst (v := 1) hx hb dL_can_37 (by decide) ?_
          refine lv_iload hx hb dL_can_38 (lv_at hl 4 rfl) ?_
          refine g_cRi (k2 := 0) (n2 := 0) (g_runS (rest := []) hC (c_L_has hE (nb := nb) hN hU i k0 1 s0 (by omega) (by omega)) Y_L_has k_846 S_L_has hA rfl hl.1 dL_can_40 ⟨Nat.le_of_ble_eq_true rfl, Nat.le_of_ble_eq_true rfl⟩ ⟨Nat.le_of_ble_eq_true rfl, Nat.le_of_ble_eq_true rfl⟩ rfl (Nat.le_of_ble_eq_true rfl)) rfl rfl g_no (fun r11_ h12_ => ?_)
          rw [hch_1] at h12_
          refine lv_if_eq (tgt := 58) hx hb dL_can_43 (by decide) (fun c13_ => ?_) (fun c13_ => ?_)
          · have q14_ := bz.f h12_ c13_
            refine lv_aload_n hx hb dL_can_58 rfl (lv_at hl 0 rfl) ?_
            refine lv_iload_n hx hb dL_can_59 rfl (lv_at hl 1 rfl) ?_
            refine lv_iload_n hx hb dL_can_60 rfl (lv_at hl 3 rfl) ?_
            refine lv_iconst (v := 2) hx hb dL_can_61 (by decide) ?_
            refine lv_iload hx hb dL_can_62 (lv_at hl 4 rfl) ?_
            refine g_cRi (k2 := 0) (n2 := 0) (g_runS (rest := []) hC (c_L_has hE (nb := nb) hN hU i k0 2 s0 (by omega) (by omega)) Y_L_has k_846 S_L_has hA rfl hl.1 dL_can_64 ⟨Nat.le_of_ble_eq_true rfl, Nat.le_of_ble_eq_true rfl⟩ ⟨Nat.le_of_ble_eq_true rfl, Nat.le_of_ble_eq_true rfl⟩ rfl (Nat.le_of_ble_eq_true rfl)) rfl rfl g_no (fun r15_ h16_ => ?_)
            rw [hch_2] at h16_
            refine lv_if_eq (tgt := 86) hx hb dL_can_67 (by decide) (fun c17_ => ?_) (fun c17_ => ?_)
            · have q18_ := bz.f h16_ c17_
              refine lv_iconst (v := 0) hx hb dL_can_86 (by decide) ?_
              exact g_zret hC hr rfl dL_can_87 (Nat.le_of_ble_eq_true rfl) (Nat.le_of_ble_eq_true rfl) (bz_0 (by unfold mOk fTog; grind))
            · have q18_ := bz.t h16_ c17_
              refine lv_aload_n hx hb dL_can_70 rfl (lv_at hl 0 rfl) ?_
              refine lv_iload_n hx hb dL_can_71 rfl (lv_at hl 2 rfl) ?_
              refine lv_iload_n hx hb dL_can_72 rfl (lv_at hl 3 rfl) ?_
              refine lv_iconst (v := 1) hx hb dL_can_73 (by decide) ?_
              refine lv_iload hx hb dL_can_74 (lv_at hl 4 rfl) ?_
              refine g_cRi (k2 := 0) (n2 := 0) (g_runS (rest := []) hC (c_L_has hE (nb := nb) hN hU j k0 1 s0 (by omega) (by omega)) Y_L_has k_846 S_L_has hA rfl hl.1 dL_can_76 ⟨Nat.le_of_ble_eq_true rfl, Nat.le_of_ble_eq_true rfl⟩ ⟨Nat.le_of_ble_eq_true rfl, Nat.le_of_ble_eq_true rfl⟩ rfl (Nat.le_of_ble_eq_true rfl)) rfl rfl g_no (fun r19_ h20_ => ?_)
              rw [hch_1] at h20_
              refine lv_if_eq (tgt := 86) hx hb dL_can_79 (by decide) (fun c21_ => ?_) (fun c21_ => ?_)
              · have q22_ := bz.f h20_ c21_
                refine lv_iconst (v := 0) hx hb dL_can_86 (by decide) ?_
                exact g_zret hC hr rfl dL_can_87 (Nat.le_of_ble_eq_true rfl) (Nat.le_of_ble_eq_true rfl) (bz_0 (by unfold mOk fTog; grind))
              · have q22_ := bz.t h20_ c21_
                refine lv_iconst (v := 1) hx hb dL_can_82 (by decide) ?_
                refine lv_goto (tgt := 87) hx hb dL_can_83 (by decide) ?_
                exact g_zret hC hr rfl dL_can_87 (Nat.le_of_ble_eq_true rfl) (Nat.le_of_ble_eq_true rfl) (bz_1 (by unfold mOk fTog; grind))
          · have q14_ := bz.t h12_ c13_
            refine lv_aload_n hx hb dL_can_46 rfl (lv_at hl 0 rfl) ?_
            refine lv_iload_n hx hb dL_can_47 rfl (lv_at hl 2 rfl) ?_
            refine lv_iload_n hx hb dL_can_48 rfl (lv_at hl 3 rfl) ?_
            refine lv_iconst (v := 2) hx hb dL_can_49 (by decide) ?_
            refine lv_iload hx hb dL_can_50 (lv_at hl 4 rfl) ?_
            refine g_cRi (k2 := 0) (n2 := 0) (g_runS (rest := []) hC (c_L_has hE (nb := nb) hN hU j k0 2 s0 (by omega) (by omega)) Y_L_has k_846 S_L_has hA rfl hl.1 dL_can_52 ⟨Nat.le_of_ble_eq_true rfl, Nat.le_of_ble_eq_true rfl⟩ ⟨Nat.le_of_ble_eq_true rfl, Nat.le_of_ble_eq_true rfl⟩ rfl (Nat.le_of_ble_eq_true rfl)) rfl rfl g_no (fun r23_ h24_ => ?_)
            rw [hch_2] at h24_
            refine lv_if_ne (tgt := 82) hx hb dL_can_55 (by decide) (fun c25_ => ?_) (fun c25_ => ?_)
            · have q26_ := bz.t h24_ c25_
              refine lv_iconst (v := 1) hx hb dL_can_82 (by decide) ?_
              refine lv_goto (tgt := 87) hx hb dL_can_83 (by decide) ?_
              exact g_zret hC hr rfl dL_can_87 (Nat.le_of_ble_eq_true rfl) (Nat.le_of_ble_eq_true rfl) (bz_1 (by unfold mOk fTog; grind))
            · have q26_ := bz.f h24_ c25_
              refine lv_aload_n hx hb dL_can_58 rfl (lv_at hl 0 rfl) ?_
              refine lv_iload_n hx hb dL_can_59 rfl (lv_at hl 1 rfl) ?_
              refine lv_iload_n hx hb dL_can_60 rfl (lv_at hl 3 rfl) ?_
              refine lv_iconst (v := 2) hx hb dL_can_61 (by decide) ?_
              refine lv_iload hx hb dL_can_62 (lv_at hl 4 rfl) ?_
              refine g_cRi (k2 := 0) (n2 := 0) (g_runS (rest := []) hC (c_L_has hE (nb := nb) hN hU i k0 2 s0 (by omega) (by omega)) Y_L_has k_846 S_L_has hA rfl hl.1 dL_can_64 ⟨Nat.le_of_ble_eq_true rfl, Nat.le_of_ble_eq_true rfl⟩ ⟨Nat.le_of_ble_eq_true rfl, Nat.le_of_ble_eq_true rfl⟩ rfl (Nat.le_of_ble_eq_true rfl)) rfl rfl g_no (fun r27_ h28_ => ?_)
              rw [hch_2] at h28_
              refine lv_if_eq (tgt := 86) hx hb dL_can_67 (by decide) (fun c29_ => ?_) (fun c29_ => ?_)
              · have q30_ := bz.f h28_ c29_
                refine lv_iconst (v := 0) hx hb dL_can_86 (by decide) ?_
                exact g_zret hC hr rfl dL_can_87 (Nat.le_of_ble_eq_true rfl) (Nat.le_of_ble_eq_true rfl) (bz_0 (by unfold mOk fTog; grind))
              · have q30_ := bz.t h28_ c29_
                refine lv_aload_n hx hb dL_can_70 rfl (lv_at hl 0 rfl) ?_
                refine lv_iload_n hx hb dL_can_71 rfl (lv_at hl 2 rfl) ?_
                refine lv_iload_n hx hb dL_can_72 rfl (lv_at hl 3 rfl) ?_
                refine lv_iconst (v := 1) hx hb dL_can_73 (by decide) ?_
                refine lv_iload hx hb dL_can_74 (lv_at hl 4 rfl) ?_
                refine g_cRi (k2 := 0) (n2 := 0) (g_runS (rest := []) hC (c_L_has hE (nb := nb) hN hU j k0 1 s0 (by omega) (by omega)) Y_L_has k_846 S_L_has hA rfl hl.1 dL_can_76 ⟨Nat.le_of_ble_eq_true rfl, Nat.le_of_ble_eq_true rfl⟩ ⟨Nat.le_of_ble_eq_true rfl, Nat.le_of_ble_eq_true rfl⟩ rfl (Nat.le_of_ble_eq_true rfl)) rfl rfl g_no (fun r31_ h32_ => ?_)
                rw [hch_1] at h32_
                refine lv_if_eq (tgt := 86) hx hb dL_can_79 (by decide) (fun c33_ => ?_) (fun c33_ => ?_)
                · have q34_ := bz.f h32_ c33_
                  refine lv_iconst (v := 0) hx hb dL_can_86 (by decide) ?_
                  exact g_zret hC hr rfl dL_can_87 (Nat.le_of_ble_eq_true rfl) (Nat.le_of_ble_eq_true rfl) (bz_0 (by unfold mOk fTog; grind))
                · have q34_ := bz.t h32_ c33_
                  refine lv_iconst (v := 1) hx hb dL_can_82 (by decide) ?_
                  refine lv_goto (tgt := 87) hx hb dL_can_83 (by decide) ?_
                  exact g_zret hC hr rfl dL_can_87 (Nat.le_of_ble_eq_true rfl) (Nat.le_of_ble_eq_true rfl) (bz_1 (by unfold mOk fTog; grind))
      · have q9_ := bz.t h7_ c8_
        refine lv_iconst (v := 1) hx hb dL_can_28 (by decide) ?_
        exact g_zret hC hr rfl dL_can_29 (Nat.le_of_ble_eq_true rfl) (Nat.le_of_ble_eq_true rfl) (bz_1 (by unfold mOk fTog; grind))
set_option maxHeartbeats 4000000 in
set_option maxRecDepth 100000 in
theorem c_L_added {l : Launch} {E : gV} (hE : gOK l E) {nb D : Nat} {f : Nat → Int32} {μ : F2} {K : Nat → Nat} (hN : NL f μ K D) (hU : PU μ K) (k0 a0 pa0 : Int32) : gM l E yL_added cL_added 7 (some .int) ({ frames := 0, cells := 0, slots := 0, locals := 0 } : Room) [.ref nb, .int k0, .int a0, .int pa0] (fun H => gNet E nb f H) (gQR (gPi (fun r => r = mSum μ K k0 a0 pa0))) (fun _ => False) gN := by
  refine gM_body hE (by decide +kernel) (Nat.le_of_ble_eq_true rfl) ?_
  intro p_ e_ s m args below meth c hC ht hr hname hP ls hl
  have hx := hC.2.2.1
  have hb := hC.2.2.2.1
  have hl : lv_has ls 7 [(0, .ref nb), (1, .int k0), (2, .int a0), (3, .int pa0)] := hl
  have hA : gNet E nb f s.heap := hP
  have hb0 := hN.b0
  have hb1 := hN.b1
  have hb2 := hN.b2
  obtain ⟨td, htd, hd3, hd22⟩ := hN.day
  obtain ⟨wd, hw1, hw2, hd4, hd23⟩ := hN.win
  have hbD := hN.bD
  refine lv_iload_n hx hb dL_added_0 rfl (lv_at hl 2 rfl) ?_
  refine lv_istore (lv' := [(4, .int a0), (0, .ref nb), (1, .int k0), (2, .int a0), (3, .int pa0)]) hx hb dL_added_1 hl (by decide) rfl (fun ls hl => ?_)
  refine lv_iconst (v := 0) hx hb dL_added_3 (by decide) ?_
  refine lv_istore (lv' := [(5, .int 0), (4, .int a0), (0, .ref nb), (1, .int k0), (2, .int a0), (3, .int pa0)]) hx hb dL_added_4 hl (by decide) rfl (fun ls hl => ?_)
  have loop : ∀ (n_ : Nat) (q : Nat) (sm : Int32) (ls : Array Slot), K 2 - q < n_ → (q ≤ K 2) → (sm = fAdd (mw μ) (fun t => μ 17 t = 110) (μ 22 0) (μ 23 0) k0 pa0 q a0) → lv_has ls 7 [(0, .ref nb), (1, .int k0), (2, .int a0), (3, .int pa0), (4, .int sm), (5, .int (nI q))] → W p_ l e_ ({ frames := 0, cells := 0, slots := 0, locals := 0 } : Room) s m args below meth c s.heap [] 0 0 (vx_MQ below (gQR (gPi (fun r => r = mSum μ K k0 a0 pa0))) (gX (fun _ => False)) args s 0 0 gN) (F0 m 6 ls []) := by
    intro n_
    induction n_ with
    | zero => intro q sm ls h_; exact absurd h_ (Nat.not_lt_zero _)
    | succ n_ ih_loop =>
      intro q sm ls hn_ i1 i2 hl
      refine lv_iload hx hb dL_added_6 (lv_at hl 5 rfl) ?_
      refine lv_aload_n hx hb dL_added_8 rfl (lv_at hl 0 rfl) ?_
      refine lv_iconst (v := 2) hx hb dL_added_9 (by decide) ?_
      refine g_iald (n := 450) (f := f) (j := 2) hC hA (by omega) (by decide) dL_added_10 ?_
      rw [show f (2) = nI (K 2) from hN.k2]
      refine lv_icmp_ge (tgt := 90) hx hb dL_added_11 (by decide) (fun c1_ => ?_) (fun c1_ => ?_)
      · have n2_ : (K 2) ≤ q := le_nI (by omega) (by omega) c1_
        have hq : q = K 2 := by omega
        refine lv_iload hx hb dL_added_90 (lv_at hl 4 rfl) ?_
        exact g_iret hC hr dL_added_92 (Nat.le_of_ble_eq_true rfl) (Nat.le_of_ble_eq_true rfl) (by subst hq; exact i2)
      · have n2_ : q < (K 2) := not_le_nI (by omega) (by omega) c1_
        have hq : q < K 2 := by omega
        obtain ⟨c9, h9l, h9a, h9b⟩ := hN.st hq
        obtain ⟨y9, e9, hy9⟩ := hN.dy hq
        refine lv_sipush (v := 200) hx hb dL_added_14 (by decide) ?_
        refine lv_bipush (v := 10) hx hb dL_added_17 (by decide) ?_
        refine lv_iload hx hb dL_added_19 (lv_at hl 5 rfl) ?_
        refine g_nmuln (a := 10) (b := q) hx hb dL_added_21 ?_
        refine g_naddn (a := 200) (b := 10 * q) hx hb dL_added_22 ?_
        refine lv_istore (lv' := [(6, .int (nI (200 + 10 * q))), (0, .ref nb), (1, .int k0), (2, .int a0), (3, .int pa0), (4, .int sm), (5, .int (nI q))]) hx hb dL_added_23 hl (by decide) rfl (fun ls hl => ?_)
        refine lv_iload hx hb dL_added_25 (lv_at hl 5 rfl) ?_
        refine lv_aload_n hx hb dL_added_27 rfl (lv_at hl 1 rfl) ?_
        refine lv_iload hx hb dL_added_28 (lv_at hl 0 rfl) ?_
        refine g_iald (n := 450) (f := f) (j := 200 + 10 * q) hC hA (by omega) (by decide) dL_added_30 ?_
        rw [show f (200 + 10 * q) = μ 10 q from hN.d10 (d := q) (by omega) (by omega)]
        refine lv_iload_n hx hb dL_added_31 rfl (lv_at hl 2 rfl) ?_
        refine lv_icmp_ne (tgt := 80) hx hb dL_added_32 (by decide) (fun c3_ => ?_) (fun c3_ => ?_)
        · refine lv_iconst (v := 0) hx hb dL_added_80 (by decide) ?_
          refine lv_iadd hx hb dL_added_81 ?_
          refine lv_istore (lv' := [(4, .int (sm + 0)), (6, .int (nI (200 + 10 * q))), (0, .ref nb), (1, .int k0), (2, .int a0), (3, .int pa0), (5, .int (nI q))]) hx hb dL_added_82 hl (by decide) rfl (fun ls hl => ?_)
          refine lv_iinc (v := nI (q + 1)) (lv' := [(5, .int (nI (q + 1))), (4, .int (sm + 0)), (6, .int (nI (200 + 10 * q))), (0, .ref nb), (1, .int k0), (2, .int a0), (3, .int pa0)]) hx hb dL_added_84 hl (k := 6) rfl (g_inc _) (by decide) rfl (fun ls hl => ?_)
          refine lv_goto (tgt := 6) hx hb dL_added_87 (by decide) ?_
          exact ih_loop (q + 1) (sm + 0) ls (by omega) (by omega) (by
            rw [i2]
            refine (fAdd_f (fun z => ?_)).symm
            obtain ⟨z1, z2, z3, z4⟩ := z
            rw [hd22, hd23, show mw μ 3 q = nI y9 from e9] at z4
            have z4 := (dy_lt (by omega) (by omega) (by omega)).mp z4
            first
            | exact absurd z1 (by assumption)
            | exact absurd z2 (by assumption)
            | exact z3 (h9b.trans ((stc_110 h9l).mpr (by omega)))
            | omega) (lv_sub hl [3, 4, 5, 6, 1, 0] rfl)
        · refine lv_aload_n hx hb dL_added_35 rfl (lv_at hl 1 rfl) ?_
          refine lv_iload hx hb dL_added_36 (lv_at hl 0 rfl) ?_
          refine lv_iconst (v := 2) hx hb dL_added_38 (by decide) ?_
          refine g_naddn (a := 200 + 10 * q) (b := 2) hx hb dL_added_39 ?_
          refine g_iald (n := 450) (f := f) (j := 200 + 10 * q + 2) hC hA (by omega) (by decide) dL_added_40 ?_
          rw [show f (200 + 10 * q + 2) = μ 12 q from hN.d12 (d := q) (by omega) (by omega)]
          refine lv_iload_n hx hb dL_added_41 rfl (lv_at hl 4 rfl) ?_
          refine lv_icmp_ne (tgt := 80) hx hb dL_added_42 (by decide) (fun c4_ => ?_) (fun c4_ => ?_)
          · refine lv_iconst (v := 0) hx hb dL_added_80 (by decide) ?_
            refine lv_iadd hx hb dL_added_81 ?_
            refine lv_istore (lv' := [(4, .int (sm + 0)), (6, .int (nI (200 + 10 * q))), (0, .ref nb), (1, .int k0), (2, .int a0), (3, .int pa0), (5, .int (nI q))]) hx hb dL_added_82 hl (by decide) rfl (fun ls hl => ?_)
            refine lv_iinc (v := nI (q + 1)) (lv' := [(5, .int (nI (q + 1))), (4, .int (sm + 0)), (6, .int (nI (200 + 10 * q))), (0, .ref nb), (1, .int k0), (2, .int a0), (3, .int pa0)]) hx hb dL_added_84 hl (k := 6) rfl (g_inc _) (by decide) rfl (fun ls hl => ?_)
            refine lv_goto (tgt := 6) hx hb dL_added_87 (by decide) ?_
            exact ih_loop (q + 1) (sm + 0) ls (by omega) (by omega) (by
            rw [i2]
            refine (fAdd_f (fun z => ?_)).symm
            obtain ⟨z1, z2, z3, z4⟩ := z
            rw [hd22, hd23, show mw μ 3 q = nI y9 from e9] at z4
            have z4 := (dy_lt (by omega) (by omega) (by omega)).mp z4
            first
            | exact absurd z1 (by assumption)
            | exact absurd z2 (by assumption)
            | exact z3 (h9b.trans ((stc_110 h9l).mpr (by omega)))
            | omega) (lv_sub hl [3, 4, 5, 6, 1, 0] rfl)
          · refine lv_aload_n hx hb dL_added_45 rfl (lv_at hl 1 rfl) ?_
            refine lv_iload hx hb dL_added_46 (lv_at hl 0 rfl) ?_
            refine lv_iconst (v := 5) hx hb dL_added_48 (by decide) ?_
            refine g_naddn (a := 200 + 10 * q) (b := 5) hx hb dL_added_49 ?_
            refine g_iald (n := 450) (f := f) (j := 200 + 10 * q + 5) hC hA (by omega) (by decide) dL_added_50 ?_
            rw [show f (200 + 10 * q + 5) = nI c9 from (by rw [show 200 + 10 * q + 5 = 205 + 10 * q by omega]; exact h9a)]
            refine lv_iconst (v := 3) hx hb dL_added_51 (by decide) ?_
            refine lv_icmp_eq (tgt := 80) hx hb dL_added_52 (by decide) (fun c5_ => ?_) (fun c5_ => ?_)
            · have n6_ : c9 = 3 := (nI_eq (by omega) (by omega)).mp c5_
              refine lv_iconst (v := 0) hx hb dL_added_80 (by decide) ?_
              refine lv_iadd hx hb dL_added_81 ?_
              refine lv_istore (lv' := [(4, .int (sm + 0)), (6, .int (nI (200 + 10 * q))), (0, .ref nb), (1, .int k0), (2, .int a0), (3, .int pa0), (5, .int (nI q))]) hx hb dL_added_82 hl (by decide) rfl (fun ls hl => ?_)
              refine lv_iinc (v := nI (q + 1)) (lv' := [(5, .int (nI (q + 1))), (4, .int (sm + 0)), (6, .int (nI (200 + 10 * q))), (0, .ref nb), (1, .int k0), (2, .int a0), (3, .int pa0)]) hx hb dL_added_84 hl (k := 6) rfl (g_inc _) (by decide) rfl (fun ls hl => ?_)
              refine lv_goto (tgt := 6) hx hb dL_added_87 (by decide) ?_
              exact ih_loop (q + 1) (sm + 0) ls (by omega) (by omega) (by
            rw [i2]
            refine (fAdd_f (fun z => ?_)).symm
            obtain ⟨z1, z2, z3, z4⟩ := z
            rw [hd22, hd23, show mw μ 3 q = nI y9 from e9] at z4
            have z4 := (dy_lt (by omega) (by omega) (by omega)).mp z4
            first
            | exact absurd z1 (by assumption)
            | exact absurd z2 (by assumption)
            | exact z3 (h9b.trans ((stc_110 h9l).mpr (by omega)))
            | omega) (lv_sub hl [3, 4, 5, 6, 1, 0] rfl)
            · have n6_ : ¬ c9 = 3 := fun z => c5_ (congrArg nI z)
              refine lv_aload_n hx hb dL_added_55 rfl (lv_at hl 1 rfl) ?_
              refine lv_iload hx hb dL_added_56 (lv_at hl 0 rfl) ?_
              refine lv_iconst (v := 3) hx hb dL_added_58 (by decide) ?_
              refine g_naddn (a := 200 + 10 * q) (b := 3) hx hb dL_added_59 ?_
              refine g_iald (n := 450) (f := f) (j := 200 + 10 * q + 3) hC hA (by omega) (by decide) dL_added_60 ?_
              rw [show f (200 + 10 * q + 3) = nI y9 from (by rw [show 200 + 10 * q + 3 = 203 + 10 * q by omega]; exact ((hN.d13 (d := q) (by omega) rfl).trans e9))]
              refine lv_aload_n hx hb dL_added_61 rfl (lv_at hl 1 rfl) ?_
              refine lv_iconst (v := 4) hx hb dL_added_62 (by decide) ?_
              refine g_iald (n := 450) (f := f) (j := 4) hC hA (by omega) (by decide) dL_added_63 ?_
              rw [show f (4) = nI wd from hd4]
              refine g_naddn (a := y9) (b := wd) hx hb dL_added_64 ?_
              refine lv_aload_n hx hb dL_added_65 rfl (lv_at hl 1 rfl) ?_
              refine lv_iconst (v := 3) hx hb dL_added_66 (by decide) ?_
              refine g_iald (n := 450) (f := f) (j := 3) hC hA (by omega) (by decide) dL_added_67 ?_
              rw [show f (3) = nI td from hd3]
              refine lv_icmp_le (tgt := 80) hx hb dL_added_68 (by decide) (fun c7_ => ?_) (fun c7_ => ?_)
              · have n8_ : (y9 + wd) ≤ td := le_nI (by omega) (by omega) c7_
                refine lv_iconst (v := 0) hx hb dL_added_80 (by decide) ?_
                refine lv_iadd hx hb dL_added_81 ?_
                refine lv_istore (lv' := [(4, .int (sm + 0)), (6, .int (nI (200 + 10 * q))), (0, .ref nb), (1, .int k0), (2, .int a0), (3, .int pa0), (5, .int (nI q))]) hx hb dL_added_82 hl (by decide) rfl (fun ls hl => ?_)
                refine lv_iinc (v := nI (q + 1)) (lv' := [(5, .int (nI (q + 1))), (4, .int (sm + 0)), (6, .int (nI (200 + 10 * q))), (0, .ref nb), (1, .int k0), (2, .int a0), (3, .int pa0)]) hx hb dL_added_84 hl (k := 6) rfl (g_inc _) (by decide) rfl (fun ls hl => ?_)
                refine lv_goto (tgt := 6) hx hb dL_added_87 (by decide) ?_
                exact ih_loop (q + 1) (sm + 0) ls (by omega) (by omega) (by
            rw [i2]
            refine (fAdd_f (fun z => ?_)).symm
            obtain ⟨z1, z2, z3, z4⟩ := z
            rw [hd22, hd23, show mw μ 3 q = nI y9 from e9] at z4
            have z4 := (dy_lt (by omega) (by omega) (by omega)).mp z4
            first
            | exact absurd z1 (by assumption)
            | exact absurd z2 (by assumption)
            | exact z3 (h9b.trans ((stc_110 h9l).mpr (by omega)))
            | omega) (lv_sub hl [3, 4, 5, 6, 1, 0] rfl)
              · have n8_ : td < (y9 + wd) := not_le_nI (by omega) (by omega) c7_
                refine lv_aload_n hx hb dL_added_71 rfl (lv_at hl 1 rfl) ?_
                refine lv_iload hx hb dL_added_72 (lv_at hl 0 rfl) ?_
                refine lv_iconst (v := 1) hx hb dL_added_74 (by decide) ?_
                refine g_naddn (a := 200 + 10 * q) (b := 1) hx hb dL_added_75 ?_
                refine g_iald (n := 450) (f := f) (j := 200 + 10 * q + 1) hC hA (by omega) (by decide) dL_added_76 ?_
                rw [show f (200 + 10 * q + 1) = μ 11 q from hN.d11 (d := q) (by omega) (by omega)]
                refine lv_goto (tgt := 81) hx hb dL_added_77 (by decide) ?_
                refine lv_iadd hx hb dL_added_81 ?_
                refine lv_istore (lv' := [(4, .int (sm + (μ 11 q))), (6, .int (nI (200 + 10 * q))), (0, .ref nb), (1, .int k0), (2, .int a0), (3, .int pa0), (5, .int (nI q))]) hx hb dL_added_82 hl (by decide) rfl (fun ls hl => ?_)
                refine lv_iinc (v := nI (q + 1)) (lv' := [(5, .int (nI (q + 1))), (4, .int (sm + (μ 11 q))), (6, .int (nI (200 + 10 * q))), (0, .ref nb), (1, .int k0), (2, .int a0), (3, .int pa0)]) hx hb dL_added_84 hl (k := 6) rfl (g_inc _) (by decide) rfl (fun ls hl => ?_)
                refine lv_goto (tgt := 6) hx hb dL_added_87 (by decide) ?_
                exact ih_loop (q + 1) (sm + (μ 11 q)) ls (by omega) (by omega) (by rw [i2]; exact (fAdd_t (show mw μ 0 q = k0 ∧ mw μ 2 q = pa0 ∧ ¬ μ 17 q = 110 ∧ μ 22 0 - mw μ 3 q < μ 23 0 from ⟨by assumption, by assumption, fun z => absurd ((stc_110 h9l).mp (h9b.symm.trans z)) (by omega), by rw [hd22, hd23, show mw μ 3 q = nI y9 from e9]; exact (dy_lt (by omega) (by omega) (by omega)).mpr (by omega)⟩)).symm) (lv_sub hl [3, 4, 5, 6, 1, 0] rfl)
  exact loop ((K 2 - (0)) + 1) 0 a0 ls (by omega) (by omega) rfl (lv_sub hl [2, 3, 4, 5, 1, 0] rfl)
