/-! TOLD AND FIGURES -/
section TOLD
variable {p : Program} {l : Launch} {e : Env} {R : Room} {s : State} {m : MethodId} {args : Array Value} {below : List Frame} {meth : Method} {c : Code} {H : Heap} {locs : List Loc} {cells slots : Nat} {Q : State → Prop}
variable {cc : ByteArray} {rest : List Value} {pc : Nat} {ls : Array Slot}
theorem g_lcmp {x y : Int64} (hx : p.tables.exec = Jvm.exec) (hb : c.code = cc) (h : x = y) (hdg : decode cc pc = .ok (.lcmp, 1)) (kk : W p l e R s m args below meth c H locs cells slots Q (F0 m (pc + 1) ls (.int 0 :: rest))) : W p l e R s m args below meth c H locs cells slots Q (F0 m pc ls (.long y :: .long x :: rest)) := by
  subst h
  refine W.lcmp hx hb hdg ?_
  have e : lg_cmp x x = 0 := by
    unfold lg_cmp
    simp [Int64.lt_irrefl]
  rw [e]
  exact kk
theorem g_fcmp0 {x y : UInt32} (hx : p.tables.exec = Jvm.exec) (hb : c.code = cc) (h : Op.cmpValue (FP.fcmp x y) .l = 0) (hdg : decode cc pc = .ok (.fcmp .l, 1)) (kk : W p l e R s m args below meth c H locs cells slots Q (F0 m (pc + 1) ls (.int 0 :: rest))) : W p l e R s m args below meth c H locs cells slots Q (F0 m pc ls (.float y :: .float x :: rest)) :=
  lv_fcmp hx hb hdg (by rw [h]; exact kk)
end TOLD
theorem fp_cmpf1 : ∀ a : Fin 25, ∀ b : Fin 25, b.val ≠ 0 → Op.cmpValue (FP.fcmp (FP.fdiv (FP.i2f (nI a.val)) (FP.i2f (nI b.val))) (FP.fdiv (FP.i2f (nI a.val)) (FP.i2f (nI b.val)))) .l = 0 := by decide +kernel
theorem fp_cmpf {a b : Nat} (ha : a ≤ 24) (hb : b ≤ 24) (h0 : b ≠ 0) : Op.cmpValue (FP.fcmp (FP.fdiv (FP.i2f (nI a)) (FP.i2f (nI b))) (FP.fdiv (FP.i2f (nI a)) (FP.i2f (nI b)))) .l = 0 := fp_cmpf1 ⟨a, by omega⟩ ⟨b, by omega⟩ h0
theorem fp_cmp9 : Op.cmpValue (FP.fcmp 3378231824 3378231824) .l = 0 := by decide +kernel
theorem wP.same {E : gV} {nb a0 : Nat} {μ : F2} {K : Nat → Nat} {n code : Nat} {Pv : Int32 → Prop} {r : Int32} {H : Heap} (h : wP E nb a0 μ K n code μ K n Pv r H) : SI E nb a0 μ K n H := by
  rcases h with ⟨-, -, h⟩ | ⟨k, -, -, h⟩
  · exact h
  · exact h
theorem wPs.same {E : gV} {nb a0 : Nat} {μ : F2} {K : Nat → Nat} {n : Nat} {r : UInt32} {H : Heap} (h : wPs E nb a0 μ K n r H) : SI E nb a0 μ K n H := by
  rcases h with ⟨-, -, h⟩ | ⟨-, -, h⟩
  · exact h
  · exact h
theorem wPs.z {E : gV} {nb a0 : Nat} {μ : F2} {K : Nat → Nat} {n : Nat} {r : UInt32} {H : Heap} (h : wPs E nb a0 μ K n r H) (h0 : K 2 = 0) : r = 3378231824 := by
  rcases h with ⟨h1, -⟩ | ⟨-, h2, -⟩
  · unfold kShare at h1
    rw [cif_pos h0] at h1
    omega
  · exact h2
theorem wPs.n {E : gV} {nb a0 : Nat} {μ : F2} {K : Nat → Nat} {n : Nat} {r : UInt32} {H : Heap} (h : wPs E nb a0 μ K n r H) (h0 : ¬ K 2 = 0) : r = FP.fdiv (FP.i2f (nI (fCnt (fun t => μ 17 t = 115 ∨ μ 17 t = 114) (K 2)))) (FP.i2f (nI (K 2))) := by
  rcases h with ⟨-, h2, -⟩ | ⟨h1, -⟩
  · exact h2
  · unfold kShare at h1
    rw [cif_neg h0] at h1
    omega
theorem fBd_t {w : F2} {n : Nat} (h : w 5 n = 115 ∨ w 5 n = 114) : fBd w (n + 1) = fBd w n + (w 1 n).toInt64 := cif_pos h
theorem fBd_f {w : F2} {n : Nat} (h : ¬ (w 5 n = 115 ∨ w 5 n = 114)) : fBd w (n + 1) = fBd w n + 0 := (cif_neg h).trans (Int64.add_zero _).symm
