/-! THE LIST'S ARRAY: made, written, copied -/
theorem va_S.mono {A B : Nat → Prop} {H0 H : Heap} {locs : List Loc} (h : va_S A H0 H locs) (hAB : ∀ q, A q → B q) : va_S B H0 H locs := ⟨h.1, fun q h1 h2 => h.2.1 q h1 (fun z => h2 (hAB q z)), fun l hl => hAB _ (h.2.2 l hl)⟩
abbrev gQ (E : gV) (n : Nat) (f : Nat → Option Nat) : va_E := .inl (E.2.2.2 3, n, .inr (.inr (.inr (.inr f))))
/-- a deed, a paper or a power -/
def gO (E : gV) (a : Nat) (H : Heap) : Prop := ∃ (ci : Nat) (fs : List Value), (ci = 1 ∨ ci = 3 ∨ ci = 4) ∧ gA E a (.inr (ci, fs)) H
theorem gO.kept {E : gV} {a : Nat} {H H1 : Heap} (h : gO E a H) (hq : H1[a]? = H[a]?) : gO E a H1 := by
  obtain ⟨ci, fs, hc, h⟩ := h
  exact ⟨ci, fs, hc, h.kept hq⟩
theorem gO.lt {E : gV} {a : Nat} {H : Heap} (h : gO E a H) : a < H.size := by
  obtain ⟨ci, fs, hc, h⟩ := h
  exact h.lt
section LRULES
variable {p : Program} {l : Launch} {e : Env} {R : Room} {s : State} {m : MethodId} {args : Array Value} {below : List Frame} {meth : Method} {c : Code} {H H0 : Heap} {locs : List Loc} {cells slots : Nat} {Q : State → Prop} {E : gV} {own : String} {cc : ByteArray} {nL : Nat} {rest : List Value} {pc : Nat} {ls : Array Slot} {a : Nat} {A : Nat → Prop}
theorem g_castO {X : String} (hC : gC l E p s m meth c own cc nL) (hk : Cond.castable X "java/lang/Object" ∈ lw_tbl) : ∀ comp c0 : ClassId, s.vm.findClass "java/lang/Object" = some comp → s.vm.findClass X = some c0 → s.vm.assignable c0 comp = true := by
  have h := va_Nw.use (A := #[]) rfl (va_Nw.warmC hC.2.1 (va_Nw.of rfl (hC.1.2.1 _ hk)))
  obtain ⟨c3, c4, h3, h4, h5⟩ := Cond.castable_spec h
  intro comp c0 e1 e2
  cases Option.some.inj (h3.symm.trans e2)
  cases Option.some.inj (h4.symm.trans e1)
  exact h5
theorem gO.any (hC : gC l E p s m meth c own cc nL) (h : gO E a H) : va_Any "java/lang/Object" s H a := by
  obtain ⟨ci, fs, hc, h⟩ := h
  rcases hc with rfl | rfl | rfl
  · exact va_rAny (gK hC.1 hC.2.1) h.one (q0 := 0) rfl (r := (RX0, TX0, 16)) rfl (g_castO hC k_963)
  · exact va_rAny (gK hC.1 hC.2.1) h.one (q0 := 0) rfl (r := (RX2, TX2, 3)) rfl (g_castO hC k_960)
  · exact va_rAny (gK hC.1 hC.2.1) h.one (q0 := 0) rfl (r := (RX3, TX3, 7)) rfl (g_castO hC k_959)
theorem g_newq {n S index : Nat} (hC : gC l E p s m meth c own cc nL) (hk : Cond.classLink own index "java/lang/Object" ∈ lw_tbl) (hn : n ≤ S) (hS9 : S ≤ 100000) (hS : va_S A H0 H locs) (hA : ∀ q, H0.size ≤ q → A q) (hcells : cells + 1 ≤ R.cells) (hslots : slots + S ≤ R.slots) (hdg : decode cc pc = .ok (.anewarray index, 3))
    (kk : ∀ (H1 : Heap), gA E H.size (gQ E n (fun _ => none)) H1 → H1.size = H.size + 1 → (∀ q : Nat, q < H.size → H1[q]? = H[q]?) → va_S A H0 H1 locs → W p l e R s m args below meth c H1 locs (cells + 1) (slots + S) Q (F0 m (pc + 3) ls (.ref H.size :: rest))) : W p l e R s m args below meth c H locs cells slots Q (F0 m pc ls (.int (nI n) :: rest)) := by
  have hov : va_AO "java/lang/Object" s := va_AO.moved hC.2.1.alike (va_AO.of (hC.1.2.1 _ k_230))
  obtain ⟨kA9, comp9, -, -, -, hnm⟩ := ((gK hC.1 hC.2.1).2 3 _ rfl).2
  refine W.anew hC.2.2.1 hC.2.2.2.1 hC.2.2.2.2.2.1 (gw hC.1 hC.2.1 hk rfl) (va_AO.use hov) rfl hdg rfl (nI_pos (by omega)) (by rw [nI_clamp (by omega)]; omega) hcells (by rw [nI_clamp (by omega)]; omega) fun cA kA comp f1 f2 f3 f4 => ?_
  rw [nI_clamp (by omega)]
  have hcA : cA = E.2.2.2 3 := Option.some.inj (f1.symm.trans hnm)
  generalize hH1 : H.push ({ cls := cA, slots := Array.replicate n .null, vm := .none } : Cell) = H1
  have z1 : H1.size = H.size + 1 := by rw [← hH1, Array.size_push]
  have e1 : H1[H.size]? = some (arrV cA n (fun _ => .null)) := by rw [← hH1, Array.getElem?_push_size, ← arrV_new]
  have o1 : ∀ q : Nat, q < H.size → H1[q]? = H[q]? := fun q hq => by rw [← hH1, Array.getElem?_push, if_neg (Nat.ne_of_lt hq)]
  refine W.widen (Nat.le_refl _) (show slots + n ≤ slots + S by omega) (kk H1 ?_ z1 o1 ⟨Nat.le_trans hS.1 (by omega), fun x h1 h2 => (o1 x (Nat.lt_of_lt_of_le h1 hS.1)).trans (hS.2.1 x h1 h2), hS.2.2⟩)
  show H1[H.size]? = some (vp_cell _ _)
  rw [vp_cell_q, ← hcA]
  exact e1
theorem g_aast {n j v : Nat} {f : Nat → Option Nat} (hC : gC l E p s m meth c own cc nL) (hE : gA E a (gQ E n f) H) (hS : va_S A H0 H locs) (hA : A a) (hr : va_Any "java/lang/Object" s H v) (hj : j < n) (hn : n < 2 ^ 31) (hdg : decode cc pc = .ok (.aastore, 1))
    (kk : ∀ (H1 : Heap) (locs1 : List Loc), gA E a (gQ E n (va_up f j (some v))) H1 → H1.size = H.size → (∀ q : Nat, q ≠ a → H1[q]? = H[q]?) → va_S A H0 H1 locs1 → W p l e R s m args below meth c H1 locs1 cells slots Q (F0 m (pc + 1) ls rest)) : W p l e R s m args below meth c H locs cells slots Q (F0 m pc ls (.ref v :: .int (nI j) :: .ref a :: rest)) := by
  have hin : vp_in (nI j) n := vp_in_nI hj hn
  obtain ⟨cellV, g1, g3, ⟨kC, hkC⟩, hasg⟩ := hr
  obtain ⟨kA, comp, k1, k2, k3, -⟩ := ((gK hC.1 hC.2.1).2 3 _ rfl).2
  obtain ⟨kE, hkE, -⟩ := Vm.findClass_spec k3
  refine W.aast hC.2.2.1 hC.2.2.2.1 hE (fun q h => by cases h) (fun h => by cases h) k1 k2 rfl hkE ⟨nI_pos (by omega), by show _ < (arrV _ _ _).slots.size; rw [arrV_size, nI_clamp (by omega)]; exact hj⟩ g1 (fun q h => by rw [h] at g3; cases g3) hkC (hasg _ k3) rfl rfl hdg fun H1 e z oq => ?_
  refine kk H1 _ ?_ z oq (hS.put z oq hA)
  show H1[a]? = some (vp_cell _ _)
  rw [e]
  rw [vp_cell_q, vp_cell_q, arrV_store, nI_clamp (by omega)]
  congr 2
  funext q
  by_cases hq : q = j
  · subst hq
    simp [updV, va_up, va_rf]
  · simp [updV, va_up, hq]
theorem g_copyq {t n0 n1 n index : Nat} {f g : Nat → Option Nat} (hC : gC l E p s m meth c own cc nL) (hls : ls.size = nL) (hlink : Cond.methodLink own index arraycopyName ∈ lw_tbl) (hE0 : gA E t (gQ E n0 f) H) (hE1 : gA E a (gQ E n1 g) H) (hne : t ≠ a) (hA0 : A t) (hA1 : A a) (hel : ∀ i : Nat, i < n → ∀ y : Nat, f i = some y → va_Any "java/lang/Object" s H y) (h0 : n ≤ n0) (h1 : n ≤ n1) (h9 : n < 2 ^ 31) (hS : va_S A H0 H locs)
    (hframes : 1 ≤ R.frames) (hlocals : (rest.map fun v => v.category).sum + (nativeFrameWords "java/lang/System" "arraycopy" 5 + 11) ≤ R.locals) (hdg : decode cc pc = .ok (.invokestatic index, 3))
    (kk : ∀ (H1 : Heap) (locs1 : List Loc), gA E t (gQ E n0 f) H1 → gA E a (gQ E n1 (va_cpy f g 0 0 n)) H1 → va_S A H0 H1 locs1 → W p l e R s m args below meth c H1 locs1 cells slots Q (F0 m (pc + 3) ls rest)) : W p l e R s m args below meth c H locs cells slots Q (F0 m pc ls (.int (nI n) :: .int 0 :: .ref a :: .int 0 :: .ref t :: rest)) := by
  have z0 : (0 : Int32).toNatClampNeg = 0 := rfl
  have zn : (nI n).toNatClampNeg = n := nI_clamp h9
  refine va_copyM (ws := [(t, gQ E n0 f), (a, gQ E n1 g)]) hC.2.2.1 hC.2.2.2.1 (hC.2.2.2.2.1.trans hls.symm) hC.2.2.2.2.2.1 (gw hC.1 hC.2.1 hlink rfl) (gw hC.1 hC.2.1 k_237 rfl) (gw hC.1 hC.2.1 k_236 rfl) (gw hC.1 hC.2.1 k_16 rfl) (gK hC.1 hC.2.1) (fun k q h => ?_) ⟨fun i j x y h1 h2 e => ?_, fun k q h => ?_⟩ hS 0 1 3 3 rfl rfl rfl rfl (by decide) (by decide) (nI_pos h9) (by rw [z0, zn]; omega) (by rw [z0, zn]; omega) (fun i hi y hy => hel i (by rw [zn] at hi; exact hi) y (by rw [z0, Nat.zero_add] at hy; exact hy)) hframes hlocals hdg (fun H1 locs1 hP1 _ hS1 => ?_)
  · rcases k with _ | _ | k
    · cases h; exact hE0
    · cases h; exact hE1
    · cases h
  · rcases i with _ | _ | i <;> rcases j with _ | _ | j <;> first | rfl | (cases h1; done) | (cases h2; done) | (cases h1; cases h2; exact absurd e hne) | (cases h1; cases h2; exact absurd e.symm hne)
  · rcases k with _ | _ | k
    · cases h; exact hA0
    · cases h; exact hA1
    · cases h
  · refine kk H1 locs1 (hP1 0 _ rfl) ?_ hS1
    have h2 := hP1 1 _ rfl
    rw [z0, zn] at h2
    exact h2
theorem g_mir {l : Launch} {E : gV} (h : gOK l E) : ∃ mi : Nat, va_Mi "[Ljava/lang/Object;" mi E.2.1 := va_Mi.of (args := #[Value.ref E.1]) (flat_of_before _ h.2.2.1 _ (by decide +kernel))
theorem g_getCq {mi n index : Nat} {f : Nat → Option Nat} (hC : gC l E p s m meth c own cc nL) (hls : ls.size = nL) (hM : va_Mi "[Ljava/lang/Object;" mi E.2.1) (hE : gA E a (gQ E n f) H) (hlink : Cond.methodLink own index ⟨"java/lang/Object", "getClass", "()Ljava/lang/Class;"⟩ ∈ lw_tbl) (hframes : 1 ≤ R.frames) (hlocals : (rest.map fun v => v.category).sum + 14 ≤ R.locals) (hdg : decode cc pc = .ok (.invokevirtual index, 3))
    (k : W p l e R s m args below meth c H locs cells slots Q (F0 m (pc + 3) ls (.ref mi :: rest))) : W p l e R s m args below meth c H locs cells slots Q (F0 m pc ls (.ref a :: rest)) := by
  have hnm : s.vm.findClass "[Ljava/lang/Object;" = some (E.2.2.2 3) := by
    obtain ⟨kA9, comp9, -, -, -, hnm⟩ := ((gK hC.1 hC.2.1).2 3 _ rfl).2
    exact hnm
  exact va_getC (C := "[Ljava/lang/Object;") hC.2.2.1 hC.2.2.2.1 (hC.2.2.2.2.1.trans hls.symm) hC.2.2.2.2.2.1 (gw hC.1 hC.2.1 hlink rfl) (va_Nw.use rfl (va_Nw.warmD hC.2.1 (va_Nw.of rfl (hC.1.2.1 _ k_968)))) (gw hC.1 hC.2.1 k_967 rfl) (gw hC.1 hC.2.1 k_212 rfl) (gw hC.1 hC.2.1 k_225 rfl) (va_Mi.moved hC.2.1.alike hM) ⟨_, hE, rfl, hnm⟩ hframes hlocals hdg k
theorem g_gemp {t index : Nat} {ref : String} (hC : gC l E p s m meth c own cc nL) (hF : gFz E s.heap) (hZ : gEmp E t) (hS : va_S A s.heap H locs) (hA : ∀ q, A q → E.2.1.heap.size ≤ q) (hl : Cond.fieldLink own index "java/util/ArrayList" "DEFAULTCAPACITY_EMPTY_ELEMENTDATA" "[Ljava/lang/Object;" ∈ lw_tbl) (hdg : decode cc pc = .ok (.getstatic index, 3))
    (kk : W p l e R s m args below meth c H locs cells slots Q (F0 m (pc + 3) ls (.ref t :: rest))) : W p l e R s m args below meth c H locs cells slots Q (F0 m pc ls rest) :=
  va_gets (own := own) hC.2.2.1 hC.2.2.2.1 ((va_Z.moved hC.2.1.alike hZ).kept (fun a ha _ => hF a ha)) (hS.mono hA) hC.2.2.2.2.2.1 (gw hC.1 hC.2.1 hl rfl) (fun _ h => h) hdg kk
theorem va_Z.inj {C n d : String} {v v' : Value} {A : Nat → Prop} {U : State} {H : Heap} (h : va_Z C n d v A U H) (h' : va_Z C n d v' A U H) : v = v' := by
  obtain ⟨cf, kf, fi, f, a, cell, h1, h2, h3, h4, h5, h6, h7, h8⟩ := h
  obtain ⟨cf', kf', fi', f', a', cell', g1, g2, g3, g4, g5, g6, g7, g8⟩ := h'
  cases h1.symm.trans g1
  cases h4.symm.trans g4
  cases h5.symm.trans g5
  exact Option.some.inj (h7.symm.trans g7)
theorem g_emp {l : Launch} {E : gV} (h : gOK l E) : ∃ t : Nat, gEmp E t ∧ va_T (.object "java/lang/Object") t 0 (fun _ => .null) (gA0 E) E.2.1 E.2.1.heap := by
  have hX : ∀ w ∈ flatC (Jvm.Cond.and given_1 narrow_1), w.before #[Value.ref E.1] E.2.1 = true := flat_of_before _ h.2.2.1
  obtain ⟨t, h1, h2⟩ := va_Tof (args := #[Value.ref E.1]) (s := E.2.1) (tm := .static "java/util/ArrayList" "DEFAULTCAPACITY_EMPTY_ELEMENTDATA" "[Ljava/lang/Object;") (ty := .object "java/lang/Object") (N := 0) (f := fun _ => .null) (A := gA0 E) (by decide) (hX _ (by decide +kernel)) (va_eqt (hX _ (by decide +kernel))) (fun j hj => absurd hj (Nat.not_lt_zero j)) (fun a ha => Nat.not_le.mpr ha)
  exact ⟨t, va_Zref (h.2.1 _ k_197) (h.2.1 _ k_4) h1 (fun a ha => Nat.not_le.mpr ha), h2⟩
theorem g_elen {t : Nat} (hC : gC l E p s m meth c own cc nL) (hF : gFz E s.heap) (hZ : gEmp E t) (hS : va_S A s.heap H locs) (hA : ∀ q, A q → E.2.1.heap.size ≤ q) (hdg : decode cc pc = .ok (.arraylength, 1))
    (kk : W p l e R s m args below meth c H locs cells slots Q (F0 m (pc + 1) ls (.int 0 :: rest))) : W p l e R s m args below meth c H locs cells slots Q (F0 m pc ls (.ref t :: rest)) := by
  obtain ⟨t', h1, h2⟩ := g_emp hC.1
  cases va_Z.inj h1 hZ
  exact va_tlen (v := 0) hC.2.2.1 hC.2.2.2.1 ((h2.moved hC.2.1.alike).kept (fun a ha _ => hF a ha)) (hS.mono hA) rfl hdg kk
end LRULES
theorem gL.three {E : gV} {a t n : Nat} {row : Nat → Nat} {H : Heap} (h : gL E a t n row H) : ∃ mc : Int32, gA E a (.inr (0, [.int mc, .ref t, .int (nI n)])) H ∧ ((n = 0 ∧ gEmp E t) ∨ (∃ f, 0 < n ∧ gA E t (gQ E n f) H ∧ ∀ i, i < n → f i = some (row i)) ∨ ∃ cap f, 0 < n ∧ n < cap ∧ cap ≤ 1000 ∧ gA E t (gQ E cap f) H ∧ ∀ i, i < n → f i = some (row i)) := by
  obtain ⟨mc, h1, h2, h3⟩ := h
  refine ⟨mc, h1, ?_⟩
  rcases Nat.eq_zero_or_pos n with h0 | h0
  · exact Or.inl ⟨h0, h2 h0⟩
  · obtain ⟨cap, r, h4, h5, h6, h7⟩ := h3 h0
    rcases Nat.lt_or_eq_of_le h4 with h8 | h8
    · exact Or.inr (Or.inr ⟨cap, r, h0, h8, h5, h6, h7⟩)
    · subst h8
      exact Or.inr (Or.inl ⟨r, h0, h6, h7⟩)
theorem nI_addI (i j : Nat) : nI i + nI j = nI (i + j) := by
  unfold nI
  exact (Int32.ofNat_add i j).symm
theorem gFz.le {E : gV} {H : Heap} (h : gFz E H) : E.2.1.heap.size ≤ H.size := by
  rcases Nat.lt_or_ge H.size E.2.1.heap.size with q | q
  · have h1 := h _ q
    rw [Array.getElem?_eq_none (Nat.le_refl _), Array.getElem?_eq_getElem q] at h1
    cases h1
  · exact q
theorem nI_sub1 (n : Nat) : nI (n + 1) - nI n = 1 := by
  rw [← nI_1 n]
  show nI n + 1 - nI n = 1
  rw [Int32.add_comm, Int32.add_sub_cancel]
theorem nI_half {n : Nat} (h : n ≤ 1000) : nI n >>> ((1 : Int32) &&& 31) = nI (n / 2) := by
  have hall : ∀ k : Fin 1001, nI k.val >>> ((1 : Int32) &&& 31) = nI (k.val / 2) := by decide +kernel
  exact hall ⟨n, by omega⟩
theorem g_puts {p : Program} {l : Launch} {e : Env} {R : Room} {s : State} {m : MethodId} {args : Array Value} {below : List Frame} {meth : Method} {c : Code} {H H0 : Heap} {locs : List Loc} {cells slots : Nat} {Q : State → Prop} {E : gV} {own ref : String} {cc : ByteArray} {nL : Nat} {rest : List Value} {pc : Nat} {ls : Array Slot} {a : Nat} {A : Nat → Prop} {ci : Nat} {fs : List Value} {C : String} {T : u_T} {N index : Nat} (hC : gC l E p s m meth c own cc nL) (hE : gA E a (.inr (ci, fs)) H) (hS : va_S A H0 H locs) (hA : A a) (hc : vwCl[ci]? = some (C, T, N)) (hu : ∀ w ∈ u_ws C T N, w ∈ lw_tbl) (ty0 : Nat → FieldType) (hty : ∀ k, k < N → parseFieldDescriptor (T k).2.2.1 = some (ty0 k)) (hnm : ∀ a, a < N → ∀ b, b < N → a ≠ b → (T a).2.1 ≠ (T b).2.1) (k : Nat) (hk : k < N)
    (hl : Cond.fieldLink own index ref (T k).2.1 (T k).2.2.1 ∈ lw_tbl) (hsm : Cond.sameField ref (T k).1 (T k).2.1 (T k).2.2.1 ∈ lw_tbl) (hfin : (T k).2.2.2 = false) {ty : FieldType} {v : Value} (hd : parseFieldDescriptor (T k).2.2.1 = some ty) (hn : narrow ty v = v) (hfit : fits ty v = true) (hlt : k < fs.length) (hdg : decode cc pc = .ok (.putfield index, 3))
    (kk : ∀ (H1 : Heap) (locs1 : List Loc), gA E a (.inr (ci, fs.set k v)) H1 → H1.size = H.size → (∀ q : Nat, q ≠ a → H1[q]? = H[q]?) → va_S A H0 H1 locs1 → W p l e R s m args below meth c H1 locs1 cells slots Q (F0 m (pc + 3) ls rest)) : W p l e R s m args below meth c H locs cells slots Q (F0 m pc ls (v :: .ref a :: rest)) := by
  have hts : ∀ w ∈ lw_tbl.filter goodWord, w.before args s = true := fun w hw => gw hC.1 hC.2.1 (List.mem_filter.mp hw).1 (List.mem_filter.mp hw).2
  have hin : ∀ w ∈ u_ws C T N, w ∈ lw_tbl.filter goodWord := fun w hw => List.mem_filter.mpr ⟨hu w hw, by obtain ⟨j, -, rfl⟩ := List.mem_map.mp hw; unfold u_lay; split <;> rfl⟩
  have hown := hC.2.2.2.2.2.1
  have hK := gK hC.1 hC.2.1
  have hlink : (Cond.fieldLink own index ref (T k).2.1 (T k).2.2.1).before args s = true := gw hC.1 hC.2.1 hl rfl
  have hap := va_apart (own := own) hts hin ty0 hty hnm hK hc
  obtain ⟨r, h1, cell, q1, q2, q3, q4⟩ := hE
  have hr : r = (C, T, N) := Option.some.inj (h1.symm.trans hc)
  subst hr
  obtain ⟨hSl, hfc, kC, hkC, hkind⟩ := hK.1 ci _ hc
  obtain ⟨cf, kf, fi, f, hi, hsl⟩ := hSl k hk
  have hst := (u_facts hfc hkC (u_lays hts hin hk) hi).1
  have hlay := hts _ (hin _ (u_in_lay hk))
  unfold u_lay at hlay
  rw [if_neg (by rw [hfin]; decide)] at hlay
  have h6 := u_store hfc hkC hkind hlay hi hd hn hfit
  refine W.putK hC.2.2.1 hC.2.2.2.1 (f := f) ⟨hown, hlink, ⟨_, _, _, u_same (args := args) (gw hC.1 hC.2.1 hsm rfl) _ hi⟩, hst⟩ (by rw [q2]; exact h6) q1 q3 (by rw [hsl]; exact k2_hasslot (q4 k hk)) rfl rfl hdg fun H' e1 e2 e3 => ?_
  rw [hsl] at e1 ⊢
  exact kk H' _ ⟨_, hc, t_OB.to (V := updV (vp_V fs) k v) ⟨_, e1, q2, q3, t_set q4 hap hk v⟩ (fun j _ => vp_updV_set hlt v j)⟩ e2 e3 (hS.put e2 e3 hA)
theorem g_oinit {p : Program} {l : Launch} {e : Env} {R : Room} {s : State} {m : MethodId} {args : Array Value} {below : List Frame} {meth : Method} {c : Code} {H : Heap} {locs : List Loc} {cells slots : Nat} {Q : State → Prop} {E : gV} {own : String} {cc : ByteArray} {nL : Nat} {pc : Nat} {ls : Array Slot} {b index : Nat} (hC : gC l E p s m meth c own cc nL) (hls : ls.size = nL) (hk : Cond.methodLink own index objectInit ∈ lw_tbl) (hdg : decode cc pc = .ok (.invokespecial index, 3)) (hf : 1 ≤ R.frames) (hr : 12 ≤ R.locals)
    (kk : W p l e R s m args below meth c H locs cells slots Q (F0 m (pc + 3) ls [])) : W p l e R s m args below meth c H locs cells slots Q (F0 m pc ls [.ref b]) :=
  W.objInit hC.2.2.1 hC.2.2.2.1 hC.2.2.2.2.2.1 (gw hC.1 hC.2.1 hk rfl) (gw hC.1 hC.2.1 k_70 rfl) (gw hC.1 hC.2.1 k_71 rfl) rfl (hls.trans hC.2.2.2.2.1.symm) rfl hdg (by omega) (by simp; omega) (W.eq (g2 := F0 m (pc + 3) ls []) rfl kk)
theorem mn_le {n c2 : Nat} (h : n ≤ c2) (hc : c2 < 2 ^ 31) : (if nI c2 < nI n then nI c2 else nI n) = nI n := by
  rcases Nat.lt_or_eq_of_le h with z | z
  · exact if_neg (fun y => absurd ((nI_ltI (by omega) (by omega)).mp y) (by omega))
  · subst z
    exact ite_self _
theorem mx_1 {k : Nat} (h : k ≤ 1000) : (if (1 : Int32) < nI k then nI k else 1) = nI (max 1 k) := by
  show (if nI 1 < nI k then nI k else nI 1) = nI (max 1 k)
  rcases Nat.lt_or_ge 1 k with z | z
  · rw [if_pos (nI_lt z (by omega)), Nat.max_eq_right (by omega)]
  · rw [if_neg (fun y => absurd ((nI_ltI (by omega) (by omega)).mp y) (by omega)), Nat.max_eq_left (by omega)]
theorem cpy_in {f g : Nat → Option Nat} {n i : Nat} (h : i < n) : va_cpy f g 0 0 n i = f i := by
  unfold va_cpy
  rw [if_pos ⟨Nat.zero_le _, by omega⟩]
  congr 1
  omega
theorem up_row {f : Nat → Option Nat} {row : Nat → Nat} {n x i : Nat} (hf : ∀ i, i < n → f i = some (row i)) (hi : i < n + 1) : va_up f n (some x) i = some ((fun i => if i = n then x else row i) i) := by
  show (if i = n then some x else f i) = some (if i = n then x else row i)
  by_cases h : i = n
  · rw [if_pos h, if_pos h]
  · rw [if_neg h, if_neg h, hf i (by omega)]
theorem gL.reset {E : gV} {a t n : Nat} {row : Nat → Nat} {H H1 : Heap} {mc : Int32} (h : gL E a t n row H) (hL : gA E a (.inr (0, [.int mc, .ref t, .int (nI n)])) H1) (ht : ∀ q : Nat, (0 < n ∧ q = t) → H1[q]? = H[q]?) : gL E a t n row H1 := by
  obtain ⟨mc0, h1, h2, h3⟩ := h
  refine ⟨mc, hL, h2, fun h0 => ?_⟩
  obtain ⟨cap, r, h4, h5, h6, h7⟩ := h3 h0
  exact ⟨cap, r, h4, h5, h6.kept (ht t ⟨h0, rfl⟩), h7⟩
