/-! HEAP RULES: a cell is 'gA E a x H': the cell of the address a is x (an object: its class's place in vwCl and its fields; an array: its class, its length, its row) -/
def gA (E : gV) (a : Nat) (x : va_E) (H : Heap) : Prop := va_at E.2.2.1 vwCl (a, x) H
theorem gA.kept {E : gV} {a : Nat} {x : va_E} {H H1 : Heap} (h : gA E a x H) (hq : H1[a]? = H[a]?) : gA E a x H1 := va_at.kept (q := (a, x)) h hq
theorem gA.lt {E : gV} {a : Nat} {x : va_E} {H : Heap} (h : gA E a x H) : a < H.size := va_at.lt (q := (a, x)) h
theorem gA.one {E : gV} {a : Nat} {x : va_E} {H : Heap} (h : gA E a x H) : va_P E.2.2.1 vwCl [(a, x)] H := fun k q hk => by
  cases k with
  | zero => cases hk; exact h
  | succ k => cases hk
/-- rows alike below the length: one cell -/
theorem gA.row {E : gV} {a n : Nat} {cA : ClassId} {f g : Nat → Int32} {H : Heap} (h : gA E a (.inl (cA, n, .inl f)) H) (hfg : ∀ j, j < n → f j = g j) : gA E a (.inl (cA, n, .inl g)) H := by
  have h1 : H[a]? = some (vp_cell cA (n, .inl f)) := h
  show H[a]? = some (vp_cell cA (n, .inl g))
  rw [h1, vp_cell_i, vp_cell_i]
  have : arrV cA n (fun j => Value.int (f j)) = arrV cA n (fun j => Value.int (g j)) := by
    unfold arrV
    congr 1
    apply Array.ext
    · simp
    · intro i h1 h2
      simp at h1 ⊢
      exact hfg i h1
  rw [this]
section HEAPR
variable {p : Program} {l : Launch} {e : Env} {R : Room} {s : State} {m : MethodId} {args : Array Value} {below : List Frame} {meth : Method} {c : Code} {H : Heap} {locs : List Loc} {cells slots : Nat} {Q : State → Prop}
variable {E : gV} {own : String} {cc : ByteArray} {nL : Nat} {rest : List Value} {pc : Nat} {ls : Array Slot} {a : Nat} {A : Nat → Prop} {H0 : Heap}
theorem g_get {ci : Nat} {fs : List Value} {C : String} {T : u_T} {N index : Nat} (hC : gC l E p s m meth c own cc nL) (hE : gA E a (.inr (ci, fs)) H) (hc : vwCl[ci]? = some (C, T, N)) (hu : ∀ w ∈ u_ws C T N, w ∈ lw_tbl) (k : Nat) (hk : k < N)
    (hl : Cond.fieldLink own index (T k).1 (T k).2.1 (T k).2.2.1 ∈ lw_tbl) {v : Value} (hv : fs[k]? = some v) (hdg : decode cc pc = .ok (.getfield index, 3))
    (kk : W p l e R s m args below meth c H locs cells slots Q (F0 m (pc + 3) ls (v :: rest))) : W p l e R s m args below meth c H locs cells slots Q (F0 m pc ls (.ref a :: rest)) :=
  va_get (D := E.2.2.1) (Ts := lw_tbl.filter goodWord) hC.2.2.1 hC.2.2.2.1 (fun w hw => gw hC.1 hC.2.1 (List.mem_filter.mp hw).1 (List.mem_filter.mp hw).2)
    (fun w hw => List.mem_filter.mpr ⟨hu w hw, by obtain ⟨j, -, rfl⟩ := List.mem_map.mp hw; unfold u_lay; split <;> rfl⟩) hC.2.2.2.2.2.1 (gK hC.1 hC.2.1) hE.one 0 rfl hc k hk (gw hC.1 hC.2.1 hl rfl) (fun _ h => h) hv hdg kk
theorem g_gets {ci : Nat} {fs : List Value} {C ref : String} {T : u_T} {N index : Nat} (hC : gC l E p s m meth c own cc nL) (hE : gA E a (.inr (ci, fs)) H) (hc : vwCl[ci]? = some (C, T, N)) (hu : ∀ w ∈ u_ws C T N, w ∈ lw_tbl) (k : Nat) (hk : k < N)
    (hl : Cond.fieldLink own index ref (T k).2.1 (T k).2.2.1 ∈ lw_tbl) (hsm : Cond.sameField ref (T k).1 (T k).2.1 (T k).2.2.1 ∈ lw_tbl) {v : Value} (hv : fs[k]? = some v) (hdg : decode cc pc = .ok (.getfield index, 3))
    (kk : W p l e R s m args below meth c H locs cells slots Q (F0 m (pc + 3) ls (v :: rest))) : W p l e R s m args below meth c H locs cells slots Q (F0 m pc ls (.ref a :: rest)) :=
  va_get (D := E.2.2.1) (Ts := lw_tbl.filter goodWord) hC.2.2.1 hC.2.2.2.1 (fun w hw => gw hC.1 hC.2.1 (List.mem_filter.mp hw).1 (List.mem_filter.mp hw).2)
    (fun w hw => List.mem_filter.mpr ⟨hu w hw, by obtain ⟨j, -, rfl⟩ := List.mem_map.mp hw; unfold u_lay; split <;> rfl⟩) hC.2.2.2.2.2.1 (gK hC.1 hC.2.1) hE.one 0 rfl hc k hk (gw hC.1 hC.2.1 hl rfl) (fun x9 h9 => u_same (args := args) (gw hC.1 hC.2.1 hsm rfl) x9 h9) hv hdg kk
theorem g_iald {n j : Nat} {f : Nat → Int32} (hC : gC l E p s m meth c own cc nL) (hE : gA E a (.inl (E.2.2.2 0, n, .inl f)) H) (hj : j < n) (hn : n < 2 ^ 31) (hdg : decode cc pc = .ok (.iaload, 1))
    (kk : W p l e R s m args below meth c H locs cells slots Q (F0 m (pc + 1) ls (.int (f j) :: rest))) : W p l e R s m args below meth c H locs cells slots Q (F0 m pc ls (.int (nI j) :: .ref a :: rest)) :=
  va_iald hC.2.2.1 hC.2.2.2.1 (gK hC.1 hC.2.1) hE.one 0 0 rfl rfl (vp_in_nI hj hn) hdg (by rw [nI_clamp (by omega)]; exact kk)
theorem g_zald {n j : Nat} {f : Nat → Int32} (hC : gC l E p s m meth c own cc nL) (hE : gA E a (.inl (E.2.2.2 1, n, .inl f)) H) (hj : j < n) (hn : n < 2 ^ 31) (hdg : decode cc pc = .ok (.baload, 1))
    (kk : W p l e R s m args below meth c H locs cells slots Q (F0 m (pc + 1) ls (.int (f j) :: rest))) : W p l e R s m args below meth c H locs cells slots Q (F0 m pc ls (.int (nI j) :: .ref a :: rest)) :=
  va_zald hC.2.2.1 hC.2.2.2.1 (gK hC.1 hC.2.1) hE.one 0 1 rfl rfl (vp_in_nI hj hn) hdg (by rw [nI_clamp (by omega)]; exact kk)
theorem g_aald {n j : Nat} {f : Nat → Option Nat} (hC : gC l E p s m meth c own cc nL) (hE : gA E a (.inl (E.2.2.2 3, n, .inr (.inr (.inr (.inr f))))) H) (hj : j < n) (hn : n < 2 ^ 31) (hdg : decode cc pc = .ok (.aaload, 1))
    (kk : W p l e R s m args below meth c H locs cells slots Q (F0 m (pc + 1) ls (va_rf (f j) :: rest))) : W p l e R s m args below meth c H locs cells slots Q (F0 m pc ls (.int (nI j) :: .ref a :: rest)) :=
  va_aldq (C := "java/lang/Object") hC.2.2.1 hC.2.2.2.1 (gK hC.1 hC.2.1) hE.one 0 3 rfl rfl (vp_in_nI hj hn) hdg (by rw [nI_clamp (by omega)]; exact kk)
theorem g_alen {n : Nat} {x : (Nat → Int32) ⊕ (Nat → Int64) ⊕ (Nat → UInt32) ⊕ (Nat → UInt64) ⊕ (Nat → Option Nat)} (t : Nat) {ty : FieldType} (hC : gC l E p s m meth c own cc nL) (hE : gA E a (.inl (E.2.2.2 t, n, x)) H) (ht : (gT E.2.2.2)[t]? = some (E.2.2.2 t, ty)) (hdg : decode cc pc = .ok (.arraylength, 1))
    (kk : W p l e R s m args below meth c H locs cells slots Q (F0 m (pc + 1) ls (.int (nI n) :: rest))) : W p l e R s m args below meth c H locs cells slots Q (F0 m pc ls (.ref a :: rest)) :=
  va_alen (v := nI n) hC.2.2.1 hC.2.2.2.1 (gK hC.1 hC.2.1) hE.one 0 t rfl ht rfl hdg kk
theorem g_put {ci : Nat} {fs : List Value} {C : String} {T : u_T} {N index : Nat} (hC : gC l E p s m meth c own cc nL) (hE : gA E a (.inr (ci, fs)) H) (hS : va_S A H0 H locs) (hA : A a) (hc : vwCl[ci]? = some (C, T, N)) (hu : ∀ w ∈ u_ws C T N, w ∈ lw_tbl) (ty0 : Nat → FieldType) (hty : ∀ k, k < N → parseFieldDescriptor (T k).2.2.1 = some (ty0 k)) (hnm : ∀ a, a < N → ∀ b, b < N → a ≠ b → (T a).2.1 ≠ (T b).2.1) (k : Nat) (hk : k < N)
    (hl : Cond.fieldLink own index (T k).1 (T k).2.1 (T k).2.2.1 ∈ lw_tbl) (hfin : (T k).2.2.2 = false ∨ ((T k).2.2.2 = true ∧ meth.name = "<init>" ∧ (T k).1 = own)) {ty : FieldType} {v : Value} (hd : parseFieldDescriptor (T k).2.2.1 = some ty) (hn : narrow ty v = v) (hfit : fits ty v = true) (hlt : k < fs.length) (hdg : decode cc pc = .ok (.putfield index, 3))
    (kk : ∀ (H1 : Heap) (locs1 : List Loc), gA E a (.inr (ci, fs.set k v)) H1 → H1.size = H.size → (∀ q : Nat, q ≠ a → H1[q]? = H[q]?) → va_S A H0 H1 locs1 → W p l e R s m args below meth c H1 locs1 cells slots Q (F0 m (pc + 3) ls rest)) : W p l e R s m args below meth c H locs cells slots Q (F0 m pc ls (v :: .ref a :: rest)) := by
  have hts : ∀ w ∈ lw_tbl.filter goodWord, w.before args s = true := fun w hw => gw hC.1 hC.2.1 (List.mem_filter.mp hw).1 (List.mem_filter.mp hw).2
  have hin : ∀ w ∈ u_ws C T N, w ∈ lw_tbl.filter goodWord := fun w hw => List.mem_filter.mpr ⟨hu w hw, by obtain ⟨j, -, rfl⟩ := List.mem_map.mp hw; unfold u_lay; split <;> rfl⟩
  have hown := hC.2.2.2.2.2.1
  have hK := gK hC.1 hC.2.1
  have hlink : (Cond.fieldLink own index (T k).1 (T k).2.1 (T k).2.2.1).before args s = true := gw hC.1 hC.2.1 hl rfl
  have hap := va_apart (own := own) hts hin ty0 hty hnm hK hc
  obtain ⟨r, h1, cell, q1, q2, q3, q4⟩ := hE
  have hr : r = (C, T, N) := Option.some.inj (h1.symm.trans hc)
  subst hr
  obtain ⟨hSl, hfc, kC, hkC, hkind⟩ := hK.1 ci _ hc
  obtain ⟨cf, kf, fi, f, hi, hsl⟩ := hSl k hk
  have hst := (u_facts hfc hkC (u_lays hts hin hk) hi).1
  rcases hfin with hfin | ⟨hfin, hin2, hdecl⟩
  · have hlay := hts _ (hin _ (u_in_lay hk))
    unfold u_lay at hlay
    rw [if_neg (by rw [hfin]; decide)] at hlay
    have h6 := u_store hfc hkC hkind hlay hi hd hn hfit
    refine W.putK hC.2.2.1 hC.2.2.2.1 (f := f) ⟨hown, hlink, ⟨_, _, _, hi⟩, hst⟩ (by rw [q2]; exact h6) q1 q3 (by rw [hsl]; exact k2_hasslot (q4 k hk)) rfl rfl hdg fun H' e1 e2 e3 => ?_
    rw [hsl] at e1 ⊢
    exact kk H' _ ⟨_, hc, t_OB.to (V := updV (vp_V fs) k v) ⟨_, e1, q2, q3, t_set q4 hap hk v⟩ (fun j _ => vp_updV_set hlt v j)⟩ e2 e3 (hS.put e2 e3 hA)
  · have hlay := hts _ (hin _ (u_in_lay hk))
    unfold u_lay at hlay
    rw [if_pos hfin] at hlay
    have hcf : m.cls = cf := by
      obtain ⟨_, _, c', _, _, _, -, -, hf', -, -, -, hown2, -⟩ := Cond.laysFinal_spec hlay
      have e1 : c' = cf := by have := hi.symm.trans hf'; simp at this; exact this.1.symm
      rw [hdecl] at hown2
      rw [← e1]; exact Option.some.inj (hown.symm.trans hown2)
    have h6 := u_fits hfc hkC hkind (Or.inr hlay) hi hd hn hfit
    refine W.putFinK hC.2.2.1 hC.2.2.2.1 hown hlink hi hst hcf hin2 (by rw [q2]; exact h6) q1 q3 (by rw [hsl]; exact k2_hasslot (q4 k hk)) rfl rfl hdg fun H' e1 e2 e3 => ?_
    rw [hsl] at e1 ⊢
    exact kk H' _ ⟨_, hc, t_OB.to (V := updV (vp_V fs) k v) ⟨_, e1, q2, q3, t_set q4 hap hk v⟩ (fun j _ => vp_updV_set hlt v j)⟩ e2 e3 (hS.put e2 e3 hA)
theorem g_iast {n j : Nat} {x : Int32} {f : Nat → Int32} (hC : gC l E p s m meth c own cc nL) (hE : gA E a (.inl (E.2.2.2 0, n, .inl f)) H) (hS : va_S A H0 H locs) (hA : A a) (hj : j < n) (hn : n < 2 ^ 31) (hdg : decode cc pc = .ok (.iastore, 1))
    (kk : ∀ (H1 : Heap) (locs1 : List Loc), gA E a (.inl (E.2.2.2 0, n, .inl (upd f j x))) H1 → H1.size = H.size → (∀ q : Nat, q ≠ a → H1[q]? = H[q]?) → va_S A H0 H1 locs1 → W p l e R s m args below meth c H1 locs1 cells slots Q (F0 m (pc + 1) ls rest)) : W p l e R s m args below meth c H locs cells slots Q (F0 m pc ls (.int x :: .int (nI j) :: .ref a :: rest)) := by
  have hin : vp_in (nI j) n := vp_in_nI hj hn
  refine W.iast hC.2.2.1 hC.2.2.2.1 hE (((gK hC.1 hC.2.1).2 0 _ rfl).1 n (fun j => .int (f j))) (fun q => by cases q) (by show ¬ (nI j < 0 ∨ (arrV _ _ _).slots.size ≤ _); rw [arrV_size]; exact hin) rfl rfl hdg fun H1 e z oq => ?_
  refine kk H1 _ ?_ z oq (hS.put z oq hA)
  show H1[a]? = some (vp_cell _ _)
  rw [e]
  rw [vp_cell_i, vp_cell_i, arrV_store, nI_clamp (by omega)]
  congr 2
  funext q
  by_cases hq : q = j
  · subst hq
    simp [updV, upd]
  · simp [updV, upd, hq]
theorem g_zast {n j : Nat} {x : Int32} {f : Nat → Int32} (hC : gC l E p s m meth c own cc nL) (hE : gA E a (.inl (E.2.2.2 1, n, .inl f)) H) (hS : va_S A H0 H locs) (hA : A a) (hj : j < n) (hn : n < 2 ^ 31) (hx : narrow .boolean (.int x) = .int x) (hdg : decode cc pc = .ok (.bastore, 1))
    (kk : ∀ (H1 : Heap) (locs1 : List Loc), gA E a (.inl (E.2.2.2 1, n, .inl (upd f j x))) H1 → H1.size = H.size → (∀ q : Nat, q ≠ a → H1[q]? = H[q]?) → va_S A H0 H1 locs1 → W p l e R s m args below meth c H1 locs1 cells slots Q (F0 m (pc + 1) ls rest)) : W p l e R s m args below meth c H locs cells slots Q (F0 m pc ls (.int x :: .int (nI j) :: .ref a :: rest)) := by
  have hin : vp_in (nI j) n := vp_in_nI hj hn
  refine W.zast hC.2.2.1 hC.2.2.2.1 hE (((gK hC.1 hC.2.1).2 1 _ rfl).1 n (fun j => .int (f j))) (fun q => by cases q) (by show ¬ (nI j < 0 ∨ (arrV _ _ _).slots.size ≤ _); rw [arrV_size]; exact hin) rfl rfl hdg fun H1 e z oq => ?_
  refine kk H1 _ ?_ z oq (hS.put z oq hA)
  show H1[a]? = some (vp_cell _ _)
  rw [e]
  rw [hx, vp_cell_i, vp_cell_i, arrV_store, nI_clamp (by omega)]
  congr 2
  funext q
  by_cases hq : q = j
  · subst hq
    simp [updV, upd]
  · simp [updV, upd, hq]
theorem g_new {C : String} {T : u_T} {N ci index : Nat} (hC : gC l E p s m meth c own cc nL) (hc : vwCl[ci]? = some (C, T, N)) (hu : ∀ w ∈ u_ws C T N, w ∈ lw_tbl) (ty : Nat → FieldType) (hty : ∀ k, k < N → parseFieldDescriptor (T k).2.2.1 = some (ty k)) (hcl : Cond.classLink own index C ∈ lw_tbl) (hinst : Cond.instantiable C N ∈ lw_tbl) (hini : Cond.initialized C ∈ lw_tbl)
    (hS : va_S A H0 H locs) (hA : ∀ q, H0.size ≤ q → A q) {fs : List Value} (hfs : ∀ j, j < N → defaultValue (ty j) = vp_V fs j) (hcells : cells + 1 ≤ R.cells) (hslots : slots + N ≤ R.slots) (hdg : decode cc pc = .ok (.new index, 3))
    (kk : ∀ (H1 : Heap), gA E H.size (.inr (ci, fs)) H1 → H1.size = H.size + 1 → (∀ q : Nat, q < H.size → H1[q]? = H[q]?) → va_S A H0 H1 locs → W p l e R s m args below meth c H1 locs (cells + 1) (slots + N) Q (F0 m (pc + 3) ls (.ref H.size :: rest))) : W p l e R s m args below meth c H locs cells slots Q (F0 m pc ls rest) := by
  have hts : ∀ w ∈ lw_tbl.filter goodWord, w.before args s = true := fun w hw => gw hC.1 hC.2.1 (List.mem_filter.mp hw).1 (List.mem_filter.mp hw).2
  have hin : ∀ w ∈ u_ws C T N, w ∈ lw_tbl.filter goodWord := fun w hw => List.mem_filter.mpr ⟨hu w hw, by obtain ⟨j, -, rfl⟩ := List.mem_map.mp hw; unfold u_lay; split <;> rfl⟩
  have hKn := (gK hC.1 hC.2.1).1 ci _ hc
  refine W.newcK hC.2.2.1 hC.2.2.2.1 hC.2.2.2.2.2.1 (gw hC.1 hC.2.1 hcl rfl) (gw hC.1 hC.2.1 hinst rfl) (gw hC.1 hC.2.1 hini rfl) rfl hdg hcells hslots hKn.2.1 rfl fun H1 kC hkC e1 z1 o1 => ?_
  exact kk H1 ⟨_, hc, (u_born ty hts hin hKn hkC e1 hty).to hfs⟩ z1 o1 ⟨Nat.le_trans hS.1 (by omega), fun x h1 h2 => (o1 x (Nat.lt_of_lt_of_le h1 hS.1)).trans (hS.2.1 x h1 h2), hS.2.2⟩
theorem g_newa (t : Nat) {atype : ArrayType} {n : Nat} {ty : FieldType} {a0 : vp_A} (hC : gC l E p s m meth c own cc nL) (harr : Cond.arrayClass (newarray.typeOf atype) ∈ lw_tbl) (hty : newarray.typeOf atype = ty) (ht : (gT E.2.2.2)[t]? = some (E.2.2.2 t, ty)) (hob : ∀ C, ty ≠ .object C)
    (ha : ∀ cA : ClassId, vp_cell cA a0 = arrV cA n (fun _ => defaultValue ty)) (hn : n < 2 ^ 31) (hbytes : n * componentBytes ty ≤ 536870912)
    (hS : va_S A H0 H locs) (hA : ∀ q, H0.size ≤ q → A q) (hcells : cells + 1 ≤ R.cells) (hslots : slots + n ≤ R.slots) (hdg : decode cc pc = .ok (.newarray atype, 2))
    (kk : ∀ (H1 : Heap), gA E H.size (.inl (E.2.2.2 t, a0)) H1 → H1.size = H.size + 1 → (∀ q : Nat, q < H.size → H1[q]? = H[q]?) → va_S A H0 H1 locs → W p l e R s m args below meth c H1 locs (cells + 1) (slots + n) Q (F0 m (pc + 2) ls (.ref H.size :: rest))) : W p l e R s m args below meth c H locs cells slots Q (F0 m pc ls (.int (nI n) :: rest)) := by
  subst hty
  refine va_newaK hC.2.2.1 hC.2.2.2.1 (gw hC.1 hC.2.1 harr rfl) rfl hdg rfl (nI_pos hn) (nI_clamp hn) hbytes hcells hslots rfl fun H1 cA e1 z1 o1 hAr hNm => ?_
  have hra := ((gK hC.1 hC.2.1).2 t _ ht).2
  have hcA : cA = E.2.2.2 t := by
    have h2 : s.vm.findClass ("[" ++ (newarray.typeOf atype).toString) = some (E.2.2.2 t) := by
      cases atype <;> exact hra
    exact Option.some.inj (hNm.symm.trans h2)
  subst hcA
  exact kk H1 (show H1[H.size]? = some (vp_cell _ _) by rw [ha]; exact e1) z1 o1 ⟨Nat.le_trans hS.1 (by omega), fun x h1 h2 => (o1 x (Nat.lt_of_lt_of_le h1 hS.1)).trans (hS.2.1 x h1 h2), hS.2.2⟩
end HEAPR
theorem u0_in : ∀ w ∈ u_ws RX0 TX0 16, w ∈ lw_tbl := by decide +kernel
theorem u1_in : ∀ w ∈ u_ws RX1 TX1 6, w ∈ lw_tbl := by decide +kernel
theorem u2_in : ∀ w ∈ u_ws RX2 TX2 3, w ∈ lw_tbl := by decide +kernel
theorem u3_in : ∀ w ∈ u_ws RX3 TX3 7, w ∈ lw_tbl := by decide +kernel
theorem u4_in : ∀ w ∈ u_ws RX4 TX4 6, w ∈ lw_tbl := by decide +kernel
theorem uJ_in : ∀ w ∈ u_ws RJx4a65c TJx4a65c 3, w ∈ lw_tbl := by decide +kernel
