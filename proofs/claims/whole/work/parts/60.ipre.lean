/-! THE LAW'S INVARIANT -/
def lB (β : Nat → Nat) (o1 o2 : Nat) : Nat → Prop := fun q => (∃ k, k < 20 ∧ q = β k) ∨ q = o1 ∨ q = o2
def lS (E : gV) (β : Nat → Nat) (o1 o2 : Nat) : Prop := o1 ≠ o2 ∧ (∀ k, k < 20 → β k ≠ o1 ∧ β k ≠ o2 ∧ E.2.1.heap.size ≤ β k) ∧ E.2.1.heap.size ≤ o1 ∧ E.2.1.heap.size ≤ o2
abbrev gO1 (E : gV) (o : Nat) (f : Nat → Int64) (H : Heap) : Prop := gA E o (.inl (E.2.2.2 4, 1, .inr (.inl f))) H
abbrev gO2 (E : gV) (o : Nat) (f : Nat → UInt64) (H : Heap) : Prop := gA E o (.inl (E.2.2.2 5, 1, .inr (.inr (.inr (.inl f))))) H
/-- after n calls -/
def LI (E : gV) (β : Nat → Nat) (a0 o1 o2 n : Nat) (H : Heap) : Prop := ∃ (α : Nat → Nat → Nat) (ξ : F2) (M : Nat → F2) (N : Nat → Nat) (μ : F2) (K : Nat → Nat) (dp th : Int32) (f1 : Nat → Int64) (f2 : Nat → UInt64),
  RB E (lB β o1 o2) α ξ M N H ∧ α 3 0 = a0 ∧ RM E β μ K dp th H ∧ gO1 E o1 f1 H ∧ gO2 E o2 f2 H ∧ LK ξ (M 0) N μ K ∧ N 2 ≤ n
section LIR
variable {E : gV} {β : Nat → Nat} {a0 o1 o2 n : Nat} {α : Nat → Nat → Nat} {ξ : F2} {M : Nat → F2} {N : Nat → Nat} {μ : F2} {K : Nat → Nat} {dp th : Int32} {H H1 : Heap}
theorem lS.ge (h : lS E β o1 o2) {q : Nat} (hq : lB β o1 o2 q) : E.2.1.heap.size ≤ q := by
  rcases hq with ⟨k, hk, rfl⟩ | rfl | rfl
  · exact (h.2.1 k hk).2.2
  · exact h.2.2.1
  · exact h.2.2.2
theorem RM.lt (h : RM E β μ K dp th H) : ∀ k, k < 20 → β k < H.size := fun k hk => by
  by_cases c : k = 19
  · subst c
    exact h.obj.lt
  · exact (h.2.1 k (by omega)).lt
theorem RB.keepB {B : Nat → Prop} (h : RB E B α ξ M N H) (hB : ∀ q, B q → E.2.1.heap.size ≤ q) (hz : H.size ≤ H1.size) (hq : ∀ q : Nat, q < H.size → ¬ B q → H1[q]? = H[q]?) : RB E B α ξ M N H1 := by
  have hs : ∀ {k i : Nat}, xV N k i → H1[α k i]? = H[α k i]? := fun {k i} hv => hq _ (h.1.lt hv) (h.2.1 k i hv)
  obtain ⟨h, hb1, hb2⟩ := h
  exact ⟨⟨h.sig.kept (hs (xV_3 (by omega))), fun w hw => (h.mom w hw).kept (hs (xV_3 (by omega))), fun w hw k hk => (h.row w hw k hk rfl rfl).kept (hs (xV_3 (by omega))), fun k hk => (h.list k hk).keptL (hs (xV_3 (by omega))) (fun h0 => hs (Or.inr ⟨rfl, Or.inr ⟨k, hk, rfl, h0⟩⟩)), fun i hi => (h.pow hi).kept (hs (Or.inl ⟨by omega, hi⟩)), fun i hi => (h.deed hi).kept (hs (Or.inl ⟨by omega, hi⟩)), fun i hi => (h.pap hi).kept (hs (Or.inl ⟨by omega, hi⟩)), h.tag, h.ge, fun q hz => (hq q (Nat.lt_of_lt_of_le hz (gFz.le h.frz)) (fun z => by have := hB q z; omega)).trans (h.frz q hz), h.inv⟩, hb1, fun q hb => Nat.lt_of_lt_of_le (hb2 q hb) hz⟩
/-- behind the class's call: what is not its own -/
theorem lS.x (h : lS E β o1 o2) (hR : RM E β μ K dp th H) {f2 : Nat → UInt64} (h2 : gO2 E o2 f2 H) (hk : ∀ q : Nat, q < H.size → ¬ (gAB E (lB β o1 o2) q ∨ q = o1) → H1[q]? = H[q]?) : RM E β μ K dp th H1 ∧ gO2 E o2 f2 H1 :=
  ⟨hR.kept (fun k hk2 => hk _ (hR.lt k hk2) (fun z => z.elim (fun z => z.2 (Or.inl ⟨k, hk2, rfl⟩)) (h.2.1 k hk2).1)), h2.kept (hk _ h2.lt (fun z => z.elim (fun z => z.2 (Or.inr (Or.inr rfl))) (fun z => h.1 z.symm)))⟩
theorem lS.x2 (h : lS E β o1 o2) (hR : RM E β μ K dp th H) {f1 : Nat → Int64} (h1 : gO1 E o1 f1 H) (hk : ∀ q : Nat, q < H.size → ¬ (gAB E (lB β o1 o2) q ∨ q = o2) → H1[q]? = H[q]?) : RM E β μ K dp th H1 ∧ gO1 E o1 f1 H1 :=
  ⟨hR.kept (fun k hk2 => hk _ (hR.lt k hk2) (fun z => z.elim (fun z => z.2 (Or.inl ⟨k, hk2, rfl⟩)) (h.2.1 k hk2).2.1)), h1.kept (hk _ h1.lt (fun z => z.elim (fun z => z.2 (Or.inr (Or.inl rfl))) h.1))⟩
/-- behind the model's call -/
theorem lS.m (h : lS E β o1 o2) (hRB : RB E (lB β o1 o2) α ξ M N H) {f1 : Nat → Int64} {f2 : Nat → UInt64} (h1 : gO1 E o1 f1 H) (h2 : gO2 E o2 f2 H) (hz : H.size ≤ H1.size) (hk : ∀ q : Nat, q < H.size → ¬ mA β q → H1[q]? = H[q]?) : RB E (lB β o1 o2) α ξ M N H1 ∧ gO1 E o1 f1 H1 ∧ gO2 E o2 f2 H1 :=
  ⟨hRB.keepB (fun q hq => h.ge hq) hz (fun q hq hb => hk q hq (fun z => hb (Or.inl z))), h1.kept (hk _ h1.lt (fun ⟨k, hk2, e⟩ => (h.2.1 k hk2).1 e.symm)), h2.kept (hk _ h2.lt (fun ⟨k, hk2, e⟩ => (h.2.1 k hk2).2.1 e.symm))⟩
/-- both calls are made -/
theorem LI.fin {kc : Nat} {ξ' m' μ' : F2} {N' K' : Nat → Nat} {M' : Nat → F2} {f1 : Nat → Int64} {f2 : Nat → UInt64} (hRB : RB E (lB β o1 o2) α (if kc = 0 then ξ' else ξ) M' (if kc = 0 then N' else N) H) (ha : α 3 0 = a0) (hm : M' 0 = (if kc = 0 then m' else M 0)) (hR : RM E β (if kc = 0 then μ' else μ) (if kc = 0 then K' else K) dp th H) (h1 : gO1 E o1 f1 H) (h2 : gO2 E o2 f2 H)
    (hK : LK ξ (M 0) N μ K) (hK' : kc = 0 → LK ξ' m' N' μ' K') (hn : N 2 ≤ n) (hn' : N' 2 ≤ n + 1) : LI E β a0 o1 o2 (n + 1) H := by
  by_cases c : kc = 0
  · rw [if_pos c, if_pos c] at hRB hR
    rw [if_pos c] at hm
    exact ⟨α, _, _, _, _, _, _, _, _, _, hRB, ha, hR, h1, h2, by rw [hm]; exact hK' c, hn'⟩
  · rw [if_neg c, if_neg c] at hRB hR
    rw [if_neg c] at hm
    exact ⟨α, _, _, _, _, _, _, _, _, _, hRB, ha, hR, h1, h2, by rw [hm]; exact hK, by omega⟩
end LIR
theorem bz_eq {P P' : Prop} {r b : Int32} (h : bz P r) (h' : bz P' b) (e : P ↔ P') : r = b := by
  rcases h with ⟨h, a⟩ | ⟨h, a⟩ <;> rcases h' with ⟨h', a'⟩ | ⟨h', a'⟩
  · rw [h, h']
  · exact absurd (e.mp a) a'
  · exact absurd (e.mpr a') a
  · rw [h, h']
theorem cif_le {P : Prop} {a b n : Nat} (h1 : a ≤ n) (h2 : b ≤ n) : cif P a b ≤ n := by
  unfold cif
  split
  · exact h1
  · exact h2
theorem fp_cmp1 : ∀ a : Fin 25, ∀ b : Fin 25, b.val ≠ 0 → Op.cmpValue (FP.dcmp (FP.f2d (FP.fdiv (FP.i2f (nI a.val)) (FP.i2f (nI b.val)))) (FP.f2d (FP.fdiv (FP.i2f (nI a.val)) (FP.i2f (nI b.val))))) .l = 0 := by decide +kernel
theorem fp_cmp {a b : Nat} (ha : a ≤ 24) (hb : b ≤ 24) (h0 : b ≠ 0) : Op.cmpValue (FP.dcmp (FP.f2d (FP.fdiv (FP.i2f (nI a)) (FP.i2f (nI b)))) (FP.f2d (FP.fdiv (FP.i2f (nI a)) (FP.i2f (nI b))))) .l = 0 := fp_cmp1 ⟨a, by omega⟩ ⟨b, by omega⟩ h0
section LAWR
variable {p : Program} {l : Launch} {e : Env} {R : Room} {s : State} {m : MethodId} {args : Array Value} {below : List Frame} {meth : Method} {c : Code} {H : Heap} {locs : List Loc} {cells slots : Nat} {Q : State → Prop}
variable {E : gV} {own : String} {cc : ByteArray} {nL : Nat} {rest : List Value} {pc : Nat} {ls : Array Slot}
theorem g_iaddk {a : Nat} (k : Nat) (hx : p.tables.exec = Jvm.exec) (hb : c.code = cc) (hdg : decode cc pc = .ok (.iadd, 1)) (kk : W p l e R s m args below meth c H locs cells slots Q (F0 m (pc + 1) ls (.int (nI (a + k)) :: rest))) : W p l e R s m args below meth c H locs cells slots Q (F0 m pc ls (.int (nI k) :: .int (nI a) :: rest)) :=
  lv_iadd hx hb hdg (by rw [nI_add]; exact kk)
theorem g_sld {b L q : Nat} {xs : Nat → Int32} (hC : gC l E p s m meth c own cc nL) (hX : va_X b L xs s E.2.1.heap) (hbl : b < E.2.1.heap.size) (hS : va_S (gA0 E) E.2.1.heap H locs) (hq : q < L) (hL : L < 2 ^ 31) (hdg : decode cc pc = .ok (.iaload, 1))
    (kk : W p l e R s m args below meth c H locs cells slots Q (F0 m (pc + 1) ls (.int (xs q) :: rest))) : W p l e R s m args below meth c H locs cells slots Q (F0 m pc ls (.int (nI q) :: .ref b :: rest)) :=
  va_sld hC.2.2.1 hC.2.2.2.1 hX hbl (Nat.not_le.mpr hbl) hS (vp_in_nI hq hL) hdg (by rw [nI_clamp (by omega)]; exact kk)
theorem g_lcmp {x y : Int64} (hx : p.tables.exec = Jvm.exec) (hb : c.code = cc) (h : x = y) (hdg : decode cc pc = .ok (.lcmp, 1)) (kk : W p l e R s m args below meth c H locs cells slots Q (F0 m (pc + 1) ls (.int 0 :: rest))) : W p l e R s m args below meth c H locs cells slots Q (F0 m pc ls (.long y :: .long x :: rest)) := by
  subst h
  refine W.lcmp hx hb hdg ?_
  have e : lg_cmp x x = 0 := by
    unfold lg_cmp
    simp [Int64.lt_irrefl]
  rw [e]
  exact kk
end LAWR
def chr (x : Int32) : Int32 := (x.toUInt32 % 65536).toInt32
theorem chr_n (x : Int32) : narrow .char (.int (chr x)) = .int (chr x) := pk_nc x
