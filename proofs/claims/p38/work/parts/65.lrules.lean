/-! RULES FOR THE LAW'S OWN METHODS -/
section LRULES
variable {p : Program} {l : Launch} {e : Env} {R : Room} {s : State} {m : MethodId} {args : Array Value} {below : List Frame} {meth : Method} {c : Code} {H : Heap} {locs : List Loc} {cells slots : Nat} {Q : State → Prop}
variable {E : gV} {own : String} {cc : ByteArray} {nL : Nat} {rest : List Value} {pc : Nat} {ls : Array Slot}
theorem g_sldF {b L q : Nat} {xs : Nat → Int32} (hC : gC l E p s m meth c own cc nL) (hX : va_X b L xs E.2.1 E.2.1.heap) (hbl : b < E.2.1.heap.size) (hF : gFz E H) (hq : q < L) (hL : L < 2 ^ 31) (hdg : decode cc pc = .ok (.iaload, 1))
    (kk : W p l e R s m args below meth c H locs cells slots Q (F0 m (pc + 1) ls (.int (xs q) :: rest))) : W p l e R s m args below meth c H locs cells slots Q (F0 m pc ls (.int (nI q) :: .ref b :: rest)) := by
  obtain ⟨scr, h1, h2, h3, h4, h5⟩ := va_X.moved hC.2.1.alike hX
  have e1 : (nI q).toNatClampNeg = q := nI_clamp (by omega)
  exact W.iald (v := .int (xs q)) hC.2.2.1 hC.2.2.2.1 (by rw [hF b hbl]; exact h1) h2 h3 (by rw [h4]; exact vp_in_nI hq hL) (by rw [e1]; exact h5 _ hq) rfl rfl hdg kk
theorem g_slenF {b L : Nat} {xs : Nat → Int32} (hC : gC l E p s m meth c own cc nL) (hX : va_X b L xs E.2.1 E.2.1.heap) (hbl : b < E.2.1.heap.size) (hF : gFz E H) (hdg : decode cc pc = .ok (.arraylength, 1))
    (kk : W p l e R s m args below meth c H locs cells slots Q (F0 m (pc + 1) ls (.int (nI L) :: rest))) : W p l e R s m args below meth c H locs cells slots Q (F0 m pc ls (.ref b :: rest)) := by
  obtain ⟨scr, h1, h2, h3, h4, h5⟩ := va_X.moved hC.2.1.alike hX
  exact W.alen (n := nI L) hC.2.2.1 hC.2.2.2.1 (by rw [hF b hbl]; exact h1) h2 (by rw [h4] <;> rfl) rfl rfl hdg kk
theorem g_naddn {a b : Nat} (hx : p.tables.exec = Jvm.exec) (hb : c.code = cc) (hdg : decode cc pc = .ok (.iadd, 1)) (kk : W p l e R s m args below meth c H locs cells slots Q (F0 m (pc + 1) ls (.int (nI (a + b)) :: rest))) : W p l e R s m args below meth c H locs cells slots Q (F0 m pc ls (.int (nI b) :: .int (nI a) :: rest)) :=
  lv_iadd hx hb hdg (by rw [nI_add]; exact kk)
theorem g_nmuln {a b : Nat} (hx : p.tables.exec = Jvm.exec) (hb : c.code = cc) (hdg : decode cc pc = .ok (.imul, 1)) (kk : W p l e R s m args below meth c H locs cells slots Q (F0 m (pc + 1) ls (.int (nI (a * b)) :: rest))) : W p l e R s m args below meth c H locs cells slots Q (F0 m pc ls (.int (nI b) :: .int (nI a) :: rest)) :=
  lv_imul hx hb hdg (by rw [pk_mul]; exact kk)
theorem g_nsubn {a b : Nat} (h : b ≤ a) (hx : p.tables.exec = Jvm.exec) (hb : c.code = cc) (hdg : decode cc pc = .ok (.isub, 1)) (kk : W p l e R s m args below meth c H locs cells slots Q (F0 m (pc + 1) ls (.int (nI (a - b)) :: rest))) : W p l e R s m args below meth c H locs cells slots Q (F0 m pc ls (.int (nI b) :: .int (nI a) :: rest)) :=
  lv_isub hx hb hdg (by rw [pk_sub h]; exact kk)
theorem g_nremn {a b : Nat} (ha : a < 2 ^ 31) (h0 : 0 < b) (hb2 : b < 2 ^ 31) (hx : p.tables.exec = Jvm.exec) (hb : c.code = cc) (hdg : decode cc pc = .ok (.irem, 1)) (kk : W p l e R s m args below meth c H locs cells slots Q (F0 m (pc + 1) ls (.int (nI (a % b)) :: rest))) : W p l e R s m args below meth c H locs cells slots Q (F0 m pc ls (.int (nI b) :: .int (nI a) :: rest)) :=
  lv_irem hx hb hdg (nI_ne0 h0 hb2) (by rw [pk_rem ha h0 hb2]; exact kk)
theorem g_ndivn {a b : Nat} (ha : a < 2 ^ 31) (h0 : 0 < b) (hb2 : b < 2 ^ 31) (hx : p.tables.exec = Jvm.exec) (hb : c.code = cc) (hdg : decode cc pc = .ok (.idiv, 1)) (kk : W p l e R s m args below meth c H locs cells slots Q (F0 m (pc + 1) ls (.int (nI (a / b)) :: rest))) : W p l e R s m args below meth c H locs cells slots Q (F0 m pc ls (.int (nI b) :: .int (nI a) :: rest)) :=
  lv_idiv hx hb hdg (nI_ne0 h0 hb2) (by rw [pk_div ha h0 hb2]; exact kk)
/-- two roads meet -/
theorem g_join {P : Int32 → Prop} {pc1 : Nat} {st0 : List Value} (h2 : ∀ x, P x → W p l e R s m args below meth c H locs cells slots Q (F0 m pc1 ls (.int x :: rest))) (h1 : (∀ x, P x → W p l e R s m args below meth c H locs cells slots Q (F0 m pc1 ls (.int x :: rest))) → W p l e R s m args below meth c H locs cells slots Q (F0 m pc ls st0)) : W p l e R s m args below meth c H locs cells slots Q (F0 m pc ls st0) := h1 h2
end LRULES
theorem g_dec (i : Nat) : nI i + Int32.ofInt (-1) = nI i - 1 := by rw [Int32.sub_eq_add_neg]; rfl
theorem mx_day {td a b : Nat} (h1 : td ≤ 1000) (ha : a < 8) (hb : b < 6) : ∃ q : Nat, q ≤ td + 5 ∧ (if (0 : Int32) < nI td - nI a + nI b then nI td - nI a + nI b else 0) = nI q := by
  have e : nI td - nI a + nI b = nI td + nI b - nI a := by rw [Int32.sub_eq_add_neg, Int32.sub_eq_add_neg, Int32.add_assoc, Int32.add_comm (-nI a), ← Int32.add_assoc]
  rw [e, nI_add]
  by_cases c : a ≤ td + b
  · rw [pk_sub c]
    by_cases d : td + b - a = 0
    · exact ⟨0, by omega, by rw [d]; rfl⟩
    · exact ⟨td + b - a, by omega, if_pos (nI_lt (a := 0) (by omega) (by omega))⟩
  · have h := pk_sneg (a := td + b) (b := a) (by omega) (by omega)
    exact ⟨0, by omega, if_neg (fun z => by rw [Int32.lt_iff_toInt_lt] at z h; omega)⟩
theorem mx_two {a T c : Nat} (ha : a < 2000) (hT : T < 2000) (hc : c < 5) : ∃ q : Nat, a ≤ q ∧ (q = a ∨ q ≤ T) ∧ (if nI a < nI T - nI c then nI T - nI c else nI a) = nI q := by
  by_cases d : c ≤ T
  · rw [pk_sub d]
    by_cases g : a < T - c
    · exact ⟨T - c, by omega, Or.inr (by omega), if_pos (nI_lt g (by omega))⟩
    · exact ⟨a, by omega, Or.inl rfl, if_neg (nI_nlt (by omega) (by omega))⟩
  · have h := pk_sneg (a := T) (b := c) (by omega) (by omega)
    exact ⟨a, by omega, Or.inl rfl, if_neg (fun z => by
      have z0 := nI_toInt (n := a) (by omega)
      rw [Int32.lt_iff_toInt_lt] at z h
      have e0 : (0 : Int32).toInt = 0 := by decide
      omega)⟩
theorem sb_day {a : Nat} {x : Int32} (ha : a < 2000) (hx : x = 0 ∨ x = 1) : nI a - x < 0 ∨ ∃ q : Nat, q ≤ a ∧ a ≤ q + 1 ∧ nI a - x = nI q := by
  rcases hx with rfl | rfl
  · exact Or.inr ⟨a, by omega, by omega, pk_sub (a := a) (b := 0) (by omega)⟩
  · by_cases c : a = 0
    · subst c
      exact Or.inl (by decide)
    · exact Or.inr ⟨a - 1, by omega, by omega, pk_sub (a := a) (b := 1) (by omega)⟩
