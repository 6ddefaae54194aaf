def powX (ξ : F2) (n : Nat) (v : Nat → Int32) : F2 := fun r i => if i = n ∧ 1 ≤ r ∧ r < 7 then v r else ξ r i
def deedX (ξ : F2) (n : Nat) (δ : Nat → Int32) : F2 := fun r i => if i = n ∧ 11 ≤ r ∧ r < 26 then δ (r - 10) else ξ r i
theorem powX_n {ξ : F2} {n : Nat} {v : Nat → Int32} : ∀ r i, i ≠ n ∨ 7 ≤ r → powX ξ n v r i = ξ r i := fun r i h => if_neg (by omega)
theorem powX_v {ξ : F2} {n : Nat} {v : Nat → Int32} : ∀ r, 1 ≤ r → r < 7 → powX ξ n v r n = v r := fun r h1 h2 => if_pos ⟨rfl, h1, h2⟩
theorem deedX_n {ξ : F2} {n : Nat} {δ : Nat → Int32} : ∀ r i, i ≠ n ∨ r < 11 ∨ 26 ≤ r → deedX ξ n δ r i = ξ r i := fun r i h => if_neg (by omega)
theorem deedX_v {ξ : F2} {n : Nat} {δ : Nat → Int32} : ∀ r, 1 ≤ r → r < 16 → deedX ξ n δ (10 + r) n = δ r := fun r h1 h2 => by
  unfold deedX
  rw [if_pos ⟨rfl, by omega, by omega⟩]
  congr 1
  omega
theorem updM_s {M : Nat → F2} {w : Nat} {m : F2} : updM M w m w = m := if_pos rfl
theorem updM_2 {M : Nat → F2} {w : Nat} {a b : F2} : updM (updM M w a) w b = updM M w b := by
  funext v
  unfold updM
  by_cases h : v = w <;> simp [h]
/-- the papers taken again -/
noncomputable def rp (ξ : F2) (day : Int32) : Nat → F2
  | 0 => up2 mZ 5 0 day
  | n + 1 => tk (rp ξ day n) (ξ 30 n) (ξ 31 n) (ξ 32 n)
def dL (δ : Nat → Int32) (L : Int32 × Int32 × Int32) : Nat → Int32 := fun k => if k = 10 then L.1 else if k = 11 then L.2.1 else if k = 12 then L.2.2 else δ k
theorem x_putM {p : Program} {l : Launch} {e : Env} {R : Room} {s : State} {m₀ : MethodId} {args : Array Value} {below : List Frame} {meth : Method} {c : Code} {H H0 : Heap} {locs : List Loc} {cells slots : Nat} {Q : State → Prop} {E : gV} {own : String} {cc : ByteArray} {nL : Nat} {rest : List Value} {pc : Nat} {ls : Array Slot} {B : Nat → Prop} {α : Nat → Nat → Nat} {ξ : F2} {M : Nat → F2} {N : Nat → Nat} {x : Int32} {index : Nat} (w : Nat) (hw : w < 2) (hC : gC l E p s m₀ meth c own cc nL) (hRB : RB E B α ξ M N H) (hS : va_S (gAB E B) H0 H locs) (hl : Cond.fieldLink own index (TX1 5).1 (TX1 5).2.1 (TX1 5).2.2.1 ∈ lw_tbl) (hdg : decode cc pc = .ok (.putfield index, 3))
    (kk : ∀ (H1 : Heap) (locs1 : List Loc), RB E B α ξ (updM M w (up2 (M w) 5 0 x)) N H1 → va_S (gAB E B) H0 H1 locs1 → W p l e R s m₀ args below meth c H1 locs1 cells slots Q (F0 m₀ (pc + 3) ls rest)) : W p l e R s m₀ args below meth c H locs cells slots Q (F0 m₀ pc ls (.int x :: .ref (α 3 (4 + w)) :: rest)) := by
  have hM := hRB.1.mo w hw
  have h0 : mq α w 0 = α 3 (4 + w) := rfl
  rw [← h0]
  refine g_put hC hM.1 hS (hRB.mA w hw _ ⟨0, by omega, rfl⟩) (C := RX1) (T := TX1) (N := 6) rfl u1_in tyX1 tyX1_ok nmX1 5 (by omega) hl (Or.inl rfl) (tyX1_ok 5 (by omega)) rfl rfl (show 5 < 6 by omega) hdg (fun H1 locs1 h1 hz h2 h3 => ?_)
  exact kk H1 locs1 (hRB.setMom w hw (sz := H1.size) ⟨hM.setObj (fun j hj => upA_n _ _ (by omega)) h1 h2, rfl⟩ (by omega) (fun q _ hn => h2 q (fun z => hn ⟨0, by omega, z⟩))) h3
