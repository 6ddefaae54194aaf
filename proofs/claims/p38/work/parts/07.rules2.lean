/-! ENDS, CALLS OF METHODS THAT WRITE, THE MODEL'S WRITES -/
def updN (K : Nat → Nat) (k v : Nat) : Nat → Nat := fun j => if j = k then v else K j
section RETS
variable {p : Program} {l : Launch} {e : Env} {R : Room} {s : State} {m : MethodId} {args : Array Value} {below : List Frame} {meth : Method} {c : Code} {H H0 : Heap} {locs : List Loc} {cells slots : Nat} {Q : State → Prop}
variable {E : gV} {own : String} {cc : ByteArray} {nL mc ms : Nat} {pc : Nat} {ls : Array Slot} {A A' : Nat → Prop} {px : String → Prop} {rest st0 : List Value}
theorem g_iret {P : Int32 → Prop} {v : Int32} (hC : gC l E p s m meth c own cc nL) (hr : meth.sig.returnType = some .int) (hd : decode cc pc = .ok (.ireturn, 1)) (h1 : cells ≤ mc) (h2 : slots ≤ ms) (hp : P v) :
    W p l e R s m args below meth c s.heap [] cells slots (vx_MQ below (gQR (gPi P)) (gX px) args s mc ms A) (F0 m pc ls [.int v]) :=
  W.widen h1 h2 (vx_ret (W.iret hC.2.2.1 hC.2.2.2.1 hr (fun t e1 _ => ⟨_, rfl, ⟨v, rfl, hp⟩, e1⟩) (fun q h => nomatch h) hd hC.2.2.2.2.2.2))
theorem g_zret {P : Int32 → Prop} {v : Int32} {ty : FieldType} (hC : gC l E p s m meth c own cc nL) (hr : meth.sig.returnType = some ty) (hn : narrow ty (.int v) = .int v) (hd : decode cc pc = .ok (.ireturn, 1)) (h1 : cells ≤ mc) (h2 : slots ≤ ms) (hp : P v) :
    W p l e R s m args below meth c s.heap [] cells slots (vx_MQ below (gQR (gPi P)) (gX px) args s mc ms A) (F0 m pc ls [.int v]) :=
  W.widen h1 h2 (vx_ret (W.zret hC.2.2.1 hC.2.2.2.1 hr hn (fun t e1 _ => ⟨_, rfl, ⟨v, rfl, hp⟩, e1⟩) (fun q h => nomatch h) hd hC.2.2.2.2.2.2))
theorem g_vret {P : Prop} (hC : gC l E p s m meth c own cc nL) (hr : meth.sig.returnType = none) (hd : decode cc pc = .ok (.return_, 1)) (h1 : cells ≤ mc) (h2 : slots ≤ ms) (hp : P) :
    W p l e R s m args below meth c s.heap [] cells slots (vx_MQ below (gQR (gPv P)) (gX px) args s mc ms A) (F0 m pc ls []) :=
  W.widen h1 h2 (vx_ret (W.vret hC.2.2.1 hC.2.2.2.1 hr (fun t e1 _ => ⟨_, rfl, ⟨rfl, hp⟩, e1⟩) (fun q h => nomatch h) hd hC.2.2.2.2.2.2))
theorem g_aret {P : Nat → Prop} {v : Nat} {rt : FieldType} (hC : gC l E p s m meth c own cc nL) (hr : meth.sig.returnType = some rt) (hrt : (∃ n, rt = .object n) ∨ ∃ t, rt = .array t) (hd : decode cc pc = .ok (.areturn, 1)) (h1 : cells ≤ mc) (h2 : slots ≤ ms) (hp : P v) :
    W p l e R s m args below meth c s.heap [] cells slots (vx_MQ below (gQR (gPr P)) (gX px) args s mc ms A) (F0 m pc ls [.ref v]) :=
  W.widen h1 h2 (vx_ret (W.aret hC.2.2.1 hC.2.2.2.1 hr hrt (Or.inr ⟨v, rfl⟩) (fun t e1 _ => ⟨_, rfl, ⟨v, rfl, hp⟩, e1⟩) (fun q h => nomatch h) hd hC.2.2.2.2.2.2))
theorem g_lret {P : Int64 → Prop} {v : Int64} (hC : gC l E p s m meth c own cc nL) (hr : meth.sig.returnType = some .long) (hd : decode cc pc = .ok (.lreturn, 1)) (h1 : cells ≤ mc) (h2 : slots ≤ ms) (hp : P v) :
    W p l e R s m args below meth c s.heap [] cells slots (vx_MQ below (gQR (gPl P)) (gX px) args s mc ms A) (F0 m pc ls [.long v]) :=
  W.widen h1 h2 (vx_ret (W.lret hC.2.2.1 hC.2.2.2.1 hr (fun t e1 _ => ⟨_, rfl, ⟨v, rfl, hp⟩, e1⟩) (fun q h => nomatch h) hd hC.2.2.2.2.2.2))
theorem g_iretW {P : Int32 → Heap → Prop} {v : Int32} (hC : gC l E p s m meth c own cc nL) (hr : meth.sig.returnType = some .int) (hd : decode cc pc = .ok (.ireturn, 1)) (hS : va_S A s.heap H locs) (h1 : cells ≤ mc) (h2 : slots ≤ ms) (hp : P v H) :
    W p l e R s m args below meth c H locs cells slots (vx_MQ below (gQW A (gWi P)) (gX px) args s mc ms A) (F0 m pc ls [.int v]) :=
  W.widen h1 h2 (vx_ret (W.iret hC.2.2.1 hC.2.2.2.1 hr (fun t e1 _ => ⟨_, rfl, ⟨v, rfl, by rw [e1]; exact hp⟩, hS.F e1⟩) hS.2.2 hd hC.2.2.2.2.2.2))
theorem g_zretW {P : Int32 → Heap → Prop} {v : Int32} {ty : FieldType} (hC : gC l E p s m meth c own cc nL) (hr : meth.sig.returnType = some ty) (hn : narrow ty (.int v) = .int v) (hd : decode cc pc = .ok (.ireturn, 1)) (hS : va_S A s.heap H locs) (h1 : cells ≤ mc) (h2 : slots ≤ ms) (hp : P v H) :
    W p l e R s m args below meth c H locs cells slots (vx_MQ below (gQW A (gWi P)) (gX px) args s mc ms A) (F0 m pc ls [.int v]) :=
  W.widen h1 h2 (vx_ret (W.zret hC.2.2.1 hC.2.2.2.1 hr hn (fun t e1 _ => ⟨_, rfl, ⟨v, rfl, by rw [e1]; exact hp⟩, hS.F e1⟩) hS.2.2 hd hC.2.2.2.2.2.2))
theorem g_vretW {P : Heap → Prop} (hC : gC l E p s m meth c own cc nL) (hr : meth.sig.returnType = none) (hd : decode cc pc = .ok (.return_, 1)) (hS : va_S A s.heap H locs) (h1 : cells ≤ mc) (h2 : slots ≤ ms) (hp : P H) :
    W p l e R s m args below meth c H locs cells slots (vx_MQ below (gQW A (gWv P)) (gX px) args s mc ms A) (F0 m pc ls []) :=
  W.widen h1 h2 (vx_ret (W.vret hC.2.2.1 hC.2.2.2.1 hr (fun t e1 _ => ⟨_, rfl, ⟨rfl, by rw [e1]; exact hp⟩, hS.F e1⟩) hS.2.2 hd hC.2.2.2.2.2.2))
theorem g_aretW {P : Nat → Heap → Prop} {v : Nat} {rt : FieldType} (hC : gC l E p s m meth c own cc nL) (hr : meth.sig.returnType = some rt) (hrt : (∃ n, rt = .object n) ∨ ∃ t, rt = .array t) (hd : decode cc pc = .ok (.areturn, 1)) (hS : va_S A s.heap H locs) (h1 : cells ≤ mc) (h2 : slots ≤ ms) (hp : P v H) :
    W p l e R s m args below meth c H locs cells slots (vx_MQ below (gQW A (gWr P)) (gX px) args s mc ms A) (F0 m pc ls [.ref v]) :=
  W.widen h1 h2 (vx_ret (W.aret hC.2.2.1 hC.2.2.2.1 hr hrt (Or.inr ⟨v, rfl⟩) (fun t e1 _ => ⟨_, rfl, ⟨v, rfl, by rw [e1]; exact hp⟩, hS.F e1⟩) hS.2.2 hd hC.2.2.2.2.2.2))
theorem g_lretW {P : Int64 → Heap → Prop} {v : Int64} (hC : gC l E p s m meth c own cc nL) (hr : meth.sig.returnType = some .long) (hd : decode cc pc = .ok (.lreturn, 1)) (hS : va_S A s.heap H locs) (h1 : cells ≤ mc) (h2 : slots ≤ ms) (hp : P v H) :
    W p l e R s m args below meth c H locs cells slots (vx_MQ below (gQW A (gWl P)) (gX px) args s mc ms A) (F0 m pc ls [.long v]) :=
  W.widen h1 h2 (vx_ret (W.lret hC.2.2.1 hC.2.2.2.1 hr (fun t e1 _ => ⟨_, rfl, ⟨v, rfl, by rw [e1]; exact hp⟩, hS.F e1⟩) hS.2.2 hd hC.2.2.2.2.2.2))
theorem g_fretW {P : UInt32 → Heap → Prop} {v : UInt32} (hC : gC l E p s m meth c own cc nL) (hr : meth.sig.returnType = some .float) (hd : decode cc pc = .ok (.freturn, 1)) (hS : va_S A s.heap H locs) (h1 : cells ≤ mc) (h2 : slots ≤ ms) (hp : P v H) :
    W p l e R s m args below meth c H locs cells slots (vx_MQ below (gQW A (gWf P)) (gX px) args s mc ms A) (F0 m pc ls [.float v]) :=
  W.widen h1 h2 (vx_ret (W.fret hC.2.2.1 hC.2.2.2.1 hr (fun t e1 _ => ⟨_, rfl, ⟨v, rfl, by rw [e1]; exact hp⟩, hS.F e1⟩) hS.2.2 hd hC.2.2.2.2.2.2))
theorem g_fret {P : UInt32 → Prop} {v : UInt32} (hC : gC l E p s m meth c own cc nL) (hr : meth.sig.returnType = some .float) (hd : decode cc pc = .ok (.freturn, 1)) (h1 : cells ≤ mc) (h2 : slots ≤ ms) (hp : P v) :
    W p l e R s m args below meth c s.heap [] cells slots (vx_MQ below (gQR (gPf P)) (gX px) args s mc ms A) (F0 m pc ls [.float v]) :=
  W.widen h1 h2 (vx_ret (W.fret hC.2.2.1 hC.2.2.2.1 hr (fun t e1 _ => ⟨_, rfl, ⟨v, rfl, hp⟩, e1⟩) (fun q h => nomatch h) hd hC.2.2.2.2.2.2))
/-- a call of a method that writes and throws nothing -/
theorem g_cW {post : Option Value → Heap → Prop} {a : Array Value} {mc ms : Nat} (hr : vx_Run p l e R s m args below meth c H locs cells slots mc ms (F0 m pc ls st0) rest (gQW A' post a) (gX (fun _ => False)) A') (hS : va_S A H0 H locs) (hAA : ∀ q, A' q → A q)
    (kk : ∀ (v : Option Value) (H1 : Heap) (locs1 : List Loc), post v H1 → H.size ≤ H1.size → (∀ q : Nat, q < H.size → ¬ A' q → H1[q]? = H[q]?) → va_S A H0 H1 locs1 → W p l e R s m args below meth c H1 locs1 (cells + mc) (slots + ms) Q (F0 m (pc + 3) ls (v.toList ++ rest))) : W p l e R s m args below meth c H locs cells slots Q (F0 m pc ls st0) := by
  intro T hT X
  rcases hr T hT X with ⟨v, st₀, t, T', L, h0, X', hL, e1, e2, ⟨v', hv, hp, hF⟩, st⟩ | ⟨q, st₀, t, T', L, E', ce, h0, X', hL, e1, e2, ⟨hp, hz, hk⟩, hce, hcv, hcl, st⟩
  · cases hv
    obtain ⟨k1, k2, k3⟩ := vx_keep h0 e1 hS (fun q _ h => hAA q h) hAA hL hF
    obtain ⟨t2, a1, b1⟩ := kk _ T'.heap (locs ++ L) (by rw [e1]; exact hp) k1 k2 k3 T' rfl X'
    exact ⟨t2, st t2 a1, b1⟩
  · exact hp.elim
theorem g_cWi {P : Int32 → Heap → Prop} {a : Array Value} {mc ms k2 n2 : Nat} (hr : vx_Run p l e R s m args below meth c H locs cells slots mc ms (F0 m pc ls st0) rest (gQW A' (gWi P) a) (gX (fun _ => False)) A') (hS : va_S A H0 H locs) (hAA : ∀ q, A' q → A q) (hc : cells + mc = k2) (hs : slots + ms = n2)
    (kk : ∀ (r : Int32) (H1 : Heap) (locs1 : List Loc), P r H1 → H.size ≤ H1.size → (∀ q : Nat, q < H.size → ¬ A' q → H1[q]? = H[q]?) → va_S A H0 H1 locs1 → W p l e R s m args below meth c H1 locs1 k2 n2 Q (F0 m (pc + 3) ls (.int r :: rest))) : W p l e R s m args below meth c H locs cells slots Q (F0 m pc ls st0) := by
  subst hc hs
  exact g_cW hr hS hAA (fun v H1 locs1 h h1 h2 h3 => by obtain ⟨r, rfl, h⟩ := h; exact kk r H1 locs1 h h1 h2 h3)
theorem g_cWr {P : Nat → Heap → Prop} {a : Array Value} {mc ms k2 n2 : Nat} (hr : vx_Run p l e R s m args below meth c H locs cells slots mc ms (F0 m pc ls st0) rest (gQW A' (gWr P) a) (gX (fun _ => False)) A') (hS : va_S A H0 H locs) (hAA : ∀ q, A' q → A q) (hc : cells + mc = k2) (hs : slots + ms = n2)
    (kk : ∀ (r : Nat) (H1 : Heap) (locs1 : List Loc), P r H1 → H.size ≤ H1.size → (∀ q : Nat, q < H.size → ¬ A' q → H1[q]? = H[q]?) → va_S A H0 H1 locs1 → W p l e R s m args below meth c H1 locs1 k2 n2 Q (F0 m (pc + 3) ls (.ref r :: rest))) : W p l e R s m args below meth c H locs cells slots Q (F0 m pc ls st0) := by
  subst hc hs
  exact g_cW hr hS hAA (fun v H1 locs1 h h1 h2 h3 => by obtain ⟨r, rfl, h⟩ := h; exact kk r H1 locs1 h h1 h2 h3)
theorem g_cWv {P : Heap → Prop} {a : Array Value} {mc ms k2 n2 : Nat} (hr : vx_Run p l e R s m args below meth c H locs cells slots mc ms (F0 m pc ls st0) rest (gQW A' (gWv P) a) (gX (fun _ => False)) A') (hS : va_S A H0 H locs) (hAA : ∀ q, A' q → A q) (hc : cells + mc = k2) (hs : slots + ms = n2)
    (kk : ∀ (H1 : Heap) (locs1 : List Loc), P H1 → H.size ≤ H1.size → (∀ q : Nat, q < H.size → ¬ A' q → H1[q]? = H[q]?) → va_S A H0 H1 locs1 → W p l e R s m args below meth c H1 locs1 k2 n2 Q (F0 m (pc + 3) ls rest)) : W p l e R s m args below meth c H locs cells slots Q (F0 m pc ls st0) := by
  subst hc hs
  exact g_cW hr hS hAA (fun v H1 locs1 h h1 h2 h3 => by obtain ⟨rfl, h⟩ := h; exact kk H1 locs1 h h1 h2 h3)
end RETS
