/-! THE TEXT OF THE LACKS, its cells and the class String's static -/
theorem g_runVr {p : Program} {l : Launch} {e : Env} {R : Room} {s : State} {m : MethodId} {args : Array Value} {below : List Frame} {meth : Method} {c : Code} {H : Heap} {locs : List Loc} {cells slots : Nat} {E : gV} {own : String} {cc cb : ByteArray} {nL nY n index : Nat} {y : MethodName} {ret : Option FieldType} {rm : Room} {Pre : Heap → Prop} {Qc : Array Value → State → Outcome → State → Prop} {px : String → Prop} {A : Nat → Prop} {b : Nat} {As rest : List Value} {pc : Nat} {ls : Array Slot} {st0 : List Value}
    (hC : gC l E p s m meth c own cc nL) (hM : gM l E y cb nY ret rm (.ref b :: As) Pre Qc px A) (hy : gY y cb nY ret n) (hk : Cond.methodLink own index y ∈ lw_tbl) (hi : Cond.instanceMethod y ∈ lw_tbl) (hse : Cond.selects y.cls y y ∈ lw_tbl)
    (hb : ∃ cell : Cell, H[b]? = some cell ∧ cell.vm.isStatics = false ∧ s.vm.findClass y.cls = some cell.cls) (_ : y.cls = y.cls) (hP : Pre H) (hn : As.length = n) (hls : ls.size = nL) (hdg : decode cc pc = .ok (.invokevirtual index, 3))
    (hR : rm.frames + 1 ≤ R.frames ∧ 8 + (nY + 11) + rm.locals ≤ R.locals) (hf : cells + rm.cells ≤ R.cells ∧ slots + rm.slots ≤ R.slots) (hst : st0 = As.reverse ++ .ref b :: rest) (hW8 : (rest.map fun v => v.category).sum ≤ 8) :
    vx_Run p l e R s m args below meth c H locs cells slots rm.cells rm.slots (F0 m pc ls st0) rest (Qc (Value.ref b :: As).toArray) (gX px) A :=
  vx_runV (Ts := []) (C := y.cls) ⟨hC.2.2.1, hC.2.2.2.1, hC.2.2.2.2.1, hC.2.2.2.2.2.1, fun w h => nomatch h⟩ hM ⟨g_callB hC hy hk hR, gw hC.1 hC.2.1 hi rfl, gw hC.1 hC.2.1 hse rfl⟩
    ⟨g_blind, hb, g_pre hC hP⟩ rfl hn hls hst (lv_room (pc := pc) (ls := ls) (rest := st0) (m := m) hW8) hdg hf
theorem g_cmp {l : Launch} {E : gV} {s : State} {H : Heap} (h : gOK l E) (hW : E.2.1.WarmedH s.vm) (hF : gFz E H) : va_Z "java/lang/String" "COMPACT_STRINGS" "Z" (.int 1) (gA0 E) s H :=
  (va_Z.moved hW.alike (va_Zof (A := gA0 E) (h.2.1 _ k_452) (h.2.1 _ k_23) (va_eqt (flat_of_before _ h.2.2.1 _ (by decide +kernel))) (fun a ha => Nat.not_le.mpr ha))).kept (fun a ha _ => hF a ha)
def gKd (E : gV) (ad av : Nat) : Prop := vk_S 1 [5] [[107, 100, 118, 108, 104]] (fun _ => ad) (fun _ => av) (gA0 E) E.2.1 E.2.1.heap ∧ vk_R "Signatory" 369 "kdvlh" ad E.2.1
theorem gKd.at {E : gV} {ad av : Nat} {s : State} {H : Heap} (k : gKd E ad av) (hW : E.2.1.WarmedH s.vm) (hF : gFz E H) : vk_S 1 [5] [[107, 100, 118, 108, 104]] (fun _ => ad) (fun _ => av) (gA0 E) s H :=
  (k.1.moved hW.alike).kept (fun a ha _ => hF a ha)
theorem g_kd {l : Launch} {E : gV} (h : gOK l E) : ∃ ad av : Nat, gKd E ad av := by
  have hX : ∀ w ∈ flatC (Jvm.Cond.and given_1 narrow_1), w.before #[Value.ref E.1] E.2.1 = true := flat_of_before _ h.2.2.1
  obtain ⟨adK, adV, h1, h2⟩ := vk_Sof (args := #[Value.ref E.1]) (s := E.2.1) (N := 1) (tm := fun _ => .string "Signatory" 369) (len := [5]) (byt := [[107, 100, 118, 108, 104]]) (A := gA0 E)
    (fun i hi => by obtain rfl : i = 0 := by omega
                    decide)
    (fun i hi => hX _ (by decide +kernel))
    (fun i hi => hX _ (by decide +kernel))
    (fun i hi => hX _ (by decide +kernel))
    (fun i hi => by
      obtain rfl : i = 0 := by omega
      exact hX _ (by decide +kernel))
    (fun i hi j hj => by
      obtain rfl : i = 0 := by omega
      rcases (by simpa using hj : j < 5) with hj
      rcases (by omega : j = 0 ∨ j = 1 ∨ j = 2 ∨ j = 3 ∨ j = 4) with rfl | rfl | rfl | rfl | rfl <;> exact hX _ (by decide +kernel))
    (fun i j hi hj hij => absurd (by omega : i = j) hij) (fun a ha => Nat.not_le.mpr ha)
  refine ⟨adK 0, adV 0, ⟨fun i hi => ?_, fun i j hi hj _ => by omega⟩, vk_R.of (h.2.1 _ k_438) (h2 0 (by omega))⟩
  obtain rfl : i = 0 := by omega
  exact h1.1 0 (by omega)
