/-! making arrays of rows at once: the step -/
theorem mnS_top (s : State) (f : JFrame) (c comp : ClassId) (N K : Nat) : ∀ i, mnS (s.setTop f) c comp N K i = (mnS s c comp N K i).setTop f
  | 0 => by
    show (s.setTop f).pushCell (mnO c N (s.setTop f).heap.size 0) = _
    rw [State.heap_setTop, State.pushCell_setTop]
    rfl
  | i + 1 => by
    show ((mnS (s.setTop f) c comp N K i).pushCell (mnI comp K)).setCell (s.setTop f).heap.size (mnO c N (s.setTop f).heap.size (i + 1)) = _
    rw [mnS_top s f c comp N K i, State.heap_setTop, State.pushCell_setTop]
    rfl
theorem mnS_tj (s : State) (c comp : ClassId) (N K : Nat) : ∀ i, (mnS s c comp N K i).topJava? = s.topJava?
  | 0 => rfl
  | i + 1 => mnS_tj s c comp N K i
section MN
variable {E : CtlPost} {e : Env} {d : Bool} {acts : List Action} {s : State} {f : JFrame}
theorem mn_cold {Q : Unit → Pre} {index c : Nat} {vm' : Vm} (hs : s.topJava?.isSome) (hg : (Jvm.resolveClass f.method.cls index).Gives e.toSetting s.vm (.ok c) vm') (hr : vm'.classReady f.method.cls index c) (hsz : vm'.classes.size ≤ s.vm.classes.size) : wp (Op.multianewarray.sem index 2) Q E e d acts (s.setTop f) ↔ wp (Op.multianewarray.sem index 2) Q E e d acts ((s.setVm vm').setTop f) := by
  simp only [Op.multianewarray.sem, wp_bind']
  exact W.resolveClassAt_transfer (s := s.setTop f) (State.method?_setTop f hs) hg hr
theorem mn_ready {Q : Unit → Pre} {index : Nat} {c comp cc : ClassId} {k kc : Class} {n m : Int32} {rest : List Value} (hs : s.topJava?.isSome) (hr : s.vm.classReady f.method.cls index c) (hstack : f.stack = .int m :: .int n :: rest) (hk : s.vm.classes[c]? = some k) (hkind : k.kind = .array comp (.array .int)) (hkc : s.vm.classes[comp]? = some kc) (hkindc : kc.kind = .array cc .int) (hn : ¬ n < 0) (hn0 : (n == 0) = false) (hm : ¬ m < 0) (hl1 : ¬ n.toNatClampNeg > e.platform.arrayLengthLimit) (hh1 : ¬ n.toNatClampNeg * componentBytes (.array .int) > e.platform.maxHeapBytes) (hl2 : ¬ m.toNatClampNeg > e.platform.arrayLengthLimit) (hh2 : ¬ m.toNatClampNeg * componentBytes .int > e.platform.maxHeapBytes) (hcells : s.heap.size + (1 + n.toNatClampNeg) ≤ e.platform.maxCells) (hslots : s.slotsUsed + (n.toNatClampNeg + n.toNatClampNeg * m.toNatClampNeg) ≤ e.platform.maxSlots) (hq : ∀ d' acts', Q () d' acts' ((mnS s c comp n.toNatClampNeg m.toNatClampNeg n.toNatClampNeg).setTop { f with stack := .ref s.heap.size :: rest })) : wp (Op.multianewarray.sem index 2) Q E e d acts (s.setTop f) := by
  simp only [Op.multianewarray.sem, wp_bind', W.resolveClassAt_ready (State.method?_setTop f hs) hr]
  simp [popN, hs, hstack]
  refine mn_make2 (s := s.setTop { f with stack := rest }) hk hkind hkc hkindc hn hn0 hm hl1 hh1 hl2 hh2 (by rw [State.heap_setTop]; exact hcells) (by rw [State.slotsUsed_setTop]; exact hslots) (fun d' acts' => ?_)
  rw [mnS_top]
  have ht : (mnS s c comp n.toNatClampNeg m.toNatClampNeg n.toNatClampNeg).topJava?.isSome := by rw [mnS_tj]; exact hs
  simp [ht]
  exact hq _ _
end MN
