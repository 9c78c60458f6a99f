/-! making arrays of rows at once, from the model's own words (Op.multianewarray); nothing of Shelf42 -/
def mnO (c : ClassId) (N h0 : Nat) : Nat → Cell
  | 0 => { cls := c, slots := Array.replicate N .null, vm := .none }
  | i + 1 => (mnO c N h0 i).setSlot i (.ref (h0 + 1 + i))
def mnI (c : ClassId) (K : Nat) : Cell := { cls := c, slots := Array.replicate K (.int 0), vm := .none }
def mnS (s : State) (c comp : ClassId) (N K : Nat) : Nat → State
  | 0 => s.pushCell (mnO c N s.heap.size 0)
  | i + 1 => ((mnS s c comp N K i).pushCell (mnI comp K)).setCell s.heap.size (mnO c N s.heap.size (i + 1))
theorem mnO_f (c : ClassId) (N h0 : Nat) : ∀ i, (mnO c N h0 i).cls = c ∧ (mnO c N h0 i).vm = .none ∧ (mnO c N h0 i).slots.size = N
  | 0 => ⟨rfl, rfl, by simp [mnO]⟩
  | i + 1 => by
    obtain ⟨a, b, d⟩ := mnO_f c N h0 i
    exact ⟨a, b, by simpa [mnO, Cell.setSlot] using d⟩
theorem mnS_f (s : State) (c comp : ClassId) (N K : Nat) : ∀ i, (mnS s c comp N K i).heap.size = s.heap.size + 1 + i ∧ (mnS s c comp N K i).heap[s.heap.size]? = some (mnO c N s.heap.size i) ∧ (mnS s c comp N K i).vm = s.vm ∧ (mnS s c comp N K i).slotsUsed = s.slotsUsed + (N + i * K)
  | 0 => by
    refine ⟨by simp [mnS], State.heap_pushCell_size _ _, rfl, ?_⟩
    rw [mnS, State.slotsUsed_pushCell, (mnO_f c N s.heap.size 0).2.2, Nat.zero_mul, Nat.add_zero]
  | i + 1 => by
    obtain ⟨a, b, d, u⟩ := mnS_f s c comp N K i
    refine ⟨?_, ?_, d, ?_⟩
    · show (((mnS s c comp N K i).heap.push (mnI comp K)).setIfInBounds s.heap.size _).size = _
      rw [Array.size_setIfInBounds, Array.size_push, a]
      omega
    · show (((mnS s c comp N K i).heap.push (mnI comp K)).setIfInBounds s.heap.size _)[s.heap.size]? = _
      rw [Array.getElem?_setIfInBounds, if_pos rfl, if_pos (by rw [Array.size_push, a]; omega)]
    · show ((mnS s c comp N K i).pushCell (mnI comp K)).slotsUsed = _
      rw [State.slotsUsed_pushCell, u]
      show s.slotsUsed + (N + i * K) + (Array.replicate K (Value.int 0)).size = _
      rw [Array.size_replicate, Nat.add_mul]
      omega
theorem mnS_old (s : State) (c comp : ClassId) (N K : Nat) {a : Nat} (ha : a < s.heap.size) : ∀ i, (mnS s c comp N K i).heap[a]? = s.heap[a]?
  | 0 => State.heap_pushCell_of_lt _ _ ha
  | i + 1 => by
    show (((mnS s c comp N K i).heap.push (mnI comp K)).setIfInBounds s.heap.size _)[a]? = _
    rw [Array.getElem?_setIfInBounds, if_neg (by omega), Array.getElem?_push, if_neg (by rw [(mnS_f s c comp N K i).1]; omega)]
    exact mnS_old s c comp N K ha i
theorem mnS_row (s : State) (c comp : ClassId) (N K : Nat) : ∀ i j, j < i → (mnS s c comp N K i).heap[s.heap.size + 1 + j]? = some (mnI comp K)
  | 0, j, h => absurd h (Nat.not_lt_zero j)
  | i + 1, j, h => by
    show (((mnS s c comp N K i).heap.push (mnI comp K)).setIfInBounds s.heap.size _)[s.heap.size + 1 + j]? = _
    rw [Array.getElem?_setIfInBounds, if_neg (by omega), Array.getElem?_push]
    by_cases e : j = i
    · rw [if_pos (by rw [(mnS_f s c comp N K i).1, e])]
    · rw [if_neg (by rw [(mnS_f s c comp N K i).1]; omega)]
      exact mnS_row s c comp N K i j (by omega)
section MN
variable {E : CtlPost} {e : Env} {d : Bool} {acts : List Action} {s : State}
theorem mn_make1 {Q : Addr → Pre} {comp cc : ClassId} {kc : Class} {m : Int32} (hkc : s.vm.classes[comp]? = some kc) (hkindc : kc.kind = .array cc .int) (hm : ¬ m < 0) (hlimit : ¬ m.toNatClampNeg > e.platform.arrayLengthLimit) (hheap : ¬ m.toNatClampNeg * componentBytes .int > e.platform.maxHeapBytes) (hcells : s.heap.size < e.platform.maxCells) (hslots : s.slotsUsed + m.toNatClampNeg ≤ e.platform.maxSlots) (hq : ∀ acts', Q s.heap.size d acts' (s.pushCell (mnI comp m.toNatClampNeg))) : wp (Op.multianewarray.make comp [m]) Q E e d acts s := by
  unfold Op.multianewarray.make
  simp only [wp_bind', W.ite, hm, if_false, wp_pure', W.theClass, hkc, Option.some.injEq, exists_eq_left', hkindc]
  exact W.newArray_of hkc hkindc hlimit hheap hcells hslots rfl hq
theorem mn_loop {Q : PUnit → Pre} {c comp cc : ClassId} {k kc : Class} {N : Nat} {m : Int32} (hk : s.vm.classes[c]? = some k) (hkind : k.kind = .array comp (.array .int)) (hkc : s.vm.classes[comp]? = some kc) (hkindc : kc.kind = .array cc .int) (hm : ¬ m < 0) (hl2 : ¬ m.toNatClampNeg > e.platform.arrayLengthLimit) (hh2 : ¬ m.toNatClampNeg * componentBytes .int > e.platform.maxHeapBytes) (hcells : s.heap.size + (1 + N) ≤ e.platform.maxCells) (hslots : s.slotsUsed + (N + N * m.toNatClampNeg) ≤ e.platform.maxSlots) (hq : ∀ d' acts', Q PUnit.unit d' acts' (mnS s c comp N m.toNatClampNeg N)) : ∀ (j i : Nat) (d : Bool) (acts : List Action), i + j = N → wp (forIn (List.range' i j) PUnit.unit (fun i _ => do
      let a ← Op.multianewarray.make comp [m]
      writeLoc s.heap.size i (.ref a)
      Pure.pure (ForInStep.yield PUnit.unit))) Q E e d acts (mnS s c comp N m.toNatClampNeg i)
  | 0, i, d, acts, h => by
    have e9 : i = N := by omega
    subst e9
    simp only [List.range'_zero, List.forIn_nil, wp_pure']
    exact hq d acts
  | j + 1, i, d, acts, h => by
    obtain ⟨f1, f2, f3, f4⟩ := mnS_f s c comp N m.toNatClampNeg i
    obtain ⟨o1, o2, o3⟩ := mnO_f c N s.heap.size i
    have hmul : (i + 1) * m.toNatClampNeg ≤ N * m.toNatClampNeg := Nat.mul_le_mul_right _ (by omega)
    rw [Nat.add_mul, Nat.one_mul] at hmul
    simp only [List.range'_succ, List.forIn_cons, wp_bind']
    refine mn_make1 (by rw [f3]; exact hkc) hkindc hm hl2 hh2 (by omega) (by omega) (fun acts' => ?_)
    simp only [wp_bind', W.writeLoc, wp_pure']
    refine ⟨mnO c N s.heap.size i, ?_, fun z => by (rw [o2] at z; cases z), by rw [o3]; omega, ?_, ?_⟩
    · rw [State.heap_pushCell_of_lt _ _ (show s.heap.size < (mnS s c comp N m.toNatClampNeg i).heap.size by rw [f1]; omega)]
      exact f2
    · have v1 : (mnS s c comp N m.toNatClampNeg i).vm.classes[(mnO c N s.heap.size i).cls]? = some k := by
        rw [o1, f3]
        exact hk
      rw [o2]
      simp [State.fitsSlot, State.slotType?, v1, hkind]
      rfl
    · have z := mn_loop hk hkind hkc hkindc hm hl2 hh2 hcells hslots hq j (i + 1) true (writeActs ⟨s.heap.size, i⟩ .plain (.ref (s.heap.size + 1 + i)) acts') (by omega)
      rw [f1]
      exact z
theorem mn_make2 {Q : Addr → Pre} {c comp cc : ClassId} {k kc : Class} {n m : Int32} (hk : s.vm.classes[c]? = some k) (hkind : k.kind = .array comp (.array .int)) (hkc : s.vm.classes[comp]? = some kc) (hkindc : kc.kind = .array cc .int) (hn : ¬ n < 0) (hn0 : (n == 0) = false) (hm : ¬ m < 0) (hl1 : ¬ n.toNatClampNeg > e.platform.arrayLengthLimit) (hh1 : ¬ n.toNatClampNeg * componentBytes (.array .int) > e.platform.maxHeapBytes) (hl2 : ¬ m.toNatClampNeg > e.platform.arrayLengthLimit) (hh2 : ¬ m.toNatClampNeg * componentBytes .int > e.platform.maxHeapBytes) (hcells : s.heap.size + (1 + n.toNatClampNeg) ≤ e.platform.maxCells) (hslots : s.slotsUsed + (n.toNatClampNeg + n.toNatClampNeg * m.toNatClampNeg) ≤ e.platform.maxSlots) (hq : ∀ d' acts', Q s.heap.size d' acts' (mnS s c comp n.toNatClampNeg m.toNatClampNeg n.toNatClampNeg)) : wp (Op.multianewarray.make c [n, m]) Q E e d acts s := by
  unfold Op.multianewarray.make
  simp only [wp_bind', W.ite, hn, if_false, wp_pure', W.theClass, hk, Option.some.injEq, exists_eq_left', hkind]
  refine W.newArray_of hk hkind hl1 hh1 (by omega) (by omega) rfl (fun acts1 => ?_)
  simp only [wp_bind', hn0, Bool.false_eq_true, if_false, wp_pure']
  rw [Std.Legacy.Range.forIn_eq_forIn_range']
  simp only [Std.Legacy.Range.size, Nat.sub_zero, Nat.add_sub_cancel, Nat.div_one]
  exact mn_loop hk hkind hkc hkindc hm hl2 hh2 hcells hslots (fun d' acts' => by simpa only [wp_pure'] using hq d' acts') n.toNatClampNeg 0 d acts1 (by omega)
end MN
