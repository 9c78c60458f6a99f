/-! making arrays of rows at once: where a walk stands behind it, and the rule -/
section MN
variable {p : Program} {l : Launch} {e : Env} {R : Room} {s : State} {m : MethodId} {args : Array Value} {below : List Frame} {meth : Method} {c : Code} {U T : State} {locs : List Loc} {cells slots : Nat}
theorem mn_up (X : Stand p l e R s m args below meth c U locs cells slots) (c9 comp : ClassId) (N K : Nat) : ∀ i, ∃ J : List Loc, (∀ x ∈ J, x.base = U.heap.size) ∧ Stand p l e R s m args below meth c (mnS U c9 comp N K i) (locs ++ J) (cells + 1 + i) (slots + (N + i * K))
  | 0 => by
    have z := X.pushed (mnO c9 N U.heap.size 0)
    rw [(mnO_f c9 N U.heap.size 0).2.2] at z
    refine ⟨[], fun x hx => absurd hx (List.not_mem_nil), ?_⟩
    rw [List.append_nil, Nat.zero_mul, Nat.add_zero, Nat.add_zero]
    exact z
  | i + 1 => by
    obtain ⟨J, hJ, Y⟩ := mn_up X c9 comp N K i
    obtain ⟨f1, f2, -, -⟩ := mnS_f U c9 comp N K i
    have Y2 := Y.pushed (mnI comp K)
    have hc : ((mnS U c9 comp N K i).pushCell (mnI comp K)).heap[U.heap.size]? = some (mnO c9 N U.heap.size i) := by
      rw [State.heap_pushCell_of_lt _ _ (show U.heap.size < (mnS U c9 comp N K i).heap.size by rw [f1]; omega)]
      exact f2
    have Y3 := Y2.stored hc i (.ref (U.heap.size + 1 + i))
    refine ⟨J ++ [⟨U.heap.size, i⟩], fun x hx => ?_, ?_⟩
    · rcases List.mem_append.mp hx with z | z
      · exact hJ x z
      · rw [List.mem_singleton.mp z]
    · rw [← List.append_assoc]
      have e1 : slots + (N + i * K) + (mnI comp K).slots.size = slots + (N + (i + 1) * K) := by
        show slots + (N + i * K) + (Array.replicate K (Value.int 0)).size = _
        rw [Array.size_replicate, Nat.add_mul]
        omega
      rw [e1] at Y3
      exact Y3
theorem mn_stand (X : Stand p l e R s m args below meth c T locs cells slots) (hexec : p.tables.exec = Jvm.exec) {own : String} {index : Nat} (hown : s.vm.findClass own = some m.cls) (hclink : (Cond.classLink own index "[[I").before args s = true) (hover : (Cond.arrayOver (.array .int)).before args s = true) (harr : (Cond.arrayClass .int).before args s = true) {g : JFrame} (hg : g.method = m) (hdg : decode c.code g.pc = .ok (.multianewarray index 2, 4)) {n k : Int32} {rest : List Value} (hstack : g.stack = .int k :: .int n :: rest) (hn : ¬ n < 0) (hn0 : (n == 0) = false) (hk : ¬ k < 0) (hb1 : n.toNatClampNeg ≤ 100000) (hb2 : k.toNatClampNeg ≤ 100000) (hcells : cells + (1 + n.toNatClampNeg) ≤ R.cells) (hslots : slots + (n.toNatClampNeg + n.toNatClampNeg * k.toNatClampNeg) ≤ R.slots) :
    ∃ (vm₁ : Vm) (cA comp : ClassId), s.vm.findClass "[[I" = some cA ∧ s.vm.findClass "[I" = some comp ∧ Stand p l e R s m args below meth c (mnS (T.setVm vm₁) cA comp n.toNatClampNeg k.toNatClampNeg n.toNatClampNeg) locs (cells + 1 + n.toNatClampNeg) (slots + (n.toNatClampNeg + n.toNatClampNeg * k.toNatClampNeg)) ∧
      ∀ target, Steps p.tables e below ((mnS (T.setVm vm₁) cA comp n.toNatClampNeg k.toNatClampNeg n.toNatClampNeg).setTop { g with pc := g.pc + 4, stack := .ref T.heap.size :: rest }) target → Steps p.tables e below (T.setTop g) target := by
  subst hg
  have hpl : e.platform.magicAccessors = ({} : Platform).magicAccessors := by rw [X.admits.platform]
  obtain ⟨comp, cA, kA, hcomp, hidx, hkA, hkindA, hnameA⟩ := ao_specA hover
  obtain ⟨cI, kI, hfI, hkI, ccI, hkindI⟩ : ∃ (cI : ClassId) (kI : Class), s.vm.findClass "[I" = some cI ∧ s.vm.classes[cI]? = some kI ∧ ∃ cc, kI.kind = .array cc .int := by
    obtain ⟨a1, a2, a3, a4, a5, a6⟩ := Cond.arrayClass_spec harr
    exact ⟨a1, a2, a4, a5, a3, a6⟩
  have ec : comp = cI := Option.some.inj (hcomp.symm.trans hfI)
  subst ec
  obtain ⟨cc, hfcc, hcl⟩ := Cond.classLink_spec hown hclink e.platform hpl
  have ea : cc = cA := Option.some.inj (hfcc.symm.trans hnameA)
  subst ea
  obtain ⟨hg₁, hwarm₁, hready₁⟩ := State.classEntry (e := e) X.warmed hcl
  generalize T.vm.noted g.method.cls index (.cls cc) = vm₁ at hg₁ hwarm₁ hready₁
  have hal : s.vm.Alike vm₁ := hwarm₁.alike
  obtain ⟨kA₁, hkA₁, heA⟩ := hal.2.2 _ _ hkA
  have hkindA₁ : kA₁.kind = .array comp (.array .int) := by rw [heA]; exact hkindA
  obtain ⟨kI₁, hkI₁, heI⟩ := hal.2.2 _ _ hkI
  have hkindI₁ : kI₁.kind = .array ccI .int := by rw [heI]; exact hkindI
  have hl1 : ¬ n.toNatClampNeg > e.platform.arrayLengthLimit := by rw [Launch.admits_arrayLengthLimit X.admits]; omega
  have hl2 : ¬ k.toNatClampNeg > e.platform.arrayLengthLimit := by rw [Launch.admits_arrayLengthLimit X.admits]; omega
  have hh1 : ¬ n.toNatClampNeg * componentBytes (.array .int) > e.platform.maxHeapBytes := by
    rw [Launch.admits_maxHeapBytes X.admits]; show ¬ n.toNatClampNeg * 4 > 536870912; omega
  have hh2 : ¬ k.toNatClampNeg * componentBytes .int > e.platform.maxHeapBytes := by
    rw [Launch.admits_maxHeapBytes X.admits]; show ¬ k.toNatClampNeg * 4 > 536870912; omega
  have X₁ := X.noted hwarm₁
  obtain ⟨J, hJ, Y⟩ := mn_up X₁ cc comp n.toNatClampNeg k.toNatClampNeg n.toNatClampNeg
  obtain ⟨hr1, hr2⟩ := X.roomAbove hcells hslots
  have hsz : vm₁.classes.size ≤ T.vm.classes.size := by
    have y1 := hal.2.1
    have y2 := X.warmed.alike.2.1
    omega
  refine ⟨vm₁, cc, comp, hfcc, hcomp, Y.dropFresh (fun x hx => ?_), fun target hrest => ?_⟩
  · rw [hJ x hx]
    exact X₁.heapGrown
  · refine Steps.instr (c := _) (by simpa using X.here) ?_
    simp only [hdg, wpRun, hexec]
    exact (mn_cold X.here.top hg₁ hready₁ hsz).mpr (mn_ready (s := T.setVm vm₁) X.here.top hready₁ hstack hkA₁ hkindA₁ hkI₁ hkindI₁ hn hn0 hk hl1 hh1 hl2 hh2 hr1 hr2 (fun d' acts' acts'' => by
      rw [afterInstr_ok]
      exact hrest))
end MN
section ER
variable {M : MD} {fr lo mc ms : Nat} {Q : Option Value → eH → Prop} {pc ce sl : Nat} {ls : List (Option Value)} {st : List Value} {h : eH}
/-- the heap with q, an array of N new rows of K zeros -/
def e_mn (h : eH) (q N K : Nat) : eH := fun a => if a < q then h a else if a = q then some (.inl (7, N, .inr (.inr (.inr (.inr (fun i => if i < N then some (q + 1 + i) else none)))))) else if a < q + 1 + N then some (.inl (0, K, .inl (fun _ => 0))) else none
theorem mnO_arr (c : ClassId) (N h0 : Nat) : ∀ i : Nat, mnO c N h0 i = arrV c N (fun j => va_rf (if j < i then some (h0 + 1 + j) else none))
  | 0 => by
    show ({ cls := c, slots := Array.replicate N .null, vm := .none } : Cell) = _
    rw [arrV_new]
    refine congrArg (arrV c N) (funext fun j => ?_)
    simp [va_rf]
  | i + 1 => by
    show (mnO c N h0 i).setSlot i (.ref (h0 + 1 + i)) = _
    rw [mnO_arr c N h0 i, arrV_store]
    refine congrArg (arrV c N) (funext fun j => ?_)
    by_cases e : j = i
    · subst e
      simp [updV, va_rf]
    · by_cases h : j < i
      · simp [updV, e, h, Nat.lt_succ_of_lt h]
      · simp [updV, e, h, show ¬ j < i + 1 by omega]
theorem e_mna (np : Nat) {index : Nat} {n k : Int32} {N K : Nat} (hd : decode M.2.1 pc = .ok (.multianewarray index 2, 4)) (hn : pc + 4 = np) (hw : Cond.classLink M.1.cls index "[[I" ∈ gw) (hn0 : ¬ n < 0) (hz : (n == 0) = false) (hk0 : ¬ k < 0) (hN : n.toNatClampNeg = N) (hK : k.toNatClampNeg = K) (hb : N ≤ 100000) (hb2 : K ≤ 100000) (hce : ce + (1 + N) ≤ mc) (hsl : sl + (N + N * K) ≤ ms) (kk : ∀ q : Nat, (∀ a, q ≤ a → h a = none) → EE M fr lo mc ms Q np ls (.ref q :: st) (e_mn h q N K) (ce + 1 + N) (sl + (N + N * K))) : EE M fr lo mc ms Q pc ls (.int k :: .int n :: st) h ce sl := by
  subst hn
  subst hN
  subst hK
  intro p l e s m args below meth c H locs D cA A lsA X R S L
  have hts := X.2.2.2.2.2.1
  have ha : Cond.arrayClass .int ∈ gw := by decide +kernel
  intro T hT Xs
  obtain ⟨vm₁, cO, comp, fA, fC, X', step⟩ := mn_stand Xs X.1 X.2.2.2.2.1 (hts _ hw) (X.2.2.2.2.2.2.1.2.2 _ ao_arr) (hts _ ha) (g := F0 m pc lsA (.int k :: .int n :: st)) rfl (by rw [X.2.1]; exact hd) rfl hn0 hz hk0 hb hb2 hce hsl
  have e7 : cO = cA 7 := Option.some.inj (fA.symm.trans (e_findArr (X.2.2.2.2.2.2.1.1.2 7 _ rfl).2))
  have e0 : comp = cA 0 := Option.some.inj (fC.symm.trans (e_findArr (X.2.2.2.2.2.2.1.1.2 0 _ rfl).2))
  subst e7
  subst e0
  have hTh : (T.setVm vm₁).heap = H := hT
  obtain ⟨f1, f2, -, -⟩ := mnS_f (T.setVm vm₁) (cA 7) (cA 0) n.toNatClampNeg k.toNatClampNeg n.toNatClampNeg
  have hold0 := fun (x : Nat) (hx : x < (T.setVm vm₁).heap.size) => mnS_old (T.setVm vm₁) (cA 7) (cA 0) n.toNatClampNeg k.toNatClampNeg hx n.toNatClampNeg
  have hrow0 := mnS_row (T.setVm vm₁) (cA 7) (cA 0) n.toNatClampNeg k.toNatClampNeg n.toNatClampNeg
  generalize mnS (T.setVm vm₁) (cA 7) (cA 0) n.toNatClampNeg k.toNatClampNeg n.toNatClampNeg = F at X' step f1 f2 hold0 hrow0
  rw [hTh] at f1 f2 hold0 hrow0
  have hold : ∀ x : Nat, x < H.size → F.heap[x]? = H[x]? := hold0
  have hrow : ∀ j : Nat, j < n.toNatClampNeg → F.heap[H.size + 1 + j]? = some (vp_cell (cA 0) (k.toNatClampNeg, .inl (fun _ => 0))) := fun j hj => by
    rw [hrow0 j hj, vp_cell_i]
    exact congrArg some (arrV_new _ _ _)
  have hout : mnO (cA 7) n.toNatClampNeg H.size n.toNatClampNeg = vp_cell (cA 7) (n.toNatClampNeg, .inr (.inr (.inr (.inr (fun i => if i < n.toNatClampNeg then some (H.size + 1 + i) else none))))) := by
    rw [vp_cell_q]
    exact mnO_arr (cA 7) n.toNatClampNeg H.size n.toNatClampNeg
  rw [hout] at f2
  have hnone : ∀ a, H.size ≤ a → h a = none := fun a h9 => by
    cases e9 : h a with
    | none => rfl
    | some y => exact absurd (R _ y e9).2.lt (by show ¬ a < H.size; omega)
  have hR : e_rp D cA A (e_mn h H.size n.toNatClampNeg k.toNatClampNeg) F.heap := by
    intro a x hx
    have hA := X.2.2.2.2.2.2.2.2.2
    unfold e_mn at hx
    by_cases h1 : a < H.size
    · rw [if_pos h1] at hx
      exact ⟨(R a x hx).1, (R a x hx).2.kept (hold a h1)⟩
    · rw [if_neg h1] at hx
      have hAa : A a := hA a (Nat.le_trans S.1 (Nat.le_of_not_lt h1))
      by_cases h2 : a = H.size
      · rw [if_pos h2] at hx
        cases hx
        subst h2
        exact ⟨hAa, f2⟩
      · rw [if_neg h2] at hx
        by_cases h3 : a < H.size + 1 + n.toNatClampNeg
        · rw [if_pos h3] at hx
          cases hx
          refine ⟨hAa, ?_⟩
          have := hrow (a - (H.size + 1)) (by omega)
          rw [show H.size + 1 + (a - (H.size + 1)) = a by omega] at this
          exact this
        · rw [if_neg h3] at hx; cases hx
  obtain ⟨t, a1, b1⟩ := kk H.size hnone p l e s m args below meth c F.heap locs D cA A lsA X hR (e_S.new S (by rw [f1]; omega) hold) L F rfl X'
  refine ⟨t, step t ?_, b1⟩
  have e9 : T.heap.size = H.size := by rw [hT]
  rw [e9]
  exact a1
end ER
