/-! The judgement EE: from a pc of a method on, over an abstract heap, the machine returns with Q. -/
def gw : List Cond := lw_tbl.filter goodWord
theorem gw_mem {w : Cond} (i : Nat) (h : lw_tbl[i]? = some w) (g : goodWord w = true) : w ∈ gw := List.mem_filter.mpr ⟨List.mem_of_getElem? h, g⟩
theorem gw_sub {w : Cond} (h : w ∈ gw) : w ∈ lw_tbl := (List.mem_filter.mp h).1
theorem gw_good {w : Cond} (h : w ∈ gw) : goodWord w = true := (List.mem_filter.mp h).2
def ew_nest : Cond → Bool
  | .fieldLinkNest _ _ _ _ _ _ => true
  | .methodLinkNest _ _ _ _ => true
  | _ => false
def ew_over : Cond → Bool
  | .arrayOver (.object _) => true
  | .arrayOver (.array _) => true
  | _ => false
def nw : List Cond := lw_tbl.filter ew_nest
theorem nw_mem {w : Cond} (i : Nat) (h : lw_tbl[i]? = some w) (g : ew_nest w = true) : w ∈ nw := List.mem_filter.mpr ⟨List.mem_of_getElem? h, g⟩
def ow : List Cond := lw_tbl.filter ew_over
theorem ow_mem {w : Cond} (i : Nat) (h : lw_tbl[i]? = some w) (g : ew_over w = true) : w ∈ ow := List.mem_filter.mpr ⟨List.mem_of_getElem? h, g⟩
/-- an abstract heap: cells by address; an array's class is the number of its type in atys -/
abbrev eH : Type := Nat → Option va_E
def atys : List FieldType := [.int, .long, .object "FieldLine$Device", .object "FieldLine$Row", .object "FieldLine$Job", .object "FieldLine$Scan", .object "FieldLineModel$Device", .array .int]
def e_tys (cA : Nat → ClassId) : List (ClassId × FieldType) := [(cA 0, .int), (cA 1, .long), (cA 2, .object "FieldLine$Device"), (cA 3, .object "FieldLine$Row"), (cA 4, .object "FieldLine$Job"), (cA 5, .object "FieldLine$Scan"), (cA 6, .object "FieldLineModel$Device"), (cA 7, .array .int)]
theorem e_tys_at {cA : Nat → ClassId} {t : Nat} {ty : FieldType} (h : atys[t]? = some ty) : (e_tys cA)[t]? = some (cA t, ty) := by
  match t, h with
  | 0, h => cases h; rfl
  | 1, h => cases h; rfl
  | 2, h => cases h; rfl
  | 3, h => cases h; rfl
  | 4, h => cases h; rfl
  | 5, h => cases h; rfl
  | 6, h => cases h; rfl
  | 7, h => cases h; rfl
  | n + 8, h => cases h
def e_c (cA : Nat → ClassId) (e : va_E) : va_E := match e with
  | .inl (t, x) => .inl (cA t, x)
  | .inr o => .inr o
def e_rp (D : va_G) (cA : Nat → ClassId) (A : Nat → Prop) (h : eH) (H : Heap) : Prop := ∀ (a : Nat) (e : va_E), h a = some e → A a ∧ va_at D vwCl (a, e_c cA e) H
/-- the cells that a method may write: those of its heap, and new ones -/
def e_A (h : eH) (sz : Nat) : Nat → Prop := fun q => (∃ x, h q = some x) ∨ sz ≤ q
def e_K (D : va_G) (cA : Nat → ClassId) (U : State) : Prop := va_K D vwCl (e_tys cA) U ∧ (∀ w ∈ nw, va_Nw w U) ∧ ∀ w ∈ ow, va_Nw w U
theorem e_K.same {D : va_G} {cA : Nat → ClassId} {u U : State} (h : u.vm = U.vm) (k : e_K D cA u) : e_K D cA U := by
  refine ⟨va_K.moved (by rw [h]; exact Vm.Alike.refl _) k.1, fun w hw => ?_, fun w hw => ?_⟩
  · have h1 := k.2.1 w hw
    have h2 := (List.mem_filter.mp hw).2
    cases w <;> first | exact va_Nw.same rfl h h1 | (exfalso; revert h2; simp [ew_nest])
  · have h1 := k.2.2 w hw
    have h2 := (List.mem_filter.mp hw).2
    cases w with
    | arrayOver t => cases t with
      | object C => exact va_AO.moved (C := C) (by rw [h]; exact Vm.Alike.refl _) h1
      | array z => exact ao_movedA (by rw [h]; exact Vm.Alike.refl _) h1
      | _ => exfalso; revert h2; simp [ew_over]
    | _ => exfalso; revert h2; simp [ew_over]
theorem e_K.warm {D : va_G} {cA : Nat → ClassId} {s U : State} (hW : s.WarmedH U.vm) (k : e_K D cA s) : e_K D cA U := by
  refine ⟨va_K.moved hW.alike k.1, fun w hw => ?_, fun w hw => ?_⟩
  · have h1 := k.2.1 w hw
    have h2 := (List.mem_filter.mp hw).2
    cases w <;> first | exact va_Nw.warmF hW h1 | exact va_Nw.warmM hW h1 | (exfalso; revert h2; simp [ew_nest])
  · have h1 := k.2.2 w hw
    have h2 := (List.mem_filter.mp hw).2
    cases w with
    | arrayOver t => cases t with
      | object C => exact va_AO.moved (C := C) hW.alike h1
      | array z => exact ao_movedA hW.alike h1
      | _ => exfalso; revert h2; simp [ew_over]
    | _ => exfalso; revert h2; simp [ew_over]
abbrev MD : Type := MethodName × ByteArray × Nat × Option FieldType
def e_ws (M : MD) : List Cond := Cond.code M.1 M.2.1 M.2.2.1 M.2.2.2 :: gw
def e_Pc (D : va_G) (cA : Nat → ClassId) (sz : Nat) (av : List Value) (h : eH) : Array Value → State → Prop := fun v U => v = av.toArray ∧ U.heap.size = sz ∧ e_rp D cA (e_A h sz) h U.heap ∧ e_K D cA U
def e_Qc (D : va_G) (cA : Nat → ClassId) (A : Nat → Prop) (Q : Option Value → eH → Prop) : Array Value → State → Outcome → State → Prop := fun _ st oc t => ∃ (r : Option Value) (h' : eH), oc = .returned r ∧ Q r h' ∧ e_rp D cA A h' t.heap ∧ va_F A st t
/-- a method's contract at a heap: it returns, with Q of its answer and the heap; fr frames, lo words of locals, mc cells, ms slots are enough -/
def Ct (M : MD) (av : List Value) (h : eH) (Q : Option Value → eH → Prop) (fr lo mc ms : Nat) : Prop := ∀ (l : Launch) (D : va_G) (cA : Nat → ClassId) (sz : Nat), Met l M.1 (e_ws M) { frames := fr, cells := mc, slots := ms, locals := lo } (e_Pc D cA sz av h) (e_Qc D cA (e_A h sz) Q) mc ms (e_A h sz)
def e_al : Nat → List (Option Value) → List (Nat × Value)
  | _, [] => []
  | k, none :: l => e_al (k + 1) l
  | k, some v :: l => (k, v) :: e_al (k + 1) l
def e_L (ls : List (Option Value)) (lsA : Array Slot) (n : Nat) : Prop := lv_has lsA n (e_al 0 ls) ∧ ∀ v, some v ∈ ls → v.category = 1
/-- what a throw needs, kept by the law's own walk alone: no stack traces, Throwable's two statics, the two texts, and words that aren't good -/
def kxw : List Cond := lw_tbl.filter (fun w => match w with
  | .declares _ => true
  | .castable _ _ => true
  | _ => false)
def KX (l : Launch) (A : Nat → Prop) (s : State) : Prop := l.stackTraces = false ∧ vx_Zq Bundle.tN "UNASSIGNED_STACK" Bundle.steD A s s.heap ∧ vx_Zq Bundle.tN "SUPPRESSED_SENTINEL" Bundle.listD A s s.heap ∧ (∃ sa, vk_R "FieldLine" 194 "not 1 to 1000 ticks" sa s) ∧ (∃ sa, vk_R "FieldLine" 330 "no such byte" sa s) ∧ ∀ w ∈ kxw, w.before #[] s = true
def notLaw (y : MethodName) : Bool := y.name != "law"
def e_X (M : MD) (D : va_G) (cA : Nat → ClassId) (A : Nat → Prop) (p : Program) (s : State) (m : MethodId) (args : Array Value) (meth : Method) (c : Code) (l : Launch) : Prop :=
  p.tables.exec = Jvm.exec ∧ c.code = M.2.1 ∧ meth.sig.returnType = M.2.2.2 ∧ c.maxLocals = M.2.2.1 ∧ s.vm.findClass M.1.cls = some m.cls ∧ (∀ w ∈ gw, w.before args s = true) ∧ e_K D cA s ∧ meth.locks = false ∧ (meth.name = M.1.name ∧ (notLaw M.1 = false → KX l A s)) ∧ ∀ q : Nat, s.heap.size ≤ q → A q
def EE (M : MD) (fr lo mc ms : Nat) (Q : Option Value → eH → Prop) (pc : Nat) (ls : List (Option Value)) (st : List Value) (h : eH) (ce sl : Nat) : Prop :=
  ∀ (p : Program) (l : Launch) (e : Env) (s : State) (m : MethodId) (args : Array Value) (below : List Frame) (meth : Method) (c : Code) (H : Heap) (locs : List Loc) (D : va_G) (cA : Nat → ClassId) (A : Nat → Prop) (lsA : Array Slot), e_X M D cA A p s m args meth c l → e_rp D cA A h H → va_S A s.heap H locs → e_L ls lsA M.2.2.1 →
    W p l e { frames := fr, cells := mc, slots := ms, locals := lo } s m args below meth c H locs ce sl (MQ below (e_Qc D cA A Q) args s mc ms A) (F0 m pc lsA st)
theorem e_al_mem {i : Nat} {v : Value} : ∀ (k : Nat) (ls : List (Option Value)), (i, v) ∈ e_al k ls ↔ ∃ j, i = k + j ∧ ls[j]? = some (some v)
  | k, [] => by simp [e_al]
  | k, none :: l => by
    rw [e_al, e_al_mem (k + 1) l]
    constructor
    · rintro ⟨j, h1, h2⟩
      exact ⟨j + 1, by omega, by simpa using h2⟩
    · rintro ⟨j, h1, h2⟩
      cases j with
      | zero => simp at h2
      | succ j => exact ⟨j, by omega, by simpa using h2⟩
  | k, some w :: l => by
    rw [e_al, List.mem_cons, e_al_mem (k + 1) l]
    constructor
    · rintro (h | ⟨j, h1, h2⟩)
      · cases h
        exact ⟨0, rfl, rfl⟩
      · exact ⟨j + 1, by omega, by simpa using h2⟩
    · rintro ⟨j, h1, h2⟩
      cases j with
      | zero =>
        left
        simp at h2
        rw [h1, h2]
        rfl
      | succ j => exact Or.inr ⟨j, by omega, by simpa using h2⟩
theorem e_L.at {ls : List (Option Value)} {lsA : Array Slot} {n i : Nat} {v : Value} (h : e_L ls lsA n) (hi : ls[i]? = some (some v)) : lsA[i]? = some (.val v) := h.1.2.2 (i, v) ((e_al_mem 0 ls).mpr ⟨i, by omega, hi⟩)
theorem e_L.of {ls ls' : List (Option Value)} {lsA : Array Slot} {n : Nat} (h : lv_has lsA n (e_al 0 ls)) (hs : ∀ (i : Nat) (v : Value), ls'[i]? = some (some v) → ls[i]? = some (some v)) : lv_has lsA n (e_al 0 ls') := by
  refine ⟨h.1, h.2.1, fun q hq => ?_⟩
  obtain ⟨i, v⟩ := q
  obtain ⟨j, h1, h2⟩ := (e_al_mem 0 ls').mp hq
  exact h.2.2 (i, v) ((e_al_mem 0 ls).mpr ⟨j, h1, hs j v h2⟩)
theorem e_L.set {ls : List (Option Value)} {lsA : Array Slot} {n i : Nat} {v : Value} (hc : v.category = 1) (h0 : e_L ls lsA n) {ls' : Array Slot} (h : lv_has ls' n ((i, v) :: (e_al 0 ls).filter (fun q => !(q.1 == i) && !(q.1 + 1 == i && q.2.category == 2)))) : e_L (ls.set i (some v)) ls' n := by
  refine ⟨⟨h.1, h.2.1, fun q hq => ?_⟩, fun w hw => ?_⟩
  · obtain ⟨k, w⟩ := q
    obtain ⟨j, h1, h2⟩ := (e_al_mem 0 _).mp hq
    have hk : k = j := by omega
    subst hk
    by_cases e : i = k
    · subst e
      rw [List.getElem?_set_self'] at h2
      cases hl : ls[i]? with
      | none => rw [hl] at h2; simp at h2
      | some x =>
        rw [hl] at h2
        simp at h2
        subst h2
        exact h.2.2 _ List.mem_cons_self
    · rw [List.getElem?_set_ne e] at h2
      refine h.2.2 (k, w) (List.mem_cons_of_mem _ (List.mem_filter.mpr ⟨(e_al_mem 0 ls).mpr ⟨k, by omega, h2⟩, ?_⟩))
      have hw := h0.2 w (List.mem_of_getElem? h2)
      simp [hw]
      exact fun q => e q.symm
  · rcases List.mem_or_eq_of_mem_set hw with h1 | h1
    · exact h0.2 w h1
    · cases h1
      exact hc
theorem e_args : ∀ (k : Nat) (av : List Value), (∀ v ∈ av, v.category = 1) → lv_args k av = e_al k (av.map some)
  | k, [], _ => rfl
  | k, v :: l, h => by
    rw [lv_args, List.map_cons, e_al, if_neg (by rw [h v List.mem_cons_self]; decide), e_args (k + 1) l (fun w hw => h w (List.mem_cons_of_mem _ hw))]
theorem e_sl : ∀ (av : List Value), (∀ v ∈ av, v.category = 1) → (lg_sl av).length = av.length
  | [], _ => rfl
  | v :: l, h => by
    have h1 := e_sl l (fun w hw => h w (List.mem_cons_of_mem _ hw))
    have h2 : lg_sl (v :: l) = Slot.val v :: lg_sl l := by
      simp [lg_sl, h v List.mem_cons_self]
    rw [h2, List.length_cons, h1, List.length_cons]
/-- a contract out of a walk from the entry -/
theorem Ct.of {M : MD} {av : List Value} {h : eH} {Q : Option Value → eH → Prop} {fr lo mc ms : Nat} (ls : List (Option Value)) (hy9 : (plainName M.1.cls && notLaw M.1) = true) (hav : ∀ v ∈ av, v.category = 1) (hn : av.length ≤ M.2.2.1) (hls : ∀ (i : Nat) (v : Value), ls[i]? = some (some v) → av[i]? = some v) (k : EE M fr lo mc ms Q 0 ls [] h 0 0) : Ct M av h Q fr lo mc ms := by
  have hy : plainName M.1.cls = true := (Bool.and_eq_true_iff.mp hy9).1
  have hnl : notLaw M.1 = true := (Bool.and_eq_true_iff.mp hy9).2
  intro l D cA sz
  refine Met.ofW (cc := M.2.1) (maxL := M.2.2.1) (ret := M.2.2.2) hy rfl ?_
  intro p e s m args below meth c s₁ B hml hv
  obtain ⟨rfl, rfl, hrp, hK⟩ := hv
  have hts := atoms_spec (ws := e_ws M) B.pre
  have hl := lv_entry av (n := M.2.2.1) (by rw [e_sl av hav]; exact hn)
  rw [lg_entry_eq]
  rw [e_args 0 av hav] at hl
  refine k p l e s m _ below meth c s.heap [] D cA (e_A h s.heap.size) _ ⟨B.exec, B.bytes, B.returns, hml, findClass_of_methodNamed B.named, fun w hw => hts w (List.mem_cons_of_mem _ hw), hK, B.notSynchronized, ⟨(name_of_methodNamed B.named B.method).1, fun z => by rw [hnl] at z; cases z⟩, fun q hq => Or.inr hq⟩ hrp va_S.rf ⟨e_L.of hl (fun i v h => by rw [List.getElem?_map, hls i v h]; rfl), fun v hv => ?_⟩
  obtain ⟨i, hi⟩ := List.getElem?_of_mem hv
  exact hav v (List.mem_of_getElem? (hls i v hi))
