/-! the law: its context, reading the script, its end (the definitions lw_ and lw_ret as the task's skeleton has them) -/
def R_law : String := "FieldLineLaw"
def lw_P (b : Addr) (xs : List Int32) (args : Array Value) (s : State) : Prop := args = #[.ref b] ∧ s.IntsAt b xs ∧ xs.length ≤ 3072 ∧ (Jvm.Cond.and given_1 narrow_1).before args s = true
def lw_Q (_ : Array Value) (s : State) (o : Outcome) (t : State) : Prop := o = .returned (some (.int 1)) ∧ Framed s o t [] 601024 7293034
def lw_Z (below : List Frame) (a : Array Value) (s : State) : State → Prop := fun t => ∃ o, t.status = .running ∧ Ended t below o ∧ lw_Q a s o t
theorem lw_ret {p : Program} {l : Launch} {e : Env} {s : State} {m : MethodId} {below : List Frame} {meth : Method} {c : Code} {b : Nat} (hx : p.tables.exec = Jvm.exec) (hb : c.code = code) (hr : meth.sig.returnType = ret) (hlocks : meth.locks = false) {pc : Nat} {H : Heap} {ls : Array Slot} (hdg : decode code pc = .ok (.ireturn, 1)) : W p l e room_1 s m #[Value.ref b] below meth c H [] 601024 7293034 (lw_Z below #[Value.ref b] s) (F0 m pc ls [.int 1]) := by
  intro T hT X
  obtain ⟨fs, hret, hrun, hended, hW, hframe⟩ := X.leave (v := some (.int 1)) (hlocks := hlocks) (fun h => by rw [hr] at h; cases h)
  have hmeth' : T.vm.method? m = some meth := X.method'
  refine ⟨T.setFrames fs, ?_, .returned (some (.int 1)), hrun, hended, rfl, ⟨_, rfl⟩, hW, hframe⟩
  jvm_step X.here [X.here.top, hx, hb, hdg, hmeth', hr, ret, narrow_b1]
  (try refine ⟨rfl, ?_⟩); (try refine ⟨rfl, ?_⟩)
  first | (intro acts; rw [hret _ acts rfl rfl rfl]) | rw [hret _ _ rfl rfl rfl]
  exact Steps.refl _
def lw_At (p : Program) (s : State) (m : MethodId) (meth : Method) (c : Code) (b L : Nat) (xs : Nat → Int32) : Prop :=
  p.tables.exec = Jvm.exec ∧ c.code = code ∧ meth.sig.returnType = ret ∧ c.maxLocals = 7 ∧ s.vm.findClass R_law = some m.cls ∧ (∀ w ∈ lw_tbl, w.before #[Value.ref b] s = true) ∧ va_X b L xs s s.heap ∧ b < s.heap.size ∧ meth.locks = false ∧ (Jvm.Cond.and given_1 narrow_1).before #[Value.ref b] s = true
/-- what the law's walk knows: the script (cell, length, ints), that it writes new cells alone -/
def PPL (z : Nat × Nat × (Nat → Int32)) : PC9 := fun _ s A args _ => va_X z.1 z.2.1 z.2.2 s s.heap ∧ z.1 < s.heap.size ∧ ¬ A z.1 ∧ (∀ q, A q → s.heap.size ≤ q) ∧ args = #[Value.ref z.1]
def FFL : FC9 := fun below args s _ _ _ => lw_Z below args s
abbrev mL_law : MD := (yL_law, cL_law, 7, ret)
section LW
variable {FF : FC9} {M : MD} {fr lo mc ms : Nat} {pc ce sl : Nat} {ls : List (Option Value)} {st : List Value} {h : eH} {z : Nat × Nat × (Nat → Int32)}
theorem l_sld (np : Nat) {j : Nat} (hd : decode M.2.1 pc = .ok (.iaload, 1)) (hn : pc + 1 = np) (hj : j < z.2.1) (hL : z.2.1 ≤ 3072) (k : ES (PPL z) FF M fr lo mc ms np ls (.int (z.2.2 j) :: st) h ce sl) : ES (PPL z) FF M fr lo mc ms pc ls (.int (nI j) :: .ref z.1 :: st) h ce sl := by
  subst hn
  intro p l e s m args below meth c H locs D cA A lsA X Z R S L
  exact va_sld X.1 X.2.1 Z.1 Z.2.1 Z.2.2.1 S (i := nI j) (vp_in_nI hj (by omega)) hd (by rw [nI_clamp (by omega)]; exact k p l e s m args below meth c H locs D cA A lsA X Z R S L)
theorem l_slen (np : Nat) (hd : decode M.2.1 pc = .ok (.arraylength, 1)) (hn : pc + 1 = np) (k : ES (PPL z) FF M fr lo mc ms np ls (.int (nI z.2.1) :: st) h ce sl) : ES (PPL z) FF M fr lo mc ms pc ls (.ref z.1 :: st) h ce sl := by
  subst hn
  intro p l e s m args below meth c H locs D cA A lsA X Z R S L
  exact va_slen X.1 X.2.1 Z.1 Z.2.1 Z.2.2.1 S hd (k p l e s m args below meth c H locs D cA A lsA X Z R S L)
theorem s_end (hd : decode code pc = .ok (.ireturn, 1)) (hce : ce ≤ 601024) (hsl : sl ≤ 7293034) : ES (PPL z) FFL mL_law 11 430 601024 7293034 pc ls [.int (nI 1)] h ce sl := by
  intro p l e s m args below meth c H locs D cA A lsA X Z R S L T hT Xs
  have ha : args = #[Value.ref z.1] := Z.2.2.2.2
  subst ha
  have X1 : Stand p l e room_1 s m #[Value.ref z.1] below meth c T [] ce sl := Stand.dropFresh (J := locs) (locs := []) Xs (fun x hx => Z.2.2.2.1 _ (S.2.2 x hx))
  exact lw_ret X.1 X.2.1 X.2.2.1 X.2.2.2.2.2.2.2.1 hd T hT (stand_widen X1 hce hsl)
end LW
