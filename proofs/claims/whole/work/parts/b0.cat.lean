/-! a handler takes what was thrown, its class perhaps linked only now: from the model's own words and ThrowLaws; nothing of Shelf42 -/
section CT
variable {e : Env} {s : State} {f : JFrame} {a : Addr}
theorem fh_cold {Q : Handler → Pre} {E : CtlPost} {d : Bool} {acts : List Action} {x : ExceptionTableEntry} {t : List ExceptionTableEntry} {c : ClassId} {cell : Cell} {vm' : Vm} (hx : covers x f.pc = true) (h0 : x.catchType ≠ 0) (hg : (Jvm.resolveClass f.method.cls x.catchType).Gives e.toSetting s.vm (.ok c) vm') (hsz : vm'.classes.size ≤ s.vm.classes.size) (hcell : s.heap[a]? = some cell) (hobj : ∀ k, cell.vm ≠ .statics k) (hk : ∃ k, vm'.classes[cell.cls]? = some k) (hc : ∃ k, vm'.classes[c]? = some k) (hfit : vm'.assignable cell.cls c = true) :
    wp (findHandler.go f a (x :: t)) Q E e d acts s ↔ Q (.found x.handlerPc) d acts (s.setVm vm') := by
  simp only [covers] at hx
  obtain ⟨ha, ht⟩ := hg.op (op := VmOp.resolveClass f.method.cls x.catchType) rfl
  simp [findHandler.go, hx, h0, ha, ht, hsz, hcell, hobj, hk, hc, hfit, VmOp.dirties, VmOp.acts]
/-- what the search gives, and the state that it leaves -/
def FindsTo9 (e : Env) (s : State) (f : JFrame) (a : Addr) (pc : Nat) (s' : State) : Prop := ∀ (Q : Handler → Pre) (E : CtlPost) (d : Bool) (acts : List Action), wp (findHandler f a) Q E e d acts s ↔ Q (.found pc) d acts s'
theorem finds9 {x : ExceptionTableEntry} {t : List ExceptionTableEntry} {c : ClassId} {cell : Cell} {vm' : Vm} {meth : Method} {code : Code} (hm : s.vm.method? f.method = some meth) (hcd : meth.code = some code) (hsplit : code.exceptionTable.toList = x :: t) (hx : covers x f.pc = true) (h0 : x.catchType ≠ 0) (hg : (Jvm.resolveClass f.method.cls x.catchType).Gives e.toSetting s.vm (.ok c) vm') (hsz : vm'.classes.size ≤ s.vm.classes.size) (hcell : s.heap[a]? = some cell) (hobj : ∀ k, cell.vm ≠ .statics k) (hk : ∃ k, vm'.classes[cell.cls]? = some k) (hc : ∃ k, vm'.classes[c]? = some k) (hfit : vm'.assignable cell.cls c = true) : FindsTo9 e s f a x.handlerPc (s.setVm vm') := by
  intro Q E d acts
  rw [W.findHandler_eq hm hcd, hsplit]
  exact fh_cold hx h0 hg hsz hcell hobj hk hc hfit
theorem stepThrowing_c9 {r : List Frame} {pc : Nat} {s' : State} (hfind : FindsTo9 e s f a pc s') : (stepThrowing e s a (.java f :: r)).Is (s'.setFrames (.java { f with pc := pc, stack := [.ref a] } :: r)) [] := by
  simp only [stepThrowing, searchFrame, vmDo]
  generalize hr : Sem.go _ e false [] s = res
  obtain ⟨as, rfl, ha⟩ := Sem.eq_ok_of hr (a := Handler.found pc) (s' := s') (acts' := []) (by simp [hfind _ _ _ _])
  exact ⟨rfl, ha⟩
variable {tb : Tables} {target : State} {g : JFrame} {c : Code} {below : List Frame}
theorem steps_caught9 (h : At s g.method c below) {pc : Nat} {vm' : Vm} (hfind : FindsTo9 e ((s.setTop g).pushFrame (.throwing a)) g a pc (((s.setTop g).pushFrame (.throwing a)).setVm vm')) (hrest : Steps tb e below ((s.setVm vm').setTop { g with pc := pc, stack := [.ref a] }) target) : Steps tb e below ((s.setTop g).pushFrame (.throwing a)) target := by
  obtain ⟨hgo, hw⟩ := h.throwing a
  refine Steps.head hgo hw ?_
  rw [stepThread_throwing (frames_entered h.top _), (stepThrowing_c9 (s := (s.setTop g).pushFrame (.throwing a)) hfind).1]
  obtain ⟨g₀, hg⟩ := Option.isSome_iff_exists.mp h.top
  obtain ⟨r, hr⟩ := State.topJava?_eq_some.mp hg
  have hr2 : (s.setVm vm').frames = .java g₀ :: r := hr
  rw [State.setTop_of_frames _ hr2] at hrest
  have e1 : ∀ fs gs : List Frame, ((s.setFrames fs).setVm vm').setFrames gs = (s.setVm vm').setFrames gs := fun fs gs => by
    show ((s.setVm vm').setFrames fs).setFrames gs = _
    rw [State.setFrames_setFrames]
  rw [State.pushFrame, State.setTop_of_frames _ hr, hr, State.setFrames_setFrames, e1]
  exact hrest
end CT
