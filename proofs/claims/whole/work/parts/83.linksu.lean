/-! a virtual call of a method that the receiver's class inherits -/
def CU (own : String) (index : Nat) (M' : MD) (xc : String) (ci n : Nat) : Prop := ∃ q0 : vw_C, vwCl[ci]? = some q0 ∧ Cond.code M'.1 M'.2.1 M'.2.2.1 M'.2.2.2 ∈ gw ∧ (∀ w ∈ va_wsU own index q0.1 M'.1.cls ⟨xc, M'.1.name, M'.1.desc⟩ M'.1 [], w ∈ gw) ∧ (M'.1.cls ≠ "java/lang/invoke/MethodHandle" ∧ M'.1.cls ≠ "java/lang/invoke/VarHandle" ∧ (parseMethodDescriptor M'.1.desc).map (fun d => d.parameters.length) = some n)
section ER
variable {M : MD} {fr lo mc ms : Nat} {Q : Option Value → eH → Prop} {pc ce sl : Nat} {ls : List (Option Value)} {st : List Value} {h : eH}
theorem e_callU (np : Nat) {index n fr' lo' mc' ms' b ci : Nat} {xc : String} {fs : List Value} {M' : MD} {av st0 : List Value} {Q' : Option Value → eH → Prop} {h1 h2 : eH} (hu : e_un h1 h2 = h) (hj : e_dj h1 h2) (hd : decode M.2.1 pc = .ok (.invokevirtual index, 3)) (hn : pc + 3 = np) (hC : CU M.1.cls index M' xc ci n) (hb : h b = some (.inr (ci, fs))) (hM : Ct M' (.ref b :: av) h1 Q' fr' lo' mc' ms') (hlen : av.length = n) (hst : st0 = av.reverse ++ .ref b :: st) (hcat : (st.map fun v => v.category).sum ≤ 8) (hR : (fr' + 1 ≤ fr ∧ 8 + (M'.2.2.1 + 11) + lo' ≤ lo) ∧ ce + mc' ≤ mc ∧ sl + ms' ≤ ms) (kk : ∀ (r : Option Value) (h1' : eH), Q' r h1' → e_dj h1' h2 → EE M fr lo mc ms Q np ls (r.toList ++ st) (e_un h1' h2) (ce + mc') (sl + ms')) : EE M fr lo mc ms Q pc ls st0 h ce sl := by
  subst hn
  intro p l e s m args below meth c H locs D cA A lsA X R S L
  have hts := X.2.2.2.2.2.1
  obtain ⟨q0, hq0, w1, wU, w4⟩ := hC
  have hrecv := va_recv (tys := e_tys cA) X.2.2.2.2.2.2.1.1 (e_one R hb) (ci := ci) (q0 := 0) hq0 rfl
  have hpre := e_pre (av := .ref b :: av) X.2.2.2.2.2.2.1 hu R
  have hT : GoodIn gw (va_wsU M.1.cls index q0.1 M'.1.cls ⟨xc, M'.1.name, M'.1.desc⟩ M'.1 (e_ws M')) := by
    intro w hw
    rcases List.mem_append.mp hw with z | z
    · have hg := wU w (List.mem_append_left _ z)
      exact ⟨hg, good_of_word (gw_good hg)⟩
    · exact e_good M' w1 w z
  refine e_after (mc' := mc') (ms' := ms') (rest := st) (a := (Value.ref b :: av).toArray) (Q' := Q') hu hj X.2.2.2.2.2.2.2.2.2 R ?_ S (fun r h' H1 locs1 q1 q0 q2 q3 => kk r h' q1 q0 p l e s m args below meth c H1 locs1 D cA A lsA X q2 q3 L)
  exact va_runU (Ts := gw) (C := q0.1) (owner := M'.1.cls) (x := ⟨xc, M'.1.name, M'.1.desc⟩) ⟨X.1, X.2.1, X.2.2.2.1, X.2.2.2.2.1, hts⟩ (hM l D cA H.size) (va_cwU n hts hT rfl rfl rfl rfl w4 hR.1) ⟨hpre.1, hrecv, hpre.2⟩ rfl hlen L.1.1 hst (lv_room hcat) hd hR.2
theorem p_callU (np : Nat) {L L1 L2 : List sA} (hL : stars L h) (is : List Nat) (n9 : Nat) (hn9 : L.length = n9) (hp : is.isPerm (List.range n9) = true) (hs : is.filterMap (fun i => L[i]?) = L1 ++ L2) {index n fr' lo' mc' ms' b ci : Nat} {xc : String} {M' : MD} {av st0 : List Value} {Q' : Option Value → List sA → Prop} {P : sA} (ho : isO P b ci) (j : Nat) (hP : L[j]? = some P) (hd : decode M.2.1 pc = .ok (.invokevirtual index, 3)) (hn : pc + 3 = np) (hC : CU M.1.cls index M' xc ci n) (hM : CA M' (.ref b :: av) L1 Q' fr' lo' mc' ms') (hlen : av.length = n) (hst : st0 = av.reverse ++ .ref b :: st) (hcat : (st.map fun v => v.category).sum ≤ 8) (hR : (fr' + 1 ≤ fr ∧ 8 + (M'.2.2.1 + 11) + lo' ≤ lo) ∧ ce + mc' ≤ mc ∧ sl + ms' ≤ ms) (kk : ∀ (r : Option Value) (L1' : List sA) (h' : eH), Q' r L1' → stars (L1' ++ L2) h' → EE M fr lo mc ms Q np ls (r.toList ++ st) h' (ce + mc') (sl + ms')) : EE M fr lo mc ms Q pc ls st0 h ce sl := by
  obtain ⟨fs, hb⟩ := stars_isO L j hL hP ho
  obtain ⟨h1, h2, hu, hj, k1, k2⟩ := (stars_app L1 L2).mp (stars_ix hL is (by rw [hn9]; exact hp) hs)
  refine e_callU np hu hj hd hn hC hb (hM h1 k1) hlen hst hcat hR (fun r h1' q hj' => ?_)
  obtain ⟨L', q1, q2⟩ := q
  exact kk r L' _ q1 ((stars_app L' L2).mpr ⟨h1', h2, rfl, hj', q2, k2⟩)
end ER
theorem cu_X15_238 : CU RX15 238 mX14_isGood "FieldLineModel$Device" 10 0 := ⟨_, rfl, kc_X14_isGood, List.forall_mem_cons.mpr ⟨(gk8 (List.mem_of_getElem? (i := 69) rfl) rfl), List.forall_mem_cons.mpr ⟨(gk8 (List.mem_of_getElem? (i := 70) rfl) rfl), List.forall_mem_cons.mpr ⟨(gk8 (List.mem_of_getElem? (i := 72) rfl) rfl), List.forall_mem_cons.mpr ⟨(gk8 (List.mem_of_getElem? (i := 38) rfl) rfl), List.forall_mem_cons.mpr ⟨(gk1 (List.mem_of_getElem? (i := 7) rfl) rfl), fun _ h => nomatch h⟩⟩⟩⟩⟩, by decide +kernel, by decide +kernel, by decide +kernel⟩
theorem cu_X15_393 : CU RX15 393 mX14_hears "FieldLineModel$Device" 10 1 := ⟨_, rfl, kc_X14_hears, List.forall_mem_cons.mpr ⟨(gk8 (List.mem_of_getElem? (i := 21) rfl) rfl), List.forall_mem_cons.mpr ⟨(gk8 (List.mem_of_getElem? (i := 22) rfl) rfl), List.forall_mem_cons.mpr ⟨(gk8 (List.mem_of_getElem? (i := 24) rfl) rfl), List.forall_mem_cons.mpr ⟨(gk8 (List.mem_of_getElem? (i := 16) rfl) rfl), List.forall_mem_cons.mpr ⟨(gk1 (List.mem_of_getElem? (i := 7) rfl) rfl), fun _ h => nomatch h⟩⟩⟩⟩⟩, by decide +kernel, by decide +kernel, by decide +kernel⟩
theorem cu_X15_431 : CU RX15 431 mX14_empties "FieldLineModel$Device" 10 0 := ⟨_, rfl, kc_X14_empties, List.forall_mem_cons.mpr ⟨(gk8 (List.mem_of_getElem? (i := 73) rfl) rfl), List.forall_mem_cons.mpr ⟨(gk8 (List.mem_of_getElem? (i := 74) rfl) rfl), List.forall_mem_cons.mpr ⟨(gk8 (List.mem_of_getElem? (i := 76) rfl) rfl), List.forall_mem_cons.mpr ⟨(gk8 (List.mem_of_getElem? (i := 60) rfl) rfl), List.forall_mem_cons.mpr ⟨(gk1 (List.mem_of_getElem? (i := 7) rfl) rfl), fun _ h => nomatch h⟩⟩⟩⟩⟩, by decide +kernel, by decide +kernel, by decide +kernel⟩
