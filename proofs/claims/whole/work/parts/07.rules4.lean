theorem e_sum1 : ∀ (st : List Value), (∀ v ∈ st, v.category = 1) → (st.map fun v => v.category).sum = st.length
  | [], _ => rfl
  | v :: l, h => by
    have h1 := e_sum1 l (fun w hw => h w (List.mem_cons_of_mem _ hw))
    have h2 := h v List.mem_cons_self
    simp only [List.map_cons, List.sum_cons, h1, h2, List.length_cons]
    omega
theorem e_findArr {s : State} {cA : ClassId} {ty : FieldType} (h : va_RA s cA ty) : s.vm.findClass ("[" ++ ty.toString) = some cA := by
  cases ty with
  | object C => exact h.choose_spec.choose_spec.2.2.2
  | _ => exact h
/-- two heaps side by side -/
def e_un (h1 h2 : eH) : eH := fun a => match h1 a with
  | some x => some x
  | none => h2 a
def e_dj (h1 h2 : eH) : Prop := ∀ a, h1 a = none ∨ h2 a = none
theorem e_un_l {h1 h2 : eH} {a : Nat} {x : va_E} (h : h1 a = some x) : e_un h1 h2 a = some x := by rw [e_un, h]
theorem e_un_r {h1 h2 : eH} {a : Nat} (h : h1 a = none) : e_un h1 h2 a = h2 a := by rw [e_un, h]
section ER
variable {M : MD} {fr lo mc ms : Nat} {Q : Option Value → eH → Prop} {pc ce sl : Nat} {ls : List (Option Value)} {st : List Value} {h : eH}
theorem e_newI (np : Nat) {n : Int32} {N : Nat} (hd : decode M.2.1 pc = .ok (.newarray .int, 2)) (hn : pc + 2 = np) (h0 : ¬ n < 0) (hN : n.toNatClampNeg = N) (hb : N ≤ 100000) (hce : ce + 1 ≤ mc) (hsl : sl + N ≤ ms) (kk : ∀ q : Nat, h q = none → EE M fr lo mc ms Q np ls (.ref q :: st) (e_up h q (.inl (0, N, .inl (fun _ => 0)))) (ce + 1) (sl + N)) : EE M fr lo mc ms Q pc ls (.int n :: st) h ce sl := by
  subst hn
  intro p l e s m args below meth c H locs D cA A lsA X R S L
  have hts := X.2.2.2.2.2.1
  have hw : Cond.arrayClass .int ∈ gw := by decide +kernel
  refine va_newaK X.1 X.2.1 (atype := .int) (hts _ hw) rfl hd rfl h0 hN (by show N * 4 ≤ _; omega) hce hsl rfl fun H1 cB e1 z1 o1 _ hNm => ?_
  have ec : cB = cA 0 := Option.some.inj (hNm.symm.trans (e_findArr (X.2.2.2.2.2.2.1.1.2 0 _ rfl).2))
  subst ec
  have hR := R.new (x := .inl (0, N, .inl (fun _ => 0))) (H1 := H1) (X.2.2.2.2.2.2.2.2.2 _ S.1) (by show H1[H.size]? = some (vp_cell _ _); rw [vp_cell_i]; exact e1) o1
  exact kk H.size hR.1 p l e s m args below meth c H1 locs D cA A lsA X hR.2 (e_S.new S (by omega) o1) L
theorem e_newL (np : Nat) {n : Int32} {N : Nat} (hd : decode M.2.1 pc = .ok (.newarray .long, 2)) (hn : pc + 2 = np) (h0 : ¬ n < 0) (hN : n.toNatClampNeg = N) (hb : N ≤ 100000) (hce : ce + 1 ≤ mc) (hsl : sl + N ≤ ms) (kk : ∀ q : Nat, h q = none → EE M fr lo mc ms Q np ls (.ref q :: st) (e_up h q (.inl (1, N, .inr (.inl (fun _ => 0))))) (ce + 1) (sl + N)) : EE M fr lo mc ms Q pc ls (.int n :: st) h ce sl := by
  subst hn
  intro p l e s m args below meth c H locs D cA A lsA X R S L
  have hts := X.2.2.2.2.2.1
  have hw : Cond.arrayClass .long ∈ gw := by decide +kernel
  refine va_newaK X.1 X.2.1 (atype := .long) (hts _ hw) rfl hd rfl h0 hN (by show N * 8 ≤ _; omega) hce hsl rfl fun H1 cB e1 z1 o1 _ hNm => ?_
  have ec : cB = cA 1 := Option.some.inj (hNm.symm.trans (e_findArr (X.2.2.2.2.2.2.1.1.2 1 _ rfl).2))
  subst ec
  have hR := R.new (x := .inl (1, N, .inr (.inl (fun _ => 0)))) (H1 := H1) (X.2.2.2.2.2.2.2.2.2 _ S.1) (by show H1[H.size]? = some (vp_cell _ _); rw [vp_cell_l]; exact e1) o1
  exact kk H.size hR.1 p l e s m args below meth c H1 locs D cA A lsA X hR.2 (e_S.new S (by omega) o1) L
theorem e_anew (np : Nat) {index t : Nat} {C : String} {n : Int32} {N : Nat} (hd : decode M.2.1 pc = .ok (.anewarray index, 3)) (hn : pc + 3 = np) (hw : Cond.classLink M.1.cls index C ∈ gw) (ho : Cond.arrayOver (.object C) ∈ ow) (ht : atys[t]? = some (.object C)) (h0 : ¬ n < 0) (hN : n.toNatClampNeg = N) (hb : N ≤ 100000) (hce : ce + 1 ≤ mc) (hsl : sl + N ≤ ms) (kk : ∀ q : Nat, h q = none → EE M fr lo mc ms Q np ls (.ref q :: st) (e_up h q (.inl (t, N, .inr (.inr (.inr (.inr (fun _ => none))))))) (ce + 1) (sl + N)) : EE M fr lo mc ms Q pc ls (.int n :: st) h ce sl := by
  subst hn; subst hN
  intro p l e s m args below meth c H locs D cA A lsA X R S L
  have hts := X.2.2.2.2.2.1
  refine W.anew X.1 X.2.1 X.2.2.2.2.1 (hts _ hw) (va_AO.use (C := C) (X.2.2.2.2.2.2.1.2.2 _ ho)) rfl hd rfl h0 (by omega) hce hsl fun cB kA comp f1 f2 f3 f4 => ?_
  have ec : cB = cA t := Option.some.inj (f1.symm.trans (e_findArr (X.2.2.2.2.2.2.1.1.2 t _ (e_tys_at ht)).2))
  subst ec
  generalize hH1 : H.push ({ cls := cA t, slots := Array.replicate n.toNatClampNeg .null, vm := .none } : Cell) = H1
  have z1 : H1.size = H.size + 1 := by rw [← hH1, Array.size_push]
  have e1 : H1[H.size]? = some (arrV (cA t) n.toNatClampNeg (fun _ => .null)) := by rw [← hH1, Array.getElem?_push_size, ← arrV_new]
  have o1 : ∀ q : Nat, q < H.size → H1[q]? = H[q]? := fun q hq => by rw [← hH1, Array.getElem?_push, if_neg (Nat.ne_of_lt hq)]
  have hR := R.new (x := .inl (t, n.toNatClampNeg, .inr (.inr (.inr (.inr (fun _ => none)))))) (H1 := H1) (X.2.2.2.2.2.2.2.2.2 _ S.1) (by show H1[H.size]? = some (vp_cell _ _); rw [vp_cell_q]; exact e1) o1
  exact kk H.size hR.1 p l e s m args below meth c H1 locs D cA A lsA X hR.2 (e_S.new S (by omega) o1) L
/-- behind a call: the callee's heap h1, the rest h2 stays -/
theorem e_after {p : Program} {l : Launch} {e : Env} {R9 : Room} {s : State} {m : MethodId} {args : Array Value} {below : List Frame} {meth : Method} {c : Code} {H : Heap} {locs : List Loc} {Qw : State → Prop} {D : va_G} {cA : Nat → ClassId} {A : Nat → Prop} {mc' ms' : Nat} {lsA : Array Slot} {st0 rest : List Value} {a : Array Value} {Q' : Option Value → eH → Prop} {h1 h2 : eH} (hu : e_un h1 h2 = h) (hj : e_dj h1 h2) (hA : ∀ q : Nat, s.heap.size ≤ q → A q) (R : e_rp D cA A h H) (hr : va_Run p l e R9 s m args below meth c H locs ce sl mc' ms' (F0 m pc lsA st0) rest (e_Qc D cA (e_A h1 H.size) Q' a) (e_A h1 H.size)) (S : va_S A s.heap H locs)
    (kk : ∀ (r : Option Value) (h1' : eH) (H1 : Heap) (locs1 : List Loc), Q' r h1' → e_dj h1' h2 → e_rp D cA A (e_un h1' h2) H1 → va_S A s.heap H1 locs1 → W p l e R9 s m args below meth c H1 locs1 (ce + mc') (sl + ms') Qw (F0 m (pc + 3) lsA (r.toList ++ rest))) : W p l e R9 s m args below meth c H locs ce sl Qw (F0 m pc lsA st0) := by
  subst hu
  have hin : ∀ q : Nat, e_A h1 H.size q → A q := by
    rintro q (⟨x, hx⟩ | hq)
    · exact (R q x (e_un_l hx)).1
    · exact hA q (Nat.le_trans S.1 hq)
  intro T hT X
  obtain ⟨v, st₀, t, T', L, h0, X', hL, e1, e2, ⟨r, h', hv, hq, hrp, hz, hk⟩, st⟩ := hr T hT X
  cases hv
  rw [h0] at hz hk
  have out2 : ∀ (b : Nat) (x : va_E), h2 b = some x → b < H.size ∧ ¬ e_A h1 H.size b := by
    intro b x hx
    have h9 : h1 b = none := (hj b).resolve_right (by rw [hx]; simp)
    have hl := (R b x (by rw [e_un, h9]; exact hx)).2.lt
    refine ⟨hl, ?_⟩
    rintro (⟨y, hy⟩ | hy)
    · rw [h9] at hy; cases hy
    · omega
  have hj' : e_dj h' h2 := by
    intro b
    cases hb : h2 b with
    | none => exact Or.inr rfl
    | some x =>
      left
      cases hb' : h' b with
      | none => rfl
      | some y => exact absurd (hrp b y hb').1 (out2 b x hb).2
  obtain ⟨t2, a1, b1⟩ := kk v h' T'.heap (locs ++ L) hq hj' (by
      intro b x hx
      rw [e1]
      cases hb : h' b with
      | some y =>
        rw [e_un, hb] at hx
        cases hx
        exact ⟨hin b (hrp b _ hb).1, (hrp b _ hb).2⟩
      | none =>
        rw [e_un, hb] at hx
        have h9 : h1 b = none := (hj b).resolve_right (by rw [show h2 b = some x from hx]; simp)
        have hR := R b x (by rw [e_un, h9]; exact hx)
        exact ⟨hR.1, hR.2.kept (hk b (out2 b x hx).1 (out2 b x hx).2)⟩) ⟨Nat.le_trans S.1 (by rw [e1]; exact hz), fun q h1 h2 => by rw [e1, hk q (Nat.lt_of_lt_of_le h1 S.1) (fun z => h2 (hin q z))]; exact S.2.1 q h1 h2, fun q hq => by
      rcases List.mem_append.mp hq with h | h
      · exact S.2.2 q h
      · exact hin _ (hL q h)⟩ T' rfl X'
  exact ⟨t2, st t2 a1, b1⟩
theorem e_good (M' : MD) (hc : Cond.code M'.1 M'.2.1 M'.2.2.1 M'.2.2.2 ∈ gw) : GoodIn gw (e_ws M') := by
  intro w hw
  rcases List.mem_cons.mp hw with rfl | hw
  · exact ⟨hc, good_of_word (gw_good hc)⟩
  · exact ⟨hw, good_of_word (gw_good hw)⟩
theorem e_pre {s : State} {H : Heap} {D : va_G} {cA : Nat → ClassId} {A : Nat → Prop} {h1 h2 : eH} {av : List Value} (hK : e_K D cA s) (hu : e_un h1 h2 = h) (hR : e_rp D cA A h H) : PreS s H (e_Pc D cA H.size av h1) av :=
  ⟨fun a U g mk q => ⟨q.1, q.2.1, q.2.2.1, e_K.same (u := U) (U := U.calling g mk a) rfl q.2.2.2⟩, fun U hU hW => ⟨rfl, by rw [hU], by rw [hU]; exact fun b x hx => ⟨Or.inl ⟨x, hx⟩, (hR b x (by rw [← hu]; exact e_un_l hx)).2⟩, e_K.warm hW hK⟩⟩
/-- the words of a static call -/
def CS (own : String) (index : Nat) (M' : MD) (n : Nat) : Prop := (Cond.code M'.1 M'.2.1 M'.2.2.1 M'.2.2.2 ∈ gw ∧ Cond.static M'.1 ∈ gw ∧ Cond.initialized M'.1.cls ∈ gw ∧ (M'.1.cls ≠ "java/lang/invoke/MethodHandle" ∧ M'.1.cls ≠ "java/lang/invoke/VarHandle" ∧ (parseMethodDescriptor M'.1.desc).map (fun d => d.parameters.length) = some n)) ∧ (Cond.methodLink own index M'.1 ∈ gw ∨ ∃ host, Cond.methodLinkNest own index M'.1 host ∈ nw)
theorem e_callS (np : Nat) {index n fr' lo' mc' ms' : Nat} {M' : MD} {av st0 : List Value} {Q' : Option Value → eH → Prop} {h1 h2 : eH} (hu : e_un h1 h2 = h) (hj : e_dj h1 h2) (hd : decode M.2.1 pc = .ok (.invokestatic index, 3)) (hn : pc + 3 = np) (hC : CS M.1.cls index M' n) (hM : Ct M' av h1 Q' fr' lo' mc' ms') (hlen : av.length = n) (hst : st0 = av.reverse ++ st) (hcat : (st.map fun v => v.category).sum ≤ 8) (hR : (fr' + 1 ≤ fr ∧ 8 + (M'.2.2.1 + 11) + lo' ≤ lo) ∧ ce + mc' ≤ mc ∧ sl + ms' ≤ ms) (kk : ∀ (r : Option Value) (h1' : eH), Q' r h1' → e_dj h1' h2 → EE M fr lo mc ms Q np ls (r.toList ++ st) (e_un h1' h2) (ce + mc') (sl + ms')) : EE M fr lo mc ms Q pc ls st0 h ce sl := by
  subst hn
  intro p l e s m args below meth c H locs D cA A lsA X R S L
  have hts := X.2.2.2.2.2.1
  obtain ⟨⟨w1, w2, w3, w4⟩, hlk⟩ := hC
  refine e_after (mc' := mc') (ms' := ms') (rest := st) (a := av.toArray) (Q' := Q') hu hj X.2.2.2.2.2.2.2.2.2 R ?_ S (fun r h' H1 locs1 q1 q0 q2 q3 => kk r h' q1 q0 p l e s m args below meth c H1 locs1 D cA A lsA X q2 q3 L)
  rcases hlk with hlk | ⟨host, hlk⟩
  · exact va_runS (Ts := gw) ⟨X.1, X.2.1, X.2.2.2.1, X.2.2.2.2.1, hts⟩ (hM l D cA H.size) ⟨callB_of n hts (e_good M' w1) rfl rfl rfl (hts _ w3) (hts _ hlk) w4 hR.1, hts _ w2⟩ (e_pre X.2.2.2.2.2.2.1 hu R) rfl hlen L.1.1 hst (lv_room hcat) hd hR.2
  · exact va_runSN (Ts := gw) ⟨X.1, X.2.1, X.2.2.2.1, X.2.2.2.2.1, hts⟩ (hM l D cA H.size) ⟨va_cnB n hts (e_good M' w1) rfl rfl rfl (X.2.2.2.2.2.2.1.2.1 _ hlk) (hts _ w3) w4 hR.1, hts _ w2, trivial⟩ (e_pre X.2.2.2.2.2.2.1 hu R) rfl hlen L.1.1 hst (lv_room hcat) hd hR.2
/-- the words of a constructor's call -/
def CI (own : String) (index : Nat) (M' : MD) (n : Nat) : Prop := (Cond.code M'.1 M'.2.1 M'.2.2.1 none ∈ gw ∧ M'.2.2.2 = none ∧ Cond.instanceMethod M'.1 ∈ gw ∧ Cond.initialized M'.1.cls ∈ gw ∧ M'.1.name = "<init>" ∧ (M'.1.cls ≠ "java/lang/invoke/MethodHandle" ∧ M'.1.cls ≠ "java/lang/invoke/VarHandle" ∧ (parseMethodDescriptor M'.1.desc).map (fun d => d.parameters.length) = some n)) ∧ (Cond.methodLink own index M'.1 ∈ gw ∨ ∃ host, Cond.methodLinkNest own index M'.1 host ∈ nw)
theorem e_callI (np : Nat) {index n fr' lo' mc' ms' b : Nat} {M' : MD} {av st0 : List Value} {Q' : Option Value → eH → Prop} {h1 h2 : eH} (hu : e_un h1 h2 = h) (hj : e_dj h1 h2) (hd : decode M.2.1 pc = .ok (.invokespecial index, 3)) (hn : pc + 3 = np) (hC : CI M.1.cls index M' n) (hM : Ct M' (.ref b :: av) h1 Q' fr' lo' mc' ms') (hlen : av.length = n) (hst : st0 = av.reverse ++ .ref b :: st) (hcat : (st.map fun v => v.category).sum ≤ 8) (hR : (fr' + 1 ≤ fr ∧ 8 + (M'.2.2.1 + 11) + lo' ≤ lo) ∧ ce + mc' ≤ mc ∧ sl + ms' ≤ ms) (kk : ∀ (r : Option Value) (h1' : eH), Q' r h1' → e_dj h1' h2 → EE M fr lo mc ms Q np ls (r.toList ++ st) (e_un h1' h2) (ce + mc') (sl + ms')) : EE M fr lo mc ms Q pc ls st0 h ce sl := by
  subst hn
  intro p l e s m args below meth c H locs D cA A lsA X R S L
  have hts := X.2.2.2.2.2.1
  obtain ⟨⟨w1, w0, w2, w3, w5, w4⟩, hlk⟩ := hC
  obtain ⟨y, cc, mL, rt⟩ := M'
  cases w0
  refine e_after (mc' := mc') (ms' := ms') (rest := st) (a := (Value.ref b :: av).toArray) (Q' := Q') hu hj X.2.2.2.2.2.2.2.2.2 R ?_ S (fun r h' H1 locs1 q1 q0 q2 q3 => kk r h' q1 q0 p l e s m args below meth c H1 locs1 D cA A lsA X q2 q3 L)
  rcases hlk with hlk | ⟨host, hlk⟩
  · exact va_runI (Ts := gw) ⟨X.1, X.2.1, X.2.2.2.1, X.2.2.2.2.1, hts⟩ (hM l D cA H.size) ⟨callB_of n hts (e_good (y, cc, mL, none) w1) rfl rfl rfl (hts _ w3) (hts _ hlk) w4 hR.1, w5, hts _ w2⟩ (e_pre X.2.2.2.2.2.2.1 hu R) rfl hlen L.1.1 hst (lv_room hcat) hd hR.2
  · exact va_runIN (Ts := gw) ⟨X.1, X.2.1, X.2.2.2.1, X.2.2.2.2.1, hts⟩ (hM l D cA H.size) ⟨va_cnB n hts (e_good (y, cc, mL, none) w1) rfl rfl rfl (X.2.2.2.2.2.2.1.2.1 _ hlk) (hts _ w3) w4 hR.1, w5, hts _ w2⟩ (e_pre X.2.2.2.2.2.2.1 hu R) rfl hlen L.1.1 hst (lv_room hcat) hd hR.2
/-- the words of a virtual call, the receiver of class ci -/
def CV (own : String) (index : Nat) (M' : MD) (ci n : Nat) : Prop := ∃ q0 : vw_C, vwCl[ci]? = some q0 ∧ (Cond.code M'.1 M'.2.1 M'.2.2.1 M'.2.2.2 ∈ gw ∧ Cond.instanceMethod M'.1 ∈ gw ∧ Cond.initialized M'.1.cls ∈ gw ∧ Cond.selects q0.1 M'.1 M'.1 ∈ gw ∧ (M'.1.cls ≠ "java/lang/invoke/MethodHandle" ∧ M'.1.cls ≠ "java/lang/invoke/VarHandle" ∧ (parseMethodDescriptor M'.1.desc).map (fun d => d.parameters.length) = some n)) ∧ (Cond.methodLink own index M'.1 ∈ gw ∨ ∃ host, Cond.methodLinkNest own index M'.1 host ∈ nw)
theorem e_callV (np : Nat) {index n fr' lo' mc' ms' b ci : Nat} {fs : List Value} {M' : MD} {av st0 : List Value} {Q' : Option Value → eH → Prop} {h1 h2 : eH} (hu : e_un h1 h2 = h) (hj : e_dj h1 h2) (hd : decode M.2.1 pc = .ok (.invokevirtual index, 3)) (hn : pc + 3 = np) (hC : CV M.1.cls index M' ci n) (hb : h b = some (.inr (ci, fs))) (hM : Ct M' (.ref b :: av) h1 Q' fr' lo' mc' ms') (hlen : av.length = n) (hst : st0 = av.reverse ++ .ref b :: st) (hcat : (st.map fun v => v.category).sum ≤ 8) (hR : (fr' + 1 ≤ fr ∧ 8 + (M'.2.2.1 + 11) + lo' ≤ lo) ∧ ce + mc' ≤ mc ∧ sl + ms' ≤ ms) (kk : ∀ (r : Option Value) (h1' : eH), Q' r h1' → e_dj h1' h2 → EE M fr lo mc ms Q np ls (r.toList ++ st) (e_un h1' h2) (ce + mc') (sl + ms')) : EE M fr lo mc ms Q pc ls st0 h ce sl := by
  subst hn
  intro p l e s m args below meth c H locs D cA A lsA X R S L
  have hts := X.2.2.2.2.2.1
  obtain ⟨q0, hq0, ⟨w1, w2, w3, w6, w4⟩, hlk⟩ := hC
  have hrecv := va_recv (tys := e_tys cA) X.2.2.2.2.2.2.1.1 (e_one R hb) (ci := ci) (q0 := 0) hq0 rfl
  have hpre := e_pre (av := .ref b :: av) X.2.2.2.2.2.2.1 hu R
  refine e_after (mc' := mc') (ms' := ms') (rest := st) (a := (Value.ref b :: av).toArray) (Q' := Q') hu hj X.2.2.2.2.2.2.2.2.2 R ?_ S (fun r h' H1 locs1 q1 q0 q2 q3 => kk r h' q1 q0 p l e s m args below meth c H1 locs1 D cA A lsA X q2 q3 L)
  rcases hlk with hlk | ⟨host, hlk⟩
  · exact va_runV (Ts := gw) (C := q0.1) ⟨X.1, X.2.1, X.2.2.2.1, X.2.2.2.2.1, hts⟩ (hM l D cA H.size) ⟨callB_of n hts (e_good M' w1) rfl rfl rfl (hts _ w3) (hts _ hlk) w4 hR.1, hts _ w2, hts _ w6⟩ ⟨hpre.1, hrecv, hpre.2⟩ rfl hlen L.1.1 hst (lv_room hcat) hd hR.2
  · exact va_runVN (Ts := gw) (C := q0.1) ⟨X.1, X.2.1, X.2.2.2.1, X.2.2.2.2.1, hts⟩ (hM l D cA H.size) ⟨va_cnB n hts (e_good M' w1) rfl rfl rfl (X.2.2.2.2.2.2.1.2.1 _ hlk) (hts _ w3) w4 hR.1, hts _ w2, hts _ w6⟩ ⟨hpre.1, hrecv, hpre.2⟩ rfl hlen L.1.1 hst (lv_room hcat) hd hR.2
/-- Object's constructor -/
theorem e_objInit (np : Nat) {index a : Nat} (hd : decode M.2.1 pc = .ok (.invokespecial index, 3)) (hn : pc + 3 = np) (hlk : Cond.methodLink M.1.cls index objectInit ∈ gw) (hR : 1 ≤ fr ∧ 20 ≤ lo) (hcat : (st.map fun v => v.category).sum ≤ 8) (k : EE M fr lo mc ms Q np ls st h ce sl) : EE M fr lo mc ms Q pc ls (.ref a :: st) h ce sl := by
  subst hn
  intro p l e s m args below meth c H locs D cA A lsA X R S L
  have hts := X.2.2.2.2.2.1
  have w1 : Cond.instanceMethod objectInit ∈ gw := by decide +kernel
  have w2 : Cond.code objectInit ⟨#[0xb1]⟩ 1 none ∈ gw := by decide +kernel
  have h9 := lv_room (m := m) (pc := pc) (ls := lsA) (rest := (.ref a :: st)) hcat
  exact W.objInit X.1 X.2.1 X.2.2.2.2.1 (hts _ hlk) (hts _ w1) (hts _ w2) rfl (by rw [X.2.2.2.1]; exact L.1.1) rfl hd hR.1 (by show 2 * (F0 m pc lsA (.ref a :: st)).monitorRoom + _ + 12 ≤ lo; omega) (k p l e s m args below meth c H locs D cA A lsA X R S L)
theorem e_min (np : Nat) {index : Nat} {x y v : Int32} (hd : decode M.2.1 pc = .ok (.invokestatic index, 3)) (hn : pc + 3 = np) (hlk : Cond.methodLink M.1.cls index Lib.Math.min.name ∈ gw) (hR : 1 ≤ fr ∧ 21 ≤ lo) (hcat : (st.map fun v => v.category).sum ≤ 8) (hcc : ce ≤ mc ∧ sl ≤ ms) (hv : (if y < x then y else x) = v) (k : EE M fr lo mc ms Q np ls (.int v :: st) h ce sl) : EE M fr lo mc ms Q pc ls (.int y :: .int x :: st) h ce sl := by
  subst hn; subst hv
  intro p l e s m args below meth c H locs D cA A lsA X R S L
  have hts := X.2.2.2.2.2.1
  have w1 : Cond.static Lib.Math.min.name ∈ gw := by decide +kernel
  have w2 : Cond.initialized "java/lang/Math" ∈ gw := by decide +kernel
  have w3 : Cond.code Lib.Math.min.name Lib.Math.min.code 2 (some .int) ∈ gw := by decide +kernel
  exact va_mmin X.1 X.2.1 (by rw [X.2.2.2.1]; exact L.1.1.symm) X.2.2.2.2.1 (hts _ hlk) (hts _ w1) (hts _ w2) (hts _ w3) hR.1 (by show _ + 13 ≤ lo; omega) hcc.1 hcc.2 hd (k p l e s m args below meth c H locs D cA A lsA X R S L)
theorem e_max (np : Nat) {index : Nat} {x y v : Int32} (hd : decode M.2.1 pc = .ok (.invokestatic index, 3)) (hn : pc + 3 = np) (hlk : Cond.methodLink M.1.cls index Lib.Math.max.name ∈ gw) (hR : 1 ≤ fr ∧ 21 ≤ lo) (hcat : (st.map fun v => v.category).sum ≤ 8) (hcc : ce ≤ mc ∧ sl ≤ ms) (hv : (if x < y then y else x) = v) (k : EE M fr lo mc ms Q np ls (.int v :: st) h ce sl) : EE M fr lo mc ms Q pc ls (.int y :: .int x :: st) h ce sl := by
  subst hn; subst hv
  intro p l e s m args below meth c H locs D cA A lsA X R S L
  have hts := X.2.2.2.2.2.1
  have w1 : Cond.static Lib.Math.max.name ∈ gw := by decide +kernel
  have w2 : Cond.initialized "java/lang/Math" ∈ gw := by decide +kernel
  have w3 : Cond.code Lib.Math.max.name Lib.Math.max.code 2 (some .int) ∈ gw := by decide +kernel
  exact va_mmax X.1 X.2.1 (by rw [X.2.2.2.1]; exact L.1.1.symm) X.2.2.2.2.1 (hts _ hlk) (hts _ w1) (hts _ w2) (hts _ w3) hR.1 (by show _ + 13 ≤ lo; omega) hcc.1 hcc.2 hd (k p l e s m args below meth c H locs D cA A lsA X R S L)
end ER
