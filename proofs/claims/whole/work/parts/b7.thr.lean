/-! throws: what a throw needs, carried to the callees; contracts of methods that throw; a method that catches; longs -/
theorem w_ls {av : List Value} {j : Nat} {ls : List (Option Value)} (hls : av.map some ++ List.replicate j none = ls) : ∀ (i : Nat) (v : Value), ls[i]? = some (some v) → av[i]? = some v := by
  intro i v hi
  subst hls
  by_cases q : i < av.length
  · rw [List.getElem?_append_left (by simpa using q), List.getElem?_map] at hi
    cases e : av[i]? with
    | none => rw [e] at hi; simp at hi
    | some w => rw [e] at hi; simp at hi; rw [hi]
  · rw [List.getElem?_append_right (by simpa using q)] at hi
    have h2 := List.mem_of_getElem? hi
    simp at h2
theorem KX.mv {l : Launch} {A B : Nat → Prop} {s U : State} (k : KX l A s) (hW : s.WarmedH U.vm) (hk : ∀ a : Nat, a < s.heap.size → ¬ A a → U.heap[a]? = s.heap[a]?) (hB : ∀ q, B q → A q) : KX l B U := by
  obtain ⟨k1, k2, k3, ⟨s1, k4⟩, ⟨s2, k5⟩, k6⟩ := k
  refine ⟨k1, vx_Zq.moved hW.alike ((k2.kept hk).narrow hB), vx_Zq.moved hW.alike ((k3.kept hk).narrow hB), ⟨s1, vk_R.warm hW k4⟩, ⟨s2, vk_R.warm hW k5⟩, fun w hw => ?_⟩
  have h1 := k6 w hw
  have h2 := (List.mem_filter.mp hw).2
  cases w with
  | declares x => exact va_tabs rfl (u := s.setVm U.vm) rfl (Cond.faceAtom_setVm hW.alike _ rfl h1)
  | castable a b => exact va_tabs rfl (u := s.setVm U.vm) rfl (Cond.faceAtom_setVm hW.alike _ rfl h1)
  | _ => exfalso; revert h2; simp
def e_PX (l : Launch) (D : va_G) (cA : Nat → ClassId) (sz : Nat) (av : List Value) (h : eH) : Array Value → State → Prop := fun v U => e_Pc D cA sz av h v U ∧ KX l (e_A h sz) U
theorem e_preX {l : Launch} {s : State} {H : Heap} {D : va_G} {cA : Nat → ClassId} {A : Nat → Prop} {h h1 h2 : eH} {av : List Value} {locs : List Loc} (hK : e_K D cA s) (hu : e_un h1 h2 = h) (hR : e_rp D cA A h H) (k : KX l A s) (S : va_S A s.heap H locs) (hA : ∀ q : Nat, s.heap.size ≤ q → A q) : PreS s H (e_PX l D cA H.size av h1) av := by
  have hp := e_pre (av := av) hK hu hR
  refine ⟨fun a U g mk q => ⟨hp.1 a U g mk q.1, q.2.mv (U := U.calling g mk a) (State.WarmedH.refl U) (fun _ _ _ => rfl) (fun _ z => z)⟩, fun U hU hW => ⟨hp.2 U hU hW, k.mv hW (fun a h1 h2 => by rw [hU]; exact S.2.1 a h1 h2) ?_⟩⟩
  rintro q (⟨x, hx⟩ | hq)
  · exact (hR q x (by rw [← hu]; exact e_un_l hx)).1
  · exact hA q (Nat.le_trans S.1 hq)
/-- a method that throws E and leaves a heap with Q -/
def CtX (M : MD) (av : List Value) (h : eH) (E : String) (Q : eH → Prop) (fr lo mc ms : Nat) : Prop := ∀ (l : Launch) (D : va_G) (cA : Nat → ClassId) (sz : Nat), vx_Met l M.1 (e_ws M) { frames := fr, cells := mc, slots := ms, locals := lo } (e_PX l D cA sz av h) (fun _ _ _ _ => False) (fun E' st t => E' = E ∧ (∃ h', Q h' ∧ e_rp D cA (e_A h sz) h' t.heap) ∧ va_F (e_A h sz) st t) mc ms (e_A h sz)
def PPX : PC9 := fun l s A _ c => KX l A s ∧ ∀ x ∈ c.exceptionTable.toList, False
def FFX (E : String) (Q : eH → Prop) (mc ms : Nat) : FC9 := fun below args s D cA A => vx_MQ below (fun _ _ _ _ => False) (fun E' st t => E' = E ∧ (∃ h', Q h' ∧ e_rp D cA A h' t.heap) ∧ va_F A st t) args s mc ms A
theorem CtX.of {M : MD} {av : List Value} {h : eH} {E : String} {Q : eH → Prop} {fr lo mc ms : Nat} (j : Nat) {ls : List (Option Value)} (hy9 : (plainName M.1.cls && notLaw M.1) = true) (hav9 : av.all (fun v => v.category == 1) = true) (hn : av.length ≤ M.2.2.1) (hls9 : av.map some ++ List.replicate j none = ls) (k : ES PPX (FFX E Q mc ms) M fr lo mc ms 0 ls [] h 0 0) : CtX M av h E Q fr lo mc ms := by
  have hy : plainName M.1.cls = true := (Bool.and_eq_true_iff.mp hy9).1
  have hnl : notLaw M.1 = true := (Bool.and_eq_true_iff.mp hy9).2
  have hav : ∀ v ∈ av, v.category = 1 := fun v hv => by simpa using List.all_eq_true.mp hav9 v hv
  have hls : ∀ (i : Nat) (v : Value), ls[i]? = some (some v) → av[i]? = some v := w_ls hls9
  intro l D cA sz
  refine vx_ofW (cc := M.2.1) (maxL := M.2.2.1) (ret := M.2.2.2) hy rfl ?_
  intro p e s m args below meth c s₁ B hml htb hv
  obtain ⟨⟨rfl, rfl, hrp, hK⟩, hkx⟩ := hv
  have hts := atoms_spec (ws := e_ws M) B.pre
  have hl := lv_entry av (n := M.2.2.1) (by rw [e_sl av hav]; exact hn)
  rw [lg_entry_eq]
  rw [e_args 0 av hav] at hl
  refine k p l e s m _ below meth c s.heap [] D cA (e_A h s.heap.size) _ ⟨B.exec, B.bytes, B.returns, hml, findClass_of_methodNamed B.named, fun w hw => hts w (List.mem_cons_of_mem _ hw), hK, B.notSynchronized, ⟨(name_of_methodNamed B.named B.method).1, fun z => by rw [hnl] at z; cases z⟩, fun q hq => Or.inr hq⟩ ⟨hkx, htb⟩ hrp va_S.rf ⟨e_L.of hl (fun i v h => by rw [List.getElem?_map, hls i v h]; rfl), fun v hv => ?_⟩
  obtain ⟨i, hi⟩ := List.getElem?_of_mem hv
  exact hav v (List.mem_of_getElem? (hls i v hi))
abbrev xN : List String := ["java/lang/RuntimeException", "java/lang/Exception"]
theorem s_thrA {M : MD} {E : String} {ic : Nat} {D : va_G} {cA : Nat → ClassId} {A : Nat → Prop} {p : Program} {s : State} {m : MethodId} {args : Array Value} {meth : Method} {c : Code} {l : Launch} (hat : ∀ w ∈ vx_atS M.1.cls ic E xN, w ∈ gw ∨ w ∈ kxw) (X : e_X M D cA A p s m args meth c l) (Z : KX l A s) : ∀ w ∈ vx_atS M.1.cls ic E xN, w.before args s = true := by
  intro w hw
  rcases hat w hw with h | h
  · exact X.2.2.2.2.2.1 w h
  · have h1 := Z.2.2.2.2.2 w h
    have h2 := (List.mem_filter.mp h).2
    cases w with
    | declares x => exact va_tabs rfl rfl h1
    | castable a b => exact va_tabs rfl rfl h1
    | _ => exfalso; revert h2; simp
section TH
variable {M : MD} {fr lo mc ms : Nat} {pc ce sl : Nat} {ls : List (Option Value)} {h : eH}
theorem s_thr {Q : eH → Prop} (hq : Q h) {E text : String} {ik is ic : Nat} (hkk : ∀ (l : Launch) (A : Nat → Prop) (s : State), KX l A s → ∃ sa, vk_R M.1.cls is text sa s) (hf : Bundle.fit E = true) (hns : ∀ n ∈ xN, Bundle.fit n = true) (w1 : Cond.classLink M.1.cls ik E ∈ gw) (w2 : Cond.initialized E ∈ gw) (hat : ∀ w ∈ vx_atS M.1.cls ic E xN, w ∈ gw ∨ w ∈ kxw) (hgood : ∀ w ∈ Cond.classLink M.1.cls ik E :: Cond.initialized E :: vx_atS M.1.cls ic E xN, vx_ot w = true)
    (d0 : decode M.2.1 pc = .ok (.new ik, 3)) (d3 : decode M.2.1 (pc + 3) = .ok (.dup, 1)) (d4 : decode M.2.1 (pc + 4) = .ok (.ldc is, 2)) (d6 : decode M.2.1 (pc + 6) = .ok (.invokespecial ic, 3)) (d9 : decode M.2.1 (pc + 9) = .ok (.athrow, 1)) (hfr : 6 ≤ fr) (hlo : 82 ≤ lo) (hce : ce + 1 ≤ mc) (hsl : sl + 6 ≤ ms) : ES PPX (FFX E Q mc ms) M fr lo mc ms pc ls [] h ce sl := by
  intro p l e s m args below meth c H locs D cA A lsA X Z R S L
  obtain ⟨sa, hsa⟩ := hkk l A s Z.1
  have hts := X.2.2.2.2.2.1
  refine vx_throwS (cc := M.2.1) (names := xN) (A := A) (sa := sa) X.1 X.2.1 Z.1.1 X.2.2.2.2.1 hf hns (hts _ w1) (hts _ w2) hsa (s_thrA hat X Z.1) hgood Z.1.2.1 Z.1.2.2.1 S (L.1.1.trans X.2.2.2.1.symm) d0 d3 d4 d6 d9 (fun x hx => (Z.2 x hx).elim) (show 2 + 3 < fr by omega) (show 0 + (13 * (2 + 1) + 43) ≤ lo by omega) hce hsl X.2.2.2.2.2.2.2.1 (fun t hal hsz hkp => ⟨rfl, ⟨h, hq, fun a x hx => ⟨(R a x hx).1, (R a x hx).2.kept (hkp a (R a x hx).2.lt)⟩⟩, Nat.le_trans S.1 hsz, fun q h1 h2 => (hkp q (Nat.lt_of_lt_of_le h1 S.1)).trans (S.2.1 q h1 h2)⟩) S.2.2 hce hsl
theorem s_thrW {Q : eH → Prop} (hq : Q h) {E text : String} {ik is ic : Nat} (hkk : ∀ (l : Launch) (A : Nat → Prop) (s : State), KX l A s → ∃ sa, vk_R M.1.cls is text sa s) (hf : Bundle.fit E = true) (hns : ∀ n ∈ xN, Bundle.fit n = true) (w1 : Cond.classLink M.1.cls ik E ∈ gw) (w2 : Cond.initialized E ∈ gw) (hat : ∀ w ∈ vx_atS M.1.cls ic E xN, w ∈ gw ∨ w ∈ kxw) (hgood : ∀ w ∈ Cond.classLink M.1.cls ik E :: Cond.initialized E :: vx_atS M.1.cls ic E xN, vx_ot w = true)
    (d0 : decode M.2.1 pc = .ok (.new ik, 3)) (d3 : decode M.2.1 (pc + 3) = .ok (.dup, 1)) (d4 : decode M.2.1 (pc + 4) = .ok (.ldc_w is, 3)) (d7 : decode M.2.1 (pc + 7) = .ok (.invokespecial ic, 3)) (d10 : decode M.2.1 (pc + 10) = .ok (.athrow, 1)) (hfr : 6 ≤ fr) (hlo : 82 ≤ lo) (hce : ce + 1 ≤ mc) (hsl : sl + 6 ≤ ms) : ES PPX (FFX E Q mc ms) M fr lo mc ms pc ls [] h ce sl := by
  intro p l e s m args below meth c H locs D cA A lsA X Z R S L
  obtain ⟨sa, hsa⟩ := hkk l A s Z.1
  have hts := X.2.2.2.2.2.1
  refine vx_throwSW (cc := M.2.1) (names := xN) (A := A) (sa := sa) X.1 X.2.1 Z.1.1 X.2.2.2.2.1 hf hns (hts _ w1) (hts _ w2) hsa (s_thrA hat X Z.1) hgood Z.1.2.1 Z.1.2.2.1 S (L.1.1.trans X.2.2.2.1.symm) d0 d3 d4 d7 d10 (fun x hx => (Z.2 x hx).elim) (show 2 + 3 < fr by omega) (show 0 + (13 * (2 + 1) + 43) ≤ lo by omega) hce hsl X.2.2.2.2.2.2.2.1 (fun t hal hsz hkp => ⟨rfl, ⟨h, hq, fun a x hx => ⟨(R a x hx).1, (R a x hx).2.kept (hkp a (R a x hx).2.lt)⟩⟩, Nat.le_trans S.1 hsz, fun q h1 h2 => (hkp q (Nat.lt_of_lt_of_le h1 S.1)).trans (S.2.1 q h1 h2)⟩) S.2.2 hce hsl
end TH
/-- a contract of a method with handlers -/
def e_wsW (M : MD) (hh : List (Nat × Nat × Nat × Nat)) : List Cond := Cond.codeWith M.1 M.2.1 M.2.2.1 M.2.2.2 hh :: gw
def CtW (M : MD) (hh : List (Nat × Nat × Nat × Nat)) (av : List Value) (h : eH) (Q : Option Value → eH → Prop) (fr lo mc ms : Nat) : Prop := ∀ (l : Launch) (D : va_G) (cA : Nat → ClassId) (sz : Nat), Met l M.1 (e_wsW M hh) { frames := fr, cells := mc, slots := ms, locals := lo } (e_PX l D cA sz av h) (e_Qc D cA (e_A h sz) Q) mc ms (e_A h sz)
def PPW (hh : List (Nat × Nat × Nat × Nat)) : PC9 := fun l s A _ c => KX l A s ∧ c.exceptionTable.toList = tableOf hh
def FFE (Q : Option Value → eH → Prop) (mc ms : Nat) : FC9 := fun below args s D cA A => MQ below (e_Qc D cA A Q) args s mc ms A
theorem ES.ofE {PP : PC9} {M : MD} {fr lo mc ms : Nat} {Q : Option Value → eH → Prop} {pc ce sl : Nat} {ls : List (Option Value)} {st : List Value} {h : eH} (k : EE M fr lo mc ms Q pc ls st h ce sl) : ES PP (FFE Q mc ms) M fr lo mc ms pc ls st h ce sl := fun p l e s m args below meth c H locs D cA A lsA X _ R S L => k p l e s m args below meth c H locs D cA A lsA X R S L
theorem CtW.of {M : MD} {hh : List (Nat × Nat × Nat × Nat)} {av : List Value} {h : eH} {Q : Option Value → eH → Prop} {fr lo mc ms : Nat} (j : Nat) {ls : List (Option Value)} (hy9 : (plainName M.1.cls && notLaw M.1) = true) (hav9 : av.all (fun v => v.category == 1) = true) (hn : av.length ≤ M.2.2.1) (hls9 : av.map some ++ List.replicate j none = ls) (k : ES (PPW hh) (FFE Q mc ms) M fr lo mc ms 0 ls [] h 0 0) : CtW M hh av h Q fr lo mc ms := by
  have hy : plainName M.1.cls = true := (Bool.and_eq_true_iff.mp hy9).1
  have hnl : notLaw M.1 = true := (Bool.and_eq_true_iff.mp hy9).2
  have hav : ∀ v ∈ av, v.category = 1 := fun v hv => by simpa using List.all_eq_true.mp hav9 v hv
  have hls : ∀ (i : Nat) (v : Value), ls[i]? = some (some v) → av[i]? = some v := w_ls hls9
  intro l D cA sz
  refine MetFree.of_bodyS (code := M.2.1) (maxLocals := M.2.2.1) (ret := M.2.2.2) hy ?_ ?_
  · intro args s m h hn
    obtain ⟨m9, meth, c, hn9, h1, h2, h3, h4, -, h5, h6, -⟩ := Cond.codeWith_spec (atoms_spec (ws := e_wsW M hh) h _ List.mem_cons_self)
    cases hn.symm.trans hn9
    exact ⟨meth, c, h1, h2, h3, h4, h5, h6⟩
  · intro p e s m args below meth c s₁ B hml hv _
    have hh0 : s₁.heap = s.heap := by rw [B.state]; rfl
    obtain ⟨⟨rfl, rfl, hrp, hK⟩, hkx⟩ := hv
    have hts := atoms_spec (ws := e_wsW M hh) B.pre
    have htb : c.exceptionTable.toList = tableOf hh := vx_table (x := M.1) B (hts _ List.mem_cons_self)
    have hl := lv_entry av (n := M.2.2.1) (by rw [e_sl av hav]; exact hn)
    rw [e_args 0 av hav] at hl
    have k9 := k p l e s m _ below meth c s.heap [] D cA (e_A h s.heap.size) _ ⟨B.exec, B.bytes, B.returns, hml, findClass_of_methodNamed B.named, fun w hw => hts w (List.mem_cons_of_mem _ hw), hK, B.notSynchronized, ⟨(name_of_methodNamed B.named B.method).1, fun z => by rw [hnl] at z; cases z⟩, fun q hq => Or.inr hq⟩ ⟨hkx, htb⟩ hrp va_S.rf ⟨e_L.of hl (fun i v h => by rw [List.getElem?_map, hls i v h]; rfl), fun v hv => by obtain ⟨i, hi⟩ := List.getElem?_of_mem hv; exact hav v (List.mem_of_getElem? (hls i v hi))⟩
    rw [← lg_entry_eq] at k9
    obtain ⟨t, a1, o, b1, b2, b3⟩ := k9 s₁ hh0 (Stand.of_body B)
    exact ⟨t, o, a1, b1, b2, ⟨b3.1, b3.2⟩⟩
/-- a call that throws, caught by this method's first row -/
theorem t_catch {M : MD} {fr lo mc ms : Nat} {FF : FC9} {pc ce sl : Nat} {ls : List (Option Value)} {st : List Value} {h : eH} {hh : List (Nat × Nat × Nat × Nat)} {index n fr' lo' mc' ms' b ci : Nat} {fs : List Value} {M' : MD} {av st0 : List Value} {E : String} {Q' : eH → Prop} {h1 h2 : eH} {x : ExceptionTableEntry} {tl : List ExceptionTableEntry} (hu : e_un h1 h2 = h) (hj : e_dj h1 h2) (hd : decode M.2.1 pc = .ok (.invokevirtual index, 3)) (hC : CV M.1.cls index M' ci n) (hlk : Cond.methodLink M.1.cls index M'.1 ∈ gw) (hb : h b = some (.inr (ci, fs))) (hM : CtX M' (.ref b :: av) h1 E Q' fr' lo' mc' ms') (hlen : av.length = n) (hst : st0 = av.reverse ++ .ref b :: st) (hcat : (st.map fun v => v.category).sum ≤ 8) (hR : (fr' + 1 ≤ fr ∧ 8 + (M'.2.2.1 + 11) + lo' ≤ lo) ∧ ce + mc' ≤ mc ∧ sl + ms' ≤ ms)
    (htab : tableOf hh = x :: tl) (hx : covers x pc = true) (h0 : x.catchType ≠ 0) (wl : Cond.classLink M.1.cls x.catchType E ∈ gw) (wc : Cond.castable E E ∈ kxw) (kk : ∀ (q : Nat) (h1' : eH), Q' h1' → e_dj h1' h2 → ES (PPW hh) FF M fr lo mc ms x.handlerPc ls [.ref q] (e_un h1' h2) (ce + mc') (sl + ms')) : ES (PPW hh) FF M fr lo mc ms pc ls st0 h ce sl := by
  intro p l e s m args below meth c H locs D cA A lsA X Z R S L
  have hts := X.2.2.2.2.2.1
  obtain ⟨q0, hq0, ⟨w1, w2, w3, w6, w4⟩, -⟩ := hC
  have hrecv := va_recv (tys := e_tys cA) X.2.2.2.2.2.2.1.1 (e_one R hb) (ci := ci) (q0 := 0) hq0 rfl
  have hpre := e_preX (av := .ref b :: av) X.2.2.2.2.2.2.1 hu R Z.1 S X.2.2.2.2.2.2.2.2.2
  have hrun := vx_runV (Ts := gw) (C := q0.1) (below := below) (meth := meth) (e := e) (locs := locs) (cells := ce) (slots := sl) (rest := st) (g := F0 m pc lsA st0) (R := { frames := fr, cells := mc, slots := ms, locals := lo }) ⟨X.1, X.2.1, X.2.2.2.1, X.2.2.2.2.1, hts⟩ (hM l D cA H.size) ⟨callB_of n hts (e_good M' w1) rfl rfl rfl (hts _ w3) (hts _ hlk) w4 hR.1, hts _ w2, hts _ w6⟩ ⟨hpre.1, hrecv, hpre.2⟩ rfl hlen L.1.1 hst (lv_room hcat) hd hR.2
  have hin : ∀ q : Nat, e_A h1 H.size q → A q := by
    rintro q (⟨y, hy⟩ | hq)
    · exact (R q y (by rw [← hu]; exact e_un_l hy)).1
    · exact X.2.2.2.2.2.2.2.2.2 q (Nat.le_trans S.1 hq)
  intro T hT Xs
  rcases hrun T hT Xs with ⟨v, st₀, t, T', L9, h0', X', hL, e1, e2, hF, st9⟩ | ⟨q, st₀, t, T', L9, E', cl, h0', X', hL, e1, e2, ⟨rfl, ⟨h', hq9, hrp⟩, hz, hk⟩, hce, hcv, hcl, st9⟩
  · exact hF.elim
  · rw [h0'] at hz hk
    have out2 : ∀ (b : Nat) (y : va_E), h2 b = some y → b < H.size ∧ ¬ e_A h1 H.size b := by
      intro b y hy
      have h9 : h1 b = none := (hj b).resolve_right (by rw [hy]; simp)
      have hl := (R b y (by rw [← hu, e_un, h9]; exact hy)).2.lt
      refine ⟨hl, ?_⟩
      rintro (⟨z, hz⟩ | hz)
      · rw [h9] at hz; cases hz
      · exact absurd hl (Nat.not_lt.mpr hz)
    have hj' : e_dj h' h2 := by
      intro b
      cases hb : h2 b with
      | none => exact Or.inr rfl
      | some y =>
        left
        cases hb' : h' b with
        | none => rfl
        | some z => exact absurd (hrp b z hb').1 (out2 b y hb).2
    have hR1 : e_rp D cA A (e_un h' h2) T'.heap := by
      intro b y hy
      rw [e1]
      cases hb : h' b with
      | some z =>
        rw [e_un, hb] at hy
        cases hy
        exact ⟨hin b (hrp b _ hb).1, (hrp b _ hb).2⟩
      | none =>
        rw [e_un, hb] at hy
        have h9 : h1 b = none := (hj b).resolve_right (by rw [show h2 b = some y from hy]; simp)
        have hR := R b y (by rw [← hu, e_un, h9]; exact hy)
        exact ⟨hR.1, hR.2.kept (hk b (out2 b y hy).1 (out2 b y hy).2)⟩
    have hS1 : va_S A s.heap T'.heap (locs ++ L9) := ⟨Nat.le_trans S.1 (by rw [e1]; exact hz), fun q h1 h2 => by rw [e1, hk q (Nat.lt_of_lt_of_le h1 S.1) (fun z => h2 (hin q z))]; exact S.2.1 q h1 h2, fun q hq => by
      rcases List.mem_append.mp hq with h | h
      · exact S.2.2 q h
      · exact hin _ (hL q h)⟩
    have hpl : e.platform.magicAccessors = ({} : Platform).magicAccessors := by rw [X'.admits.platform]
    have hcast : (Cond.castable E' E').before #[] s = true := Z.1.2.2.2.2.2 _ wc
    obtain ⟨c3, c4, hc3, hc4, hasg⟩ := Cond.castable_spec hcast
    cases Option.some.inj (hc3.symm.trans hcl)
    cases Option.some.inj (hc4.symm.trans hcl)
    obtain ⟨c5, hc5, hcl5⟩ := Cond.classLink_spec X.2.2.2.2.1 (hts _ wl) e.platform hpl
    cases Option.some.inj (hc5.symm.trans hcl)
    obtain ⟨hg1, hwarm1, hready1⟩ := State.classEntry (e := e) X'.warmed hcl5
    generalize T'.vm.noted m.cls x.catchType (.cls cl.cls) = vm₁ at hg1 hwarm1 hready1
    have X1 := X'.noted hwarm1
    obtain ⟨t2, a1, b1⟩ := kk q h' hq9 hj' p l e s m args below meth c T'.heap (locs ++ L9) D cA A lsA X Z hR1 hS1 L (T'.setVm vm₁) rfl X1
    obtain ⟨kc, hkc, -⟩ := Vm.findClass_spec hcl
    obtain ⟨k1, hk1, -⟩ := hwarm1.alike.2.2 _ _ hkc
    obtain ⟨k2, hk2, -⟩ := X'.warmed.alike.2.2 _ _ hkc
    refine ⟨t2, st9.trans ?_, b1⟩
    refine steps_caught9 (s := T') (g := F0 m pc lsA st) (c := c) (vm' := vm₁) X'.here (finds9 (meth := meth) (code := c) (cell := cl) (x := x) (t := tl) (c := cl.cls) ?_ ?_ (Z.2.trans htab) hx h0 hg1 ?_ (by show T'.heap[q]? = some cl; rw [e1]; exact hce) (fun k hk => by rw [hcv] at hk; cases hk) ⟨k1, hk1⟩ ⟨k1, hk1⟩ ?_) a1
    · show T'.vm.method? m = some meth
      exact X'.method'
    · exact X'.code
    · show vm₁.classes.size ≤ T'.vm.classes.size
      rw [hwarm1.alike.2.1, X'.warmed.alike.2.1]
      exact Nat.le_refl _
    · rw [hwarm1.alike.assignable]
      exact hasg
/-! longs -/
section LG
variable {M : MD} {fr lo mc ms : Nat} {Q : Option Value → eH → Prop} {PP : PC9} {FF : FC9} {pc ce sl : Nat} {ls : List (Option Value)} {st : List Value} {h : eH}
theorem e_last (np : Nat) {a n : Nat} {f : Nat → Int64} {i : Int32} {x : Int64} (hd : decode M.2.1 pc = .ok (.lastore, 1)) (hn : pc + 1 = np) (ha : h a = some (.inl (1, n, .inr (.inl f)))) (hi : vp_in i n) (kk : EE M fr lo mc ms Q np ls st (e_up h a (.inl (1, n, .inr (.inl (vp_updL f i.toNatClampNeg x))))) ce sl) : EE M fr lo mc ms Q pc ls (.long x :: .int i :: .ref a :: st) h ce sl := by
  subst hn
  intro p l e s m args below meth c H locs D cA A lsA X R S L
  have hK := X.2.2.2.2.2.2.1.1
  obtain ⟨hba, hc⟩ := R a _ ha
  refine W.last X.1 X.2.1 hc ((hK.2 1 _ rfl).1 n (fun j => .long (f j))) (fun q => by cases q) (by show ¬ (i < 0 ∨ (arrV _ _ _).slots.size ≤ _); rw [arrV_size]; exact hi) rfl rfl hd fun H1 e z oq => ?_
  refine kk p l _ s m args below meth c H1 _ D cA A lsA X (R.up hba ?_ oq) (e_S.put S z oq hba) L
  show H1[a]? = some (vp_cell _ _)
  rw [e]
  rw [vp_cell_l, vp_cell_l, arrV_store]
  congr 2
  funext q
  by_cases hq : q = i.toNatClampNeg
  · subst hq
    simp [updV, vp_updL]
  · simp [updV, vp_updL, hq]
theorem s_lald (np : Nat) {a n : Nat} {f : Nat → Int64} {i : Int32} {v : Int64} (hd : decode M.2.1 pc = .ok (.laload, 1)) (hn : pc + 1 = np) (ha : h a = some (.inl (1, n, .inr (.inl f)))) (hi : vp_in i n) (hv : f i.toNatClampNeg = v) (kk : ES PP FF M fr lo mc ms np ls (.long v :: st) h ce sl) : ES PP FF M fr lo mc ms pc ls (.int i :: .ref a :: st) h ce sl := by
  subst hn; subst hv
  intro p l e s m args below meth c H locs D cA A lsA X Z R S L
  exact va_lald X.1 X.2.1 X.2.2.2.2.2.2.1.1 (e_one R ha) 0 1 rfl rfl hi hd (kk p l e s m args below meth c H locs D cA A lsA X Z R S L)
theorem s_lcmp (np : Nat) {x y : Int64} {v : Int32} (hd : decode M.2.1 pc = .ok (.lcmp, 1)) (hn : pc + 1 = np) (hv : lg_cmp x y = v) (kk : ES PP FF M fr lo mc ms np ls (.int v :: st) h ce sl) : ES PP FF M fr lo mc ms pc ls (.long y :: .long x :: st) h ce sl := by
  subst hn; subst hv
  intro p l e s m args below meth c H locs D cA A lsA X Z R S L
  exact W.lcmp X.1 X.2.1 hd (kk p l e s m args below meth c H locs D cA A lsA X Z R S L)
end LG
