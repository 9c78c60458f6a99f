/-! arrays of int arrays: storing a row; making all at once -/
theorem ao_arr : Cond.arrayOver (.array .int) ∈ ow := ow_mem 1199 (by decide +kernel) (by decide +kernel)
theorem asg_self (vm : Vm) (c : ClassId) : vm.assignable c c = true := by
  show Vm.assignableAux vm (255 + 1) c c = true
  rw [Vm.assignableAux, beq_self_eq_true, Bool.true_or]
theorem ov_fact {D : va_G} {cA : Nat → ClassId} {s : State} (hK : e_K D cA s) : ∃ k : Class, s.vm.classes[cA 7]? = some k ∧ k.kind = .array (cA 0) (.array .int) ∧ ∃ k0 : Class, s.vm.classes[cA 0]? = some k0 := by
  obtain ⟨comp, c, k, h1, -, h3, h4, h5⟩ := arrayOver_specB (hK.2.2 _ ao_arr)
  have e7 : c = cA 7 := Option.some.inj (h5.symm.trans (e_findArr (hK.1.2 7 _ rfl).2))
  have e0 : comp = cA 0 := Option.some.inj (h1.symm.trans (e_findArr (hK.1.2 0 _ rfl).2))
  subst e7
  subst e0
  obtain ⟨k9, h9, -⟩ := Vm.findClass_spec h1
  exact ⟨k, h3, h4, k9, h9⟩
section ER
variable {M : MD} {fr lo mc ms : Nat} {Q : Option Value → eH → Prop} {pc ce sl : Nat} {ls : List (Option Value)} {st : List Value} {h : eH}
theorem e_aastA (np : Nat) {a n v k : Nat} {f : Nat → Option Nat} {fv : Nat → Int32} {i : Int32} (hd : decode M.2.1 pc = .ok (.aastore, 1)) (hn : pc + 1 = np) (ha : h a = some (.inl (7, n, .inr (.inr (.inr (.inr f)))))) (hv : h v = some (.inl (0, k, .inl fv))) (hi : vp_in i n) (kk : EE M fr lo mc ms Q np ls st (e_up h a (.inl (7, n, .inr (.inr (.inr (.inr (va_up f i.toNatClampNeg (some v)))))))) ce sl) : EE M fr lo mc ms Q pc ls (.ref v :: .int i :: .ref a :: st) h ce sl := by
  subst hn
  intro p l e s m args below meth c H locs D cA A lsA X R S L
  have hlt : i.toNatClampNeg < n := Nat.not_le.mp fun q => hi (Or.inr q)
  have h0 : ¬ i < 0 := fun q => hi (Or.inl q)
  obtain ⟨hba, hca⟩ := R a _ ha
  obtain ⟨-, hcv⟩ := R v _ hv
  obtain ⟨kA, k1, k2, k0, k3⟩ := ov_fact X.2.2.2.2.2.2.1
  refine W.aast X.1 X.2.1 hca (fun q h => by cases h) (fun h => by cases h) k1 k2 rfl k3 ⟨h0, by show _ < (arrV _ _ _).slots.size; rw [arrV_size]; exact hlt⟩ hcv (fun q h => by cases h) k3 (asg_self s.vm (cA 0)) rfl rfl hd fun H1 e z oq => ?_
  refine kk p l _ s m args below meth c H1 _ D cA A lsA X (R.up hba ?_ oq) (e_S.put S z oq hba) L
  show H1[a]? = some (vp_cell _ _)
  rw [e]
  rw [vp_cell_q, vp_cell_q, arrV_store]
  congr 2
  funext q
  by_cases hq : q = i.toNatClampNeg
  · subst hq
    simp [updV, va_up, va_rf]
  · simp [updV, va_up, hq]
/-- the heap with q, an array of N new rows of K zeros -/
def e_mn (h : eH) (q N K : Nat) : eH := fun a => if a < q then h a else if a = q then some (.inl (7, N, .inr (.inr (.inr (.inr (fun i => if i < N then some (q + 1 + i) else none)))))) else if a < q + 1 + N then some (.inl (0, K, .inl (fun _ => 0))) else none
theorem vq_outer (c : ClassId) (N h0 : Nat) : ∀ i : Nat, Jvm.Free.Multi.outerC c N h0 i = arrV c N (fun j => va_rf (if j < i then some (h0 + 1 + j) else none))
  | 0 => by
    show ({ cls := c, slots := Array.replicate N .null, vm := .none } : Cell) = _
    rw [arrV_new]
    refine congrArg (arrV c N) (funext fun j => ?_)
    simp [va_rf]
  | i + 1 => by
    show (Jvm.Free.Multi.outerC c N h0 i).setSlot i (.ref (h0 + 1 + i)) = _
    rw [vq_outer c N h0 i, arrV_store]
    refine congrArg (arrV c N) (funext fun j => ?_)
    by_cases e : j = i
    · subst e
      simp [updV, va_rf]
    · by_cases h : j < i
      · simp [updV, e, h, Nat.lt_succ_of_lt h]
      · simp [updV, e, h, show ¬ j < i + 1 by omega]
theorem e_mna (np : Nat) {index : Nat} {n k : Int32} {N K : Nat} (hd : decode M.2.1 pc = .ok (.multianewarray index 2, 4)) (hn : pc + 4 = np) (hw : Cond.classLink M.1.cls index "[[I" ∈ gw) (hn0 : ¬ n < 0) (hk0 : ¬ k < 0) (hN : n.toNatClampNeg = N) (hK : k.toNatClampNeg = K) (hb : N ≤ 100000) (hb2 : K ≤ 100000) (hce : ce + (1 + N) ≤ mc) (hsl : sl + (N + N * K) ≤ ms) (kk : ∀ q : Nat, (∀ a, q ≤ a → h a = none) → EE M fr lo mc ms Q np ls (.ref q :: st) (e_mn h q N K) (ce + 1 + N) (sl + N + N * K)) : EE M fr lo mc ms Q pc ls (.int k :: .int n :: st) h ce sl := by
  subst hn
  subst hN
  subst hK
  intro p l e s m args below meth c H locs D cA A lsA X R S L
  have hts := X.2.2.2.2.2.1
  have ha : Cond.arrayClass .int ∈ gw := by decide +kernel
  intro T hT Xs
  obtain ⟨vm₁, cO, comp, -, fA, fC, hO, -, X', step⟩ := Xs.multianewarray2F X.1 X.2.2.2.2.1 (ty := .int) (hts _ hw) (X.2.2.2.2.2.2.1.2.2 _ ao_arr) (hts _ ha) (g := F0 m pc lsA (.int k :: .int n :: st)) rfl (by rw [X.2.1]; exact hd) rfl hn0 hk0 (by omega) (by show k.toNatClampNeg * 4 ≤ _; omega) (by omega) rfl rfl hce hsl
  have e7 : cO = cA 7 := Option.some.inj (fA.symm.trans (e_findArr (X.2.2.2.2.2.2.1.1.2 7 _ rfl).2))
  have e0 : comp = cA 0 := Option.some.inj (fC.symm.trans (e_findArr (X.2.2.2.2.2.2.1.1.2 0 _ rfl).2))
  subst e7
  subst e0
  generalize hF : Jvm.Free.Multi.fill (T.setVm vm₁) (cA 7) (cA 0) n.toNatClampNeg k.toNatClampNeg (defaultValue .int) n.toNatClampNeg = F at X' step
  have hTh : (T.setVm vm₁).heap = H := hT
  obtain ⟨f1, f2, -, -⟩ := Jvm.Free.Multi.fill_facts (T.setVm vm₁) (cA 7) (cA 0) n.toNatClampNeg k.toNatClampNeg (defaultValue .int) n.toNatClampNeg
  rw [hF, hTh] at f1 f2
  have hold : ∀ x : Nat, x < H.size → F.heap[x]? = H[x]? := fun x hx => by
    have := Jvm.Free.Multi.fill_old (T.setVm vm₁) (cA 7) (cA 0) n.toNatClampNeg k.toNatClampNeg (defaultValue .int) (a := x) (by rw [hTh]; exact hx) n.toNatClampNeg
    rw [hF, hTh] at this
    exact this
  have hrow : ∀ j : Nat, j < n.toNatClampNeg → F.heap[H.size + 1 + j]? = some (vp_cell (cA 0) (k.toNatClampNeg, .inl (fun _ => 0))) := fun j hj => by
    have := Jvm.Free.Multi.fill_inner (T.setVm vm₁) (cA 7) (cA 0) n.toNatClampNeg k.toNatClampNeg (defaultValue .int) n.toNatClampNeg j hj
    rw [hF, hTh] at this
    rw [this, vp_cell_i]
    exact congrArg some (arrV_new _ _ _)
  have hout : Jvm.Free.Multi.outerC (cA 7) n.toNatClampNeg H.size n.toNatClampNeg = vp_cell (cA 7) (n.toNatClampNeg, .inr (.inr (.inr (.inr (fun i => if i < n.toNatClampNeg then some (H.size + 1 + i) else none))))) := by
    rw [vp_cell_q]
    exact vq_outer (cA 7) n.toNatClampNeg H.size n.toNatClampNeg
  rw [hout] at f2
  have hnone : ∀ a, H.size ≤ a → h a = none := fun a h9 => by
    cases e9 : h a with
    | none => rfl
    | some y => exact absurd (R _ y e9).2.lt (by show ¬ a < H.size; omega)
  have hR : e_rp D cA A (e_mn h H.size n.toNatClampNeg k.toNatClampNeg) F.heap := by
    intro a x hx
    have hA := X.2.2.2.2.2.2.2.2.2
    unfold e_mn at hx
    by_cases h1 : a < H.size
    · rw [if_pos h1] at hx
      exact ⟨(R a x hx).1, (R a x hx).2.kept (hold a h1)⟩
    · rw [if_neg h1] at hx
      have hAa : A a := hA a (Nat.le_trans S.1 (Nat.le_of_not_lt h1))
      by_cases h2 : a = H.size
      · rw [if_pos h2] at hx
        cases hx
        subst h2
        exact ⟨hAa, f2⟩
      · rw [if_neg h2] at hx
        by_cases h3 : a < H.size + 1 + n.toNatClampNeg
        · rw [if_pos h3] at hx
          cases hx
          refine ⟨hAa, ?_⟩
          have := hrow (a - (H.size + 1)) (by omega)
          rw [show H.size + 1 + (a - (H.size + 1)) = a by omega] at this
          exact this
        · rw [if_neg h3] at hx; cases hx
  obtain ⟨t, a1, b1⟩ := kk H.size hnone p l e s m args below meth c F.heap locs D cA A lsA X hR (e_S.new S (by rw [f1]; omega) hold) L F rfl X'
  refine ⟨t, step t ?_, b1⟩
  have e9 : T.heap.size = H.size := by rw [hT]
  rw [e9]
  exact a1
end ER
