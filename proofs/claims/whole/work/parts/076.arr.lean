/-! arrays of int arrays: storing a row -/
theorem ao_arr : Cond.arrayOver (.array .int) ∈ ow := ow_mem 1199 (by decide +kernel) (by decide +kernel)
theorem asg_self (vm : Vm) (c : ClassId) : vm.assignable c c = true := by
  show Vm.assignableAux vm (255 + 1) c c = true
  rw [Vm.assignableAux, beq_self_eq_true, Bool.true_or]
theorem ov_fact {D : va_G} {cA : Nat → ClassId} {s : State} (hK : e_K D cA s) : ∃ k : Class, s.vm.classes[cA 7]? = some k ∧ k.kind = .array (cA 0) (.array .int) ∧ ∃ k0 : Class, s.vm.classes[cA 0]? = some k0 := by
  obtain ⟨comp, c, k, h1, -, h3, h4, h5⟩ := ao_specA (hK.2.2 _ ao_arr)
  have e7 : c = cA 7 := Option.some.inj (h5.symm.trans (e_findArr (hK.1.2 7 _ rfl).2))
  have e0 : comp = cA 0 := Option.some.inj (h1.symm.trans (e_findArr (hK.1.2 0 _ rfl).2))
  subst e7
  subst e0
  obtain ⟨k9, h9, -⟩ := Vm.findClass_spec h1
  exact ⟨k, h3, h4, k9, h9⟩
section ER
variable {M : MD} {fr lo mc ms : Nat} {Q : Option Value → eH → Prop} {pc ce sl : Nat} {ls : List (Option Value)} {st : List Value} {h : eH}
theorem e_aastA (np : Nat) {a n v k : Nat} {f : Nat → Option Nat} {fv : Nat → Int32} {i : Int32} (hd : decode M.2.1 pc = .ok (.aastore, 1)) (hn : pc + 1 = np) (ha : h a = some (.inl (7, n, .inr (.inr (.inr (.inr f)))))) (hv : h v = some (.inl (0, k, .inl fv))) (hi : vp_in i n) (kk : EE M fr lo mc ms Q np ls st (e_up h a (.inl (7, n, .inr (.inr (.inr (.inr (va_up f i.toNatClampNeg (some v)))))))) ce sl) : EE M fr lo mc ms Q pc ls (.ref v :: .int i :: .ref a :: st) h ce sl := by
  subst hn
  intro p l e s m args below meth c H locs D cA A lsA X R S L
  have hlt : i.toNatClampNeg < n := Nat.not_le.mp fun q => hi (Or.inr q)
  have h0 : ¬ i < 0 := fun q => hi (Or.inl q)
  obtain ⟨hba, hca⟩ := R a _ ha
  obtain ⟨-, hcv⟩ := R v _ hv
  obtain ⟨kA, k1, k2, k0, k3⟩ := ov_fact X.2.2.2.2.2.2.1
  refine W.aast X.1 X.2.1 hca (fun q h => by cases h) (fun h => by cases h) k1 k2 rfl k3 ⟨h0, by show _ < (arrV _ _ _).slots.size; rw [arrV_size]; exact hlt⟩ hcv (fun q h => by cases h) k3 (asg_self s.vm (cA 0)) rfl rfl hd fun H1 e z oq => ?_
  refine kk p l _ s m args below meth c H1 _ D cA A lsA X (R.up hba ?_ oq) (e_S.put S z oq hba) L
  show H1[a]? = some (vp_cell _ _)
  rw [e]
  rw [vp_cell_q, vp_cell_q, arrV_store]
  congr 2
  funext q
  by_cases hq : q = i.toNatClampNeg
  · subst hq
    simp [updV, va_up, va_rf]
  · simp [updV, va_up, hq]
end ER
