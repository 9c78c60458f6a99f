section ER
variable {M : MD} {fr lo mc ms : Nat} {Q : Option Value → eH → Prop} {pc ce sl : Nat} {ls : List (Option Value)} {st : List Value} {h : eH}
theorem e_put (np : Nat) {index ci k a : Nat} {fs fs' : List Value} {v : Value} {ty : FieldType} {fin : Bool} (hd : decode M.2.1 pc = .ok (.putfield index, 3)) (hn : pc + 3 = np) (hF : FP M.1.cls index ci k ty fin) (hfi : fin = false ∨ M.1.name = "<init>") (ha : h a = some (.inr (ci, fs))) (hl : k < fs.length) (hnr : narrow ty v = v) (hfit : fits ty v = true) (hfs : fs.set k v = fs') (kk : EE M fr lo mc ms Q np ls st (e_up h a (.inr (ci, fs'))) ce sl) : EE M fr lo mc ms Q pc ls (v :: .ref a :: st) h ce sl := by
  subst hn; subst hfs
  intro p l e s m args below meth c H locs D cA A lsA X R S L
  obtain ⟨C, T, N, ref, ty0, hc, hin, hk, hlk, hsm, hty, hnm, hfin, hpd, hdecl⟩ := hF
  have hts := X.2.2.2.2.2.1
  have hown := X.2.2.2.2.1
  have hK := X.2.2.2.2.2.2.1.1
  have hsame := e_same (args := args) (s := s) (hsm.imp id (fun z => hts _ z))
  have hap := va_apart (own := M.1.cls) (tys := e_tys cA) hts hin ty0 hty hnm hK hc
  obtain ⟨hba, r, h1, cell, q1, q2, q3, q4⟩ := R a _ ha
  have hr : r = (C, T, N) := Option.some.inj (h1.symm.trans hc)
  subst hr
  obtain ⟨hS, hfc, kC, hkC, hkind⟩ := hK.1 ci _ hc
  obtain ⟨cf, kf, fi, f, hi, hsl⟩ := hS k hk
  have hlay := hts _ (hin _ (u_in_lay hk))
  unfold u_lay at hlay
  have hst := (u_facts hfc hkC (u_lays hts hin hk) hi).1
  have fin9 : ∀ (H' : Heap) (locs' : List Loc), H'[a]? = some (cell.setSlot f.slot v) → H'.size = H.size → (∀ q : Nat, q ≠ a → H'[q]? = H[q]?) → W p l e { frames := fr, cells := mc, slots := ms, locals := lo } s m args below meth c H' (locs ++ [⟨a, f.slot⟩]) ce sl (MQ below (e_Qc D cA A Q) args s mc ms A) (F0 m (pc + 3) lsA st) := by
    intro H' _ e1 e2 e3
    rw [hsl] at e1
    exact kk p l e s m args below meth c H' _ D cA A lsA X (R.up hba ⟨_, hc, t_OB.to (V := updV (vp_V fs) k v) ⟨_, e1, q2, q3, t_set q4 hap hk v⟩ (fun j _ => vp_updV_set hl v j)⟩ e3) (e_S.put S e2 e3 hba) L
  cases fin with
  | false =>
    rw [if_neg (by rw [hfin]; decide)] at hlay
    have h6 := u_store hfc hkC hkind hlay hi hpd hnr hfit
    rcases hlk with hlk | ⟨-, host, hlk⟩
    · exact W.putK X.1 X.2.1 (f := f) ⟨hown, hts _ hlk, ⟨_, _, _, hsame _ hi⟩, hst⟩ (by rw [q2]; exact h6) q1 q3 (by rw [hsl]; exact k2_hasslot (q4 k hk)) rfl rfl hd fun H' e1 e2 e3 => fin9 H' locs e1 e2 e3
    · exact va_WputK X.1 X.2.1 (f := f) hown (va_Nw.use rfl (X.2.2.2.2.2.2.1.2.1 _ hlk)) (hsame _ hi) hst (by rw [q2]; exact h6) q1 q3 (by rw [hsl]; exact k2_hasslot (q4 k hk)) rfl rfl hd fun H' e1 e2 e3 => fin9 H' locs e1 e2 e3
  | true =>
    rw [if_pos hfin] at hlay
    have hin2 : meth.name = "<init>" := X.2.2.2.2.2.2.2.2.1.1.trans (hfi.resolve_left (by decide))
    have hcf : m.cls = cf := by
      obtain ⟨_, _, c', _, _, _, -, -, hf', -, -, -, hown2, -⟩ := Cond.laysFinal_spec hlay
      have e1 : c' = cf := by have := hi.symm.trans hf'; simp at this; exact this.1.symm
      rw [hdecl rfl] at hown2
      rw [← e1]; exact Option.some.inj (hown.symm.trans hown2)
    have h6 := u_fits hfc hkC hkind (Or.inr hlay) hi hpd hnr hfit
    rcases hlk with hlk | ⟨hx, -⟩
    · exact W.putFinK X.1 X.2.1 hown (hts _ hlk) (hsame _ hi) hst hcf hin2 (by rw [q2]; exact h6) q1 q3 (by rw [hsl]; exact k2_hasslot (q4 k hk)) rfl rfl hd fun H' e1 e2 e3 => fin9 H' locs e1 e2 e3
    · cases hx
theorem e_one {D : va_G} {cA : Nat → ClassId} {A : Nat → Prop} {a : Nat} {h : eH} {H : Heap} {x : va_E} (R : e_rp D cA A h H) (ha : h a = some x) : va_P D vwCl [(a, e_c cA x)] H := fun j q hj => by
  match j, hj with
  | 0, hj => cases hj; exact (R a _ ha).2
  | j + 1, hj => simp at hj
theorem e_alen (np : Nat) {a t : Nat} {x : vp_A} {ty : FieldType} {v : Int32} (hd : decode M.2.1 pc = .ok (.arraylength, 1)) (hn : pc + 1 = np) (ha : h a = some (.inl (t, x))) (ht : atys[t]? = some ty) (hv : Int32.ofNat x.1 = v) (kk : EE M fr lo mc ms Q np ls (.int v :: st) h ce sl) : EE M fr lo mc ms Q pc ls (.ref a :: st) h ce sl := by
  subst hn
  intro p l e s m args below meth c H locs D cA A lsA X R S L
  exact va_alen X.1 X.2.1 X.2.2.2.2.2.2.1.1 (e_one R ha) 0 t rfl (e_tys_at ht) hv hd (kk p l e s m args below meth c H locs D cA A lsA X R S L)
theorem e_iald (np : Nat) {a n : Nat} {f : Nat → Int32} {i v : Int32} (hd : decode M.2.1 pc = .ok (.iaload, 1)) (hn : pc + 1 = np) (ha : h a = some (.inl (0, n, .inl f))) (hi : vp_in i n) (hv : f i.toNatClampNeg = v) (kk : EE M fr lo mc ms Q np ls (.int v :: st) h ce sl) : EE M fr lo mc ms Q pc ls (.int i :: .ref a :: st) h ce sl := by
  subst hn; subst hv
  intro p l e s m args below meth c H locs D cA A lsA X R S L
  exact va_iald X.1 X.2.1 X.2.2.2.2.2.2.1.1 (e_one R ha) 0 0 rfl rfl hi hd (kk p l e s m args below meth c H locs D cA A lsA X R S L)
theorem e_iast (np : Nat) {a n : Nat} {f : Nat → Int32} {i x : Int32} (hd : decode M.2.1 pc = .ok (.iastore, 1)) (hn : pc + 1 = np) (ha : h a = some (.inl (0, n, .inl f))) (hi : vp_in i n) (kk : EE M fr lo mc ms Q np ls st (e_up h a (.inl (0, n, .inl (upd f i.toNatClampNeg x)))) ce sl) : EE M fr lo mc ms Q pc ls (.int x :: .int i :: .ref a :: st) h ce sl := by
  subst hn
  intro p l e s m args below meth c H locs D cA A lsA X R S L
  have hK := X.2.2.2.2.2.2.1.1
  obtain ⟨hba, hc⟩ := R a _ ha
  refine W.iast X.1 X.2.1 hc ((hK.2 0 _ rfl).1 n (fun j => .int (f j))) (fun q => by cases q) (by show ¬ (i < 0 ∨ (arrV _ _ _).slots.size ≤ _); rw [arrV_size]; exact hi) rfl rfl hd fun H1 e z oq => ?_
  refine kk p l _ s m args below meth c H1 _ D cA A lsA X (R.up hba ?_ oq) (e_S.put S z oq hba) L
  show H1[a]? = some (vp_cell _ _)
  rw [e]
  rw [vp_cell_i, vp_cell_i, arrV_store]
  congr 2
  funext q
  by_cases hq : q = i.toNatClampNeg
  · subst hq
    simp [updV, upd]
  · simp [updV, upd, hq]
theorem e_aald (np : Nat) {a n t : Nat} {ty : FieldType} {f : Nat → Option Nat} {i : Int32} {v : Value} (hd : decode M.2.1 pc = .ok (.aaload, 1)) (hn : pc + 1 = np) (ha : h a = some (.inl (t, n, .inr (.inr (.inr (.inr f)))))) (ht : atys[t]? = some ty) (hty : (∃ C, ty = .object C) ∨ ∃ z, ty = .array z) (hi : vp_in i n) (hv : va_rf (f i.toNatClampNeg) = v) (kk : EE M fr lo mc ms Q np ls (v :: st) h ce sl) : EE M fr lo mc ms Q pc ls (.int i :: .ref a :: st) h ce sl := by
  subst hn; subst hv
  intro p l e s m args below meth c H locs D cA A lsA X R S L
  have hK := X.2.2.2.2.2.2.1.1
  have hlt : i.toNatClampNeg < n := Nat.not_le.mp fun q => hi (Or.inr q)
  obtain ⟨hba, hc⟩ := R a _ ha
  have hrf : ty.isReference = true := by rcases hty with ⟨C, rfl⟩ | ⟨z, rfl⟩ <;> rfl
  exact W.aald (v := va_rf (f i.toNatClampNeg)) (ty := ty) X.1 X.2.1 hc ((hK.2 t _ (e_tys_at ht)).1 n (fun j => va_rf (f j))) hrf (fun q => by cases q) (by show ¬ (i < 0 ∨ (arrV _ _ _).slots.size ≤ _); rw [arrV_size]; exact hi) (by show (arrV _ _ _).slots[_]? = _; rw [arrV_read _ _ hlt]) rfl rfl hd (kk p l e s m args below meth c H locs D cA A lsA X R S L)
/-- an object into an array of its class -/
theorem e_aast (np : Nat) {a n t v ci : Nat} {vs : List Value} {q0 : vw_C} {f : Nat → Option Nat} {i : Int32} (hd : decode M.2.1 pc = .ok (.aastore, 1)) (hn : pc + 1 = np) (ha : h a = some (.inl (t, n, .inr (.inr (.inr (.inr f)))))) (hc : vwCl[ci]? = some q0) (ht : atys[t]? = some (.object q0.1)) (hv : h v = some (.inr (ci, vs))) (hi : vp_in i n) (kk : EE M fr lo mc ms Q np ls st (e_up h a (.inl (t, n, .inr (.inr (.inr (.inr (va_up f i.toNatClampNeg (some v)))))))) ce sl) : EE M fr lo mc ms Q pc ls (.ref v :: .int i :: .ref a :: st) h ce sl := by
  subst hn
  intro p l e s m args below meth c H locs D cA A lsA X R S L
  have hK := X.2.2.2.2.2.2.1.1
  have hlt : i.toNatClampNeg < n := Nat.not_le.mp fun q => hi (Or.inr q)
  have h0 : ¬ i < 0 := fun q => hi (Or.inl q)
  obtain ⟨hba, hca⟩ := R a _ ha
  obtain ⟨-, r', hr', cellV, g1, g2, g3, -⟩ := R v _ hv
  have hcls := (hK.1 ci q0 hc).2
  obtain ⟨kA, comp, k1, k2, k3, -⟩ := (hK.2 t _ (e_tys_at ht)).2
  have hcomp : comp = D.1 ci := Option.some.inj (k3.symm.trans hcls.1)
  subst hcomp
  obtain ⟨kC, hkC, -⟩ := hcls.2
  refine W.aast X.1 X.2.1 hca (fun q h => by cases h) (fun h => by cases h) k1 k2 rfl hkC ⟨h0, by show _ < (arrV _ _ _).slots.size; rw [arrV_size]; exact hlt⟩ g1 (fun q h => by rw [g3] at h; cases h) (by rw [g2]; exact hkC) (by rw [g2]; exact va_assign hcls) rfl rfl hd fun H1 e z oq => ?_
  refine kk p l _ s m args below meth c H1 _ D cA A lsA X (R.up hba ?_ oq) (e_S.put S z oq hba) L
  show H1[a]? = some (vp_cell _ _)
  rw [e]
  rw [vp_cell_q, vp_cell_q, arrV_store]
  congr 2
  funext q
  by_cases hq : q = i.toNatClampNeg
  · subst hq
    simp [updV, va_up, va_rf]
  · simp [updV, va_up, hq]
theorem e_aastN (np : Nat) {a n t : Nat} {C : String} {f : Nat → Option Nat} {i : Int32} (hd : decode M.2.1 pc = .ok (.aastore, 1)) (hn : pc + 1 = np) (ha : h a = some (.inl (t, n, .inr (.inr (.inr (.inr f)))))) (ht : atys[t]? = some (.object C)) (hi : vp_in i n) (kk : EE M fr lo mc ms Q np ls st (e_up h a (.inl (t, n, .inr (.inr (.inr (.inr (va_up f i.toNatClampNeg none))))))) ce sl) : EE M fr lo mc ms Q pc ls (.null :: .int i :: .ref a :: st) h ce sl := by
  subst hn
  intro p l e s m args below meth c H locs D cA A lsA X R S L
  have hK := X.2.2.2.2.2.2.1.1
  obtain ⟨hba, hca⟩ := R a _ ha
  refine va_WaastN (C := C) X.1 X.2.1 hca ((hK.2 t _ (e_tys_at ht)).1 n (fun j => va_rf (f j))) (fun h => by cases h) (by show ¬ (i < 0 ∨ (arrV _ _ _).slots.size ≤ _); rw [arrV_size]; exact hi) rfl rfl hd fun H1 e z oq => ?_
  refine kk p l _ s m args below meth c H1 _ D cA A lsA X (R.up hba ?_ oq) (e_S.put S z oq hba) L
  show H1[a]? = some (vp_cell _ _)
  rw [e]
  rw [vp_cell_q, vp_cell_q, arrV_store]
  congr 2
  funext q
  by_cases hq : q = i.toNatClampNeg
  · subst hq
    simp [updV, va_up, va_rf]
  · simp [updV, va_up, hq]
/-- the words of 'new' -/
def NC (own : String) (index ci : Nat) (fs : List Value) : Prop := ∃ (C : String) (T : u_T) (N : Nat) (ty : Nat → FieldType), vwCl[ci]? = some (C, T, N) ∧ (∀ w ∈ u_ws C T N, w ∈ gw) ∧ (∀ k, k < N → parseFieldDescriptor (T k).2.2.1 = some (ty k)) ∧ Cond.classLink own index C ∈ gw ∧ Cond.instantiable C N ∈ gw ∧ Cond.initialized C ∈ gw ∧ (∀ j, j < N → defaultValue (ty j) = vp_V fs j) ∧ fs.length = N
theorem e_new (np : Nat) {index ci : Nat} {fs : List Value} (hd : decode M.2.1 pc = .ok (.new index, 3)) (hn : pc + 3 = np) (hN : NC M.1.cls index ci fs) (hce : ce + 1 ≤ mc) (hsl : sl + fs.length ≤ ms) (kk : ∀ q : Nat, h q = none → EE M fr lo mc ms Q np ls (.ref q :: st) (e_up h q (.inr (ci, fs))) (ce + 1) (sl + fs.length)) : EE M fr lo mc ms Q pc ls st h ce sl := by
  subst hn
  intro p l e s m args below meth c H locs D cA A lsA X R S L
  obtain ⟨C, T, N, ty, hc, hin, hty, hcl, hinst, hini, hfs, hN⟩ := hN
  subst hN
  have hts := X.2.2.2.2.2.1
  have hKn := X.2.2.2.2.2.2.1.1.1 ci _ hc
  refine W.newcK X.1 X.2.1 X.2.2.2.2.1 (hts _ hcl) (hts _ hinst) (hts _ hini) rfl hd hce hsl hKn.2.1 rfl fun H1 kC hkC e1 z1 o1 => ?_
  have hR := R.new (x := .inr (ci, fs)) (X.2.2.2.2.2.2.2.2.2 _ S.1) ⟨_, hc, (u_born ty hts hin hKn hkC e1 hty).to hfs⟩ o1
  exact kk H.size hR.1 p l e s m args below meth c H1 locs D cA A lsA X hR.2 (e_S.new S (by omega) o1) L
end ER
