/-! heap rules -/
def e_up (h : eH) (a : Nat) (x : va_E) : eH := fun b => if b = a then some x else h b
theorem e_up_s {h : eH} {a : Nat} {x : va_E} : e_up h a x a = some x := if_pos rfl
theorem e_up_n {h : eH} {a b : Nat} {x : va_E} (n : b ≠ a) : e_up h a x b = h b := if_neg n
theorem e_rp.up {D : va_G} {cA : Nat → ClassId} {A : Nat → Prop} {a : Nat} {h : eH} {H H1 : Heap} {x : va_E} (R : e_rp D cA A h H) (hb : A a) (hx : va_at D vwCl (a, e_c cA x) H1) (oq : ∀ q : Nat, q ≠ a → H1[q]? = H[q]?) : e_rp D cA A (e_up h a x) H1 := by
  intro b y hy
  by_cases e : b = a
  · subst e
    rw [e_up_s] at hy
    cases hy
    exact ⟨hb, hx⟩
  · rw [e_up_n e] at hy
    exact ⟨(R b y hy).1, (R b y hy).2.kept (oq b e)⟩
theorem e_rp.new {D : va_G} {cA : Nat → ClassId} {A : Nat → Prop} {h : eH} {H H1 : Heap} {x : va_E} (R : e_rp D cA A h H) (hb : A H.size) (hx : va_at D vwCl (H.size, e_c cA x) H1) (oq : ∀ q : Nat, q < H.size → H1[q]? = H[q]?) : h H.size = none ∧ e_rp D cA A (e_up h H.size x) H1 := by
  refine ⟨?_, ?_⟩
  · cases e : h H.size with
    | none => rfl
    | some y => exact absurd (R _ y e).2.lt (Nat.lt_irrefl _)
  · intro b y hy
    by_cases e : b = H.size
    · subst e
      rw [e_up_s] at hy
      cases hy
      exact ⟨hb, hx⟩
    · rw [e_up_n e] at hy
      exact ⟨(R b y hy).1, (R b y hy).2.kept (oq b (R b y hy).2.lt)⟩
theorem e_S.put {A : Nat → Prop} {H0 H H1 : Heap} {locs : List Loc} {a k : Nat} (h : va_S A H0 H locs) (z : H1.size = H.size) (oq : ∀ q : Nat, q ≠ a → H1[q]? = H[q]?) (ha : A a) : va_S A H0 H1 (locs ++ [⟨a, k⟩]) := h.put z oq ha
theorem e_S.new {A : Nat → Prop} {H0 H H1 : Heap} {locs : List Loc} (h : va_S A H0 H locs) (z : H.size ≤ H1.size) (oq : ∀ q : Nat, q < H.size → H1[q]? = H[q]?) : va_S A H0 H1 locs := ⟨Nat.le_trans h.1 z, fun q h1 h2 => (oq q (Nat.lt_of_lt_of_le h1 h.1)).trans (h.2.1 q h1 h2), h.2.2⟩
/-- what the tables say of a field's entry: own class, entry, number of the object's class, place of the field -/
def FL (own : String) (index ci k : Nat) : Prop := ∃ (C : String) (T : u_T) (N : Nat) (ref : String), vwCl[ci]? = some (C, T, N) ∧ (∀ w ∈ u_ws C T N, w ∈ gw) ∧ k < N ∧ (Cond.fieldLink own index ref (T k).2.1 (T k).2.2.1 ∈ gw ∨ ∃ host, Cond.fieldLinkNest own index ref (T k).2.1 (T k).2.2.1 host ∈ nw) ∧ (ref = (T k).1 ∨ Cond.sameField ref (T k).1 (T k).2.1 (T k).2.2.1 ∈ gw)
/-- the same, for writing: its type, and whether it is final (then only in a constructor of the own class) -/
def FP (own : String) (index ci k : Nat) (ty : FieldType) (fin : Bool) : Prop := ∃ (C : String) (T : u_T) (N : Nat) (ref : String) (ty0 : Nat → FieldType), vwCl[ci]? = some (C, T, N) ∧ (∀ w ∈ u_ws C T N, w ∈ gw) ∧ k < N ∧ (Cond.fieldLink own index ref (T k).2.1 (T k).2.2.1 ∈ gw ∨ (fin = false ∧ ∃ host, Cond.fieldLinkNest own index ref (T k).2.1 (T k).2.2.1 host ∈ nw)) ∧ (ref = (T k).1 ∨ Cond.sameField ref (T k).1 (T k).2.1 (T k).2.2.1 ∈ gw) ∧ (∀ j, j < N → parseFieldDescriptor (T j).2.2.1 = some (ty0 j)) ∧ (∀ a, a < N → ∀ b, b < N → a ≠ b → (T a).2.1 ≠ (T b).2.1) ∧ (T k).2.2.2 = fin ∧ parseFieldDescriptor (T k).2.2.1 = some ty ∧ (fin = true → (T k).1 = own)
theorem e_same {args : Array Value} {s : State} {ref o n d : String} (h : ref = o ∨ (Cond.sameField ref o n d).before args s = true) : ∀ x, s.fieldFound? o n d = some x → s.fieldFound? ref n d = some x := by
  intro x hx
  rcases h with rfl | h
  · exact hx
  · exact u_same h x hx
section ER
variable {M : MD} {fr lo mc ms : Nat} {Q : Option Value → eH → Prop} {pc ce sl : Nat} {ls : List (Option Value)} {st : List Value} {h : eH}
theorem e_get (np : Nat) {index ci k a : Nat} {fs : List Value} {v : Value} (hd : decode M.2.1 pc = .ok (.getfield index, 3)) (hn : pc + 3 = np) (hF : FL M.1.cls index ci k) (ha : h a = some (.inr (ci, fs))) (hv : fs[k]? = some v) (kk : EE M fr lo mc ms Q np ls (v :: st) h ce sl) : EE M fr lo mc ms Q pc ls (.ref a :: st) h ce sl := by
  subst hn
  intro p l e s m args below meth c H locs D cA A lsA X R S L
  obtain ⟨C, T, N, ref, hc, hin, hk, hlk, hsm⟩ := hF
  have hP : va_P D vwCl [(a, .inr (ci, fs))] H := fun j q hj => by
    match j, hj with
    | 0, hj => cases hj; exact (R a _ ha).2
    | j + 1, hj => simp at hj
  have hts := X.2.2.2.2.2.1
  have hsame := e_same (args := args) (s := s) (hsm.imp id (fun z => hts _ z))
  rcases hlk with hlk | ⟨host, hlk⟩
  · exact va_get (tys := e_tys cA) X.1 X.2.1 hts hin X.2.2.2.2.1 X.2.2.2.2.2.2.1.1 hP 0 rfl hc k hk (hts _ hlk) hsame hv hd (kk p l e s m args below meth c H locs D cA A lsA X R S L)
  · exact va_getN (tys := e_tys cA) X.1 X.2.1 hts hin X.2.2.2.2.1 X.2.2.2.2.2.2.1.1 hP 0 rfl hc k hk (va_Nw.use rfl (X.2.2.2.2.2.2.1.2.1 _ hlk)) hsame hv hd (kk p l e s m args below meth c H locs D cA A lsA X R S L)
end ER
