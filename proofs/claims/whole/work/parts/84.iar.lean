/-! the reference's arrays: iar a n r: an int array at a with n cells, whose first are r -/
def iar (a n : Nat) (r : List Nat) : sA := fun h => ∃ f : Nat → Int32, (r.length ≤ n ∧ ∀ i, i < r.length → f i = nI (r.getD i 0)) ∧ pt a (.inl (0, n, .inl f)) h
theorem stars_at_ex : ∀ (L : List sA) (i : Nat) {P : sA} {ι : Type} {C : ι → Prop} {P' : ι → sA} {h : eH}, stars L h → L[i]? = some P → (∀ h, P h → ∃ x, C x ∧ P' x h) → ∃ x, C x ∧ stars (L.set i (P' x)) h
  | [], i, P, ι, C, P', h, _, hi, _ => by simp at hi
  | Q :: L, 0, P, ι, C, P', h, k, hi, f => by
    obtain ⟨h1, h2, hu, hj, p, q⟩ := k
    simp at hi
    subst hi
    obtain ⟨x, c, p'⟩ := f h1 p
    exact ⟨x, c, h1, h2, hu, hj, p', q⟩
  | Q :: L, i + 1, P, ι, C, P', h, k, hi, f => by
    obtain ⟨h1, h2, hu, hj, p, q⟩ := k
    obtain ⟨x, c, q'⟩ := stars_at_ex L i q (by simpa using hi) f
    exact ⟨x, c, h1, h2, hu, hj, p, q'⟩
theorem iar_rd (L : List sA) (i : Nat) {a n : Nat} {r : List Nat} {h : eH} (hL : stars L h) (hi : L[i]? = some (iar a n r)) : ∃ f : Nat → Int32, h a = some (.inl (0, n, .inl f)) ∧ r.length ≤ n ∧ ∀ j, j < r.length → f j = nI (r.getD j 0) := by
  obtain ⟨h1, ⟨f, ⟨hl, hf⟩, p⟩, e⟩ := stars_part L i hL hi
  exact ⟨f, e _ _ (pt_at p), hl, hf⟩
theorem iar_le (L : List sA) (i : Nat) {a n : Nat} {r : List Nat} {h : eH} (hL : stars L h) (hi : L[i]? = some (iar a n r)) : r.length ≤ n := by
  obtain ⟨f, -, hl, -⟩ := iar_rd L i hL hi
  exact hl
theorem set_set9 {L : List sA} {i : Nat} {P Q : sA} : (L.set i P).set i Q = L.set i Q := List.set_set _
section ER
variable {M : MD} {fr lo mc ms : Nat} {Q : Option Value → eH → Prop} {pc ce sl : Nat} {ls : List (Option Value)} {st : List Value} {h : eH}
/-- a cell of an array read -/
theorem p_iald (np : Nat) {L : List sA} (hL : stars L h) (i : Nat) {a n k : Nat} {r : List Nat} (hi : L[i]? = some (iar a n r)) (hd : decode M.2.1 pc = .ok (.iaload, 1)) (hn : pc + 1 = np) (hk : k < r.length) (hb : n < 2 ^ 31) (kk : EE M fr lo mc ms Q np ls (.int (nI (r.getD k 0)) :: st) h ce sl) : EE M fr lo mc ms Q pc ls (.int (nI k) :: .ref a :: st) h ce sl := by
  obtain ⟨f, ha, hl, hf⟩ := iar_rd L i hL hi
  exact e_iald np (v := nI (r.getD k 0)) hd hn ha (vp_in_nI (by omega) (by omega)) (by rw [nI_clamp (by omega)]; exact hf k hk) kk
/-- a cell of an array written: among the cells that count, or the next one -/
theorem p_iastR (np : Nat) {L L' : List sA} (hL : stars L h) (i : Nat) {a n k v : Nat} {r r' : List Nat} (hi : L[i]? = some (iar a n r)) (hd : decode M.2.1 pc = .ok (.iastore, 1)) (hn : pc + 1 = np) (hk : k < n) (hb : n < 2 ^ 31) (hr : r'.length ≤ n ∧ ∀ j, j < r'.length → (j = k ∧ r'.getD j 0 = v) ∨ (j ≠ k ∧ j < r.length ∧ r'.getD j 0 = r.getD j 0)) (hL' : L.set i (iar a n r') = L') (kk : ∀ h' : eH, stars L' h' → EE M fr lo mc ms Q np ls st h' ce sl) : EE M fr lo mc ms Q pc ls (.int (nI v) :: .int (nI k) :: .ref a :: st) h ce sl := by
  obtain ⟨f, ⟨hl, hf⟩, hL2⟩ := stars_at_ex L i (C := fun f : Nat → Int32 => r.length ≤ n ∧ ∀ i, i < r.length → f i = nI (r.getD i 0)) (P' := fun f => pt a (.inl (0, n, .inl f))) hL hi (fun h9 z => z)
  have hil : i < L.length := (List.getElem?_eq_some_iff.mp hi).1
  refine p_iast np hL2 i (k := k) (f := f) (L' := L.set i (pt a (.inl (0, n, .inl (upd f k (nI v)))))) (List.getElem?_set_self hil) (List.set_set _) hd hn (vp_in_nI (by omega) (by omega)) (nI_clamp (by omega)) (fun h' k9 => kk h' ?_)
  obtain ⟨-, -, k8⟩ := stars_at_ex (L.set i (pt a (.inl (0, n, .inl (upd f k (nI v)))))) i (ι := Unit) (C := fun _ => True) (P' := fun _ => iar a n r') k9 (List.getElem?_set_self hil) (fun h8 z => ⟨(), trivial, upd f k (nI v), ⟨hr.1, fun j hj => by
    rcases hr.2 j hj with ⟨e1, e2⟩ | ⟨e1, e2, e3⟩
    · subst e1; rw [pk_us, e2]
    · rw [pk_un e1, hf j e2, e3]⟩, z⟩)
  rw [List.set_set, hL'] at k8
  exact k8
end ER
theorem iw_set {n k v : Nat} {r : List Nat} (hl : r.length ≤ n) (hk : k < r.length) : (r.set k v).length ≤ n ∧ ∀ j, j < (r.set k v).length → (j = k ∧ (r.set k v).getD j 0 = v) ∨ (j ≠ k ∧ j < r.length ∧ (r.set k v).getD j 0 = r.getD j 0) := by
  refine ⟨by rw [List.length_set]; exact hl, fun j hj => ?_⟩
  rw [List.length_set] at hj
  by_cases e : j = k
  · subst e; exact Or.inl ⟨rfl, by simp [List.getD, hj]⟩
  · exact Or.inr ⟨e, hj, by simp only [List.getD, List.getElem?_set_ne (Ne.symm e)]⟩
theorem iw_app {n v : Nat} {r : List Nat} (hl : r.length < n) : (r ++ [v]).length ≤ n ∧ ∀ j, j < (r ++ [v]).length → (j = r.length ∧ (r ++ [v]).getD j 0 = v) ∨ (j ≠ r.length ∧ j < r.length ∧ (r ++ [v]).getD j 0 = r.getD j 0) := by
  refine ⟨by rw [List.length_append, List.length_singleton]; omega, fun j hj => ?_⟩
  rw [List.length_append, List.length_singleton] at hj
  by_cases e : j = r.length
  · subst e; exact Or.inl ⟨rfl, gd_last⟩
  · exact Or.inr ⟨e, by omega, gd_app (by omega)⟩
