theorem e_weak {M : MD} {fr lo mc ms : Nat} {Q : Option Value → eH → Prop} {pc ce sl : Nat} {ls : List (Option Value)} {st : List Value} {h : eH} (ls' : List (Option Value)) (hs : ∀ (i : Nat) (v : Value), ls'[i]? = some (some v) → ls[i]? = some (some v)) (k : EE M fr lo mc ms Q pc ls' st h ce sl) : EE M fr lo mc ms Q pc ls st h ce sl := by
  intro p l e s m args below meth c H locs D cA base lsA X R S L
  refine k p l e s m args below meth c H locs D cA base lsA X R S ⟨e_L.of L.1 hs, fun v hv => ?_⟩
  obtain ⟨i, hi⟩ := List.getElem?_of_mem hv
  exact L.2 v (List.mem_of_getElem? (hs i v hi))
def ls_le : List (Option Value) → List (Option Value) → Prop
  | [], _ => True
  | none :: l, [] => ls_le l []
  | some _ :: _, [] => False
  | none :: l, _ :: l' => ls_le l l'
  | some v :: l, x :: l' => x = some v ∧ ls_le l l'
theorem ls_le_at : ∀ (l l' : List (Option Value)), ls_le l l' → ∀ (i : Nat) (v : Value), l[i]? = some (some v) → l'[i]? = some (some v)
  | [], _, _, i, v, h => by simp at h
  | none :: l, [], k, 0, v, h => by simp at h
  | none :: l, [], k, i + 1, v, h => by
    have := ls_le_at l [] k i v (by simpa using h)
    simp at this
  | some _ :: _, [], k, _, _, _ => k.elim
  | none :: l, x :: l', k, 0, v, h => by simp at h
  | none :: l, x :: l', k, i + 1, v, h => by simpa using ls_le_at l l' k i v (by simpa using h)
  | some w :: l, x :: l', k, 0, v, h => by
    rw [k.1]
    simpa using h
  | some w :: l, x :: l', k, i + 1, v, h => by simpa using ls_le_at l l' k.2 i v (by simpa using h)
theorem e_wk {M : MD} {fr lo mc ms : Nat} {Q : Option Value → eH → Prop} {pc ce sl : Nat} {ls : List (Option Value)} {st : List Value} {h : eH} (ls' : List (Option Value)) (hs : ls_le ls' ls) (k : EE M fr lo mc ms Q pc ls' st h ce sl) : EE M fr lo mc ms Q pc ls st h ce sl := e_weak ls' (ls_le_at ls' ls hs) k
theorem rwAt.keep {h h' : eH} {a c cap : Nat} {r S : List Nat} (hr : rwAt h a c cap r) (k : sm h h' S) (h1 : a ∉ S) (h2 : c ∉ S) : rwAt h' a c cap r := by
  obtain ⟨f, ha, hc, q⟩ := hr
  exact ⟨f, (k a h1).trans ha, (k c h2).trans hc, q⟩
theorem rwAt.ne {h : eH} {a c cap : Nat} {r : List Nat} (hr : rwAt h a c cap r) : a ≠ c := by
  obtain ⟨f, ha, hc, q⟩ := hr
  exact e_ne_oa ha hc
theorem rwAt.ne2 {h : eH} {a c cap a2 c2 cap2 : Nat} {r r2 : List Nat} (hr : rwAt h a c cap r) (hr2 : rwAt h a2 c2 cap2 r2) : a ≠ c2 := by
  obtain ⟨f, ha, hc, q⟩ := hr
  obtain ⟨f2, ha2, hc2, q2⟩ := hr2
  exact e_ne_oa ha hc2
/-- the part of r2 from s on, m numbers, 0 beyond -/
def pf (r2 : List Nat) (s m : Nat) : List Nat := (List.range m).map (fun i => r2.getD (s + i) 0)
theorem pf_len {r2 : List Nat} {s m : Nat} : (pf r2 s m).length = m := by simp [pf]
theorem pf_succ {r2 : List Nat} {s m : Nat} : pf r2 s (m + 1) = pf r2 s m ++ [r2.getD (s + m) 0] := by simp [pf, List.range_succ]
theorem pf_split {r2 : List Nat} {s i : Nat} : ∀ j : Nat, pf r2 s (i + j) = pf r2 s i ++ pf r2 (s + i) j
  | 0 => by simp [pf]
  | j + 1 => by
    rw [show i + (j + 1) = (i + j) + 1 from rfl, pf_succ, pf_succ, pf_split j, List.append_assoc, Nat.add_assoc]
theorem pf_step {r r2 : List Nat} {s i cap : Nat} (h : ((r ++ pf r2 s i).take cap).length < cap) : (r ++ pf r2 s i).take cap ++ [r2.getD (s + i) 0] = (r ++ pf r2 s (i + 1)).take cap := by
  rw [List.length_take, List.length_append, pf_len] at h
  have h1 : r.length + i < cap := by omega
  rw [List.take_of_length_le (by rw [List.length_append, pf_len]; omega), List.take_of_length_le (by rw [List.length_append, pf_len]; omega), pf_succ, List.append_assoc]
theorem pf_full {r r2 : List Nat} {s i m cap : Nat} (h : cap ≤ ((r ++ pf r2 s i).take cap).length) (hi : i ≤ m) : (r ++ pf r2 s i).take cap = (r ++ pf r2 s m).take cap := by
  obtain ⟨j, rfl⟩ : ∃ j, m = i + j := ⟨m - i, by omega⟩
  rw [List.length_take] at h
  rw [pf_split, ← List.append_assoc]
  exact (List.take_append_of_le_length (by omega)).symm
