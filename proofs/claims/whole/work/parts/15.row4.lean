theorem k_X4_at {a cap : Nat} {r : List Nat} {k : Nat} (hk : k < 2 ^ 31) : CA mX4_at [.ref a, .int (nI k)] [row a cap r] (fun x L => x = some (.int (nI (r.getD k 0))) ∧ L = [row a cap r]) 0 0 0 0 := by
  intro h k
  obtain ⟨c, hr, hn⟩ := stars_one k
  exact Ct.mono (c_X4_at hr hk) (fun x h1 q => ⟨_, ⟨q.1, rfl⟩, stars_of (by rw [q.2]; exact ⟨c, hr, hn⟩)⟩)
theorem k_X4_orNone {a cap : Nat} {r : List Nat} {k : Int32} : CA mX4_orNone [.ref a, .int k] [row a cap r] (fun x L => x = some (.int (gI r k)) ∧ L = [row a cap r]) 0 0 0 0 := by
  intro h k
  obtain ⟨c, hr, hn⟩ := stars_one k
  exact Ct.mono (c_X4_orNone hr) (fun x h1 q => ⟨_, ⟨q.1, rfl⟩, stars_of (by rw [q.2]; exact ⟨c, hr, hn⟩)⟩)
theorem k_X4_word {a cap : Nat} {r : List Nat} {k : Nat} (hk : k < 100000) : CA mX4_word [.ref a, .int (nI k)] [row a cap r] (fun x L => x = some (.int (nI (wd r k))) ∧ L = [row a cap r]) 0 0 0 0 := by
  intro h k
  obtain ⟨c, hr, hn⟩ := stars_one k
  exact Ct.mono (c_X4_word hr hk) (fun x h1 q => ⟨_, ⟨q.1, rfl⟩, stars_of (by rw [q.2]; exact ⟨c, hr, hn⟩)⟩)
theorem k_X4_sumOf {a cap : Nat} {r : List Nat} (hb : ∀ x ∈ r, x < 65536) {m : Nat} (hm : m < 100000) : CA mX4_sumOf [.ref a, .int (nI m)] [row a cap r] (fun x L => x = some (.int (nI (crs (r.take m)))) ∧ L = [row a cap r]) 0 0 0 0 := by
  intro h k
  obtain ⟨c, hr, hn⟩ := stars_one k
  exact Ct.mono (c_X4_sumOf hr hb hm) (fun x h1 q => ⟨_, ⟨q.1, rfl⟩, stars_of (by rw [q.2]; exact ⟨c, hr, hn⟩)⟩)
theorem k_X4_change {a cap : Nat} {r : List Nat} {k v : Nat} (hk : k < 2 ^ 31) : CA mX4_change [.ref a, .int (nI k), .int (nI v)] [row a cap r] (fun x L => x = none ∧ L = [row a cap (r.set k v)]) 0 0 0 0 := by
  intro h k
  obtain ⟨c, hr, hn⟩ := stars_one k
  exact Ct.mono (c_X4_change hr hk) (fun x h1 q => ⟨_, ⟨q.1, rfl⟩, stars_of (row_to hn q.2.1 q.2.2)⟩)
theorem k_X4_add {a cap : Nat} {r : List Nat} {v : Nat} : CA mX4_add [.ref a, .int (nI v)] [row a cap r] (fun x L => x = none ∧ L = [row a cap (if r.length < cap then r ++ [v] else r)]) 0 0 0 0 := by
  intro h k
  obtain ⟨c, hr, hn⟩ := stars_one k
  exact Ct.mono (c_X4_add hr) (fun x h1 q => ⟨_, ⟨q.1, rfl⟩, stars_of (row_to hn q.2.1 q.2.2)⟩)
theorem k_X4_addWord {a cap : Nat} {r : List Nat} {v : Nat} (hv : v < 65536) : CA mX4_addWord [.ref a, .int (nI v)] [row a cap r] (fun x L => x = none ∧ L = [row a cap (if r.length + 1 < cap then r ++ [v / 2 ^ 8 % 2 ^ 8, v % 2 ^ 8] else r)]) 0 0 0 0 := by
  intro h k
  obtain ⟨c, hr, hn⟩ := stars_one k
  exact Ct.mono (c_X4_addWord hr hv) (fun x h1 q => ⟨_, ⟨q.1, rfl⟩, stars_of (row_to hn q.2.1 q.2.2)⟩)
theorem k_X4_clear {a cap : Nat} {r : List Nat}  : CA mX4_clear [.ref a] [row a cap r] (fun x L => x = none ∧ L = [row a cap []]) 0 0 0 0 := by
  intro h k
  obtain ⟨c, hr, hn⟩ := stars_one k
  exact Ct.mono (c_X4_clear hr) (fun x h1 q => ⟨_, ⟨q.1, rfl⟩, stars_of (row_to hn q.2.1 q.2.2)⟩)
theorem k_X4_cut {a cap : Nat} {r : List Nat} {k : Nat} (hk : k < 2 ^ 31) : CA mX4_cut [.ref a, .int (nI k)] [row a cap r] (fun x L => x = none ∧ L = [row a cap (r.take k)]) 0 0 0 0 := by
  intro h k
  obtain ⟨c, hr, hn⟩ := stars_one k
  exact Ct.mono (c_X4_cut hr hk) (fun x h1 q => ⟨_, ⟨q.1, rfl⟩, stars_of (row_to hn q.2.1 q.2.2)⟩)
theorem k_X4_becomeZeros {a cap : Nat} {r : List Nat} {m : Nat} (hm : m ≤ cap) : CA mX4_becomeZeros [.ref a, .int (nI m)] [row a cap r] (fun x L => x = none ∧ L = [row a cap (List.replicate m 0)]) 1 21 0 0 := by
  intro h k
  obtain ⟨c, hr, hn⟩ := stars_one k
  exact Ct.mono (c_X4_becomeZeros hr hm) (fun x h1 q => ⟨_, ⟨q.1, rfl⟩, stars_of (row_to hn q.2.1 q.2.2)⟩)
theorem row2 {a cap a2 cap2 : Nat} {r r2 : List Nat} {h : eH} (k : stars [row a cap r, row a2 cap2 r2] h) : ∃ c c2 h1 h2, e_un h1 h2 = h ∧ e_dj h1 h2 ∧ rwAt h a c cap r ∧ rwAt h a2 c2 cap2 r2 ∧ (a ≠ a2 ∧ c ≠ c2) ∧ (∀ b, b ≠ a → b ≠ c → h1 b = none) ∧ row a2 cap2 r2 h2 ∧ h2 a = none ∧ h2 c = none := by
  obtain ⟨h1, h2, hu, hj, ⟨c, ⟨f, ha, hc, q⟩, hn⟩, k2⟩ := k
  have k3 := stars_one k2
  obtain ⟨c2, ⟨f2, ha2, hc2, q2⟩, hn2⟩ := k3
  have n1 : h2 a = none := (hj a).resolve_left (by rw [ha]; simp)
  have n2 : h2 c = none := (hj c).resolve_left (by rw [hc]; simp)
  have m1 : h1 a2 = none := (hj a2).resolve_right (by rw [ha2]; simp)
  have m2 : h1 c2 = none := (hj c2).resolve_right (by rw [hc2]; simp)
  refine ⟨c, c2, h1, h2, hu, hj, ⟨f, by rw [← hu]; exact e_un_l ha, by rw [← hu]; exact e_un_l hc, q⟩, ⟨f2, by rw [← hu, e_un_r m1]; exact ha2, by rw [← hu, e_un_r m2]; exact hc2, q2⟩, ⟨?_, ?_⟩, hn, ⟨c2, ⟨f2, ha2, hc2, q2⟩, hn2⟩, n1, n2⟩
  · intro e; rw [e, ha2] at n1; cases n1
  · intro e; rw [e, hc2] at n2; cases n2
theorem row2_to {a cap a2 cap2 c : Nat} {r' r2 : List Nat} {h h1 h2 h' : eH} (hu : e_un h1 h2 = h) (hn : ∀ b, b ≠ a → b ≠ c → h1 b = none) (k2 : row a2 cap2 r2 h2) (n1 : h2 a = none) (n2 : h2 c = none) (hr : rwAt h' a c cap r') (k : sm h h' [a, c]) : stars [row a cap r', row a2 cap2 r2] h' := by
  obtain ⟨f, ha, hc, q⟩ := hr
  refine ⟨fun b => if b = a ∨ b = c then h' b else none, h2, ?_, ?_, ⟨c, ⟨f, ?_, ?_, q⟩, ?_⟩, stars_of k2⟩
  · funext b
    by_cases e : b = a ∨ b = c
    · rcases e with rfl | rfl
      · rw [e_un_l (x := _) (by rw [if_pos (Or.inl rfl)]; exact ha)]; exact ha.symm
      · rw [e_un_l (x := _) (by rw [if_pos (Or.inr rfl)]; exact hc)]; exact hc.symm
    · rw [e_un_r (by rw [if_neg e])]
      have e1 : b ≠ a := fun z => e (Or.inl z)
      have e2 : b ≠ c := fun z => e (Or.inr z)
      rw [k b (by simp [e1, e2]), ← hu, e_un_r (hn b e1 e2)]
  · intro b
    by_cases e : b = a ∨ b = c
    · right
      rcases e with rfl | rfl
      · exact n1
      · exact n2
    · exact Or.inl (if_neg e)
  · exact (if_pos (Or.inl rfl)).trans ha
  · exact (if_pos (Or.inr rfl)).trans hc
  · intro b e1 e2
    exact if_neg (by rintro (z | z) <;> contradiction)
theorem k_X4_addPart {a cap a2 cap2 : Nat} {r r2 : List Nat} {s m : Nat} (hs : s < 100000) (hm : m < 100000) : CA mX4_addPart [.ref a, .ref a2, .int (nI s), .int (nI m)] [row a cap r, row a2 cap2 r2] (fun x L => x = none ∧ L = [row a cap ((r ++ pf r2 s m).take cap), row a2 cap2 r2]) 0 0 0 0 := by
  intro h k
  obtain ⟨c, c2, h1, h2, hu, hj, hr, hr2, hd, hn, k2, n1, n2⟩ := row2 k
  exact Ct.mono (c_X4_addPart hr hr2 hd hs hm) (fun x h1 q => ⟨_, ⟨q.1, rfl⟩, row2_to hu hn k2 n1 n2 q.2.1 q.2.2⟩)
