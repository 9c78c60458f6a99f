/-! answers are bytes, and fit -/
def shO (cap rm kb : Nat) (M : List (Nat × List Nat)) : Prop := M.length ≤ cap ∧ (∀ e ∈ M, e.1 < kb ∧ e.2.length ≤ rm) ∧ (M.map (·.1)).Nodup
def okE (s : DS) : Prop := (∀ k, k < 4 → (s.2.2.2.2.1 k).length ≤ 400 ∧ s.2.1 k + (s.2.2.2.2.1 k).length ≤ 65536) ∧ ((∀ x ∈ s.2.2.2.2.1 0, x < 2) ∧ ∀ x ∈ s.2.2.2.2.1 1, x < 2) ∧ ((s.2.2.2.2.1 4).length ≤ 48 ∧ (s.2.2.2.2.1 5).length ≤ 64 ∧ (s.2.2.2.2.1 6).length ≤ 256 ∧ (s.2.2.2.2.1 7).length ≤ 253 ∧ ((s.2.2.2.2.1 7).length = 0 → s.1 17 = 0)) ∧ (shO 4 120 65536 (s.2.2.2.2.2.1 0) ∧ shO 4 40 65536 (s.2.2.2.2.2.1 1) ∧ shO 10 40 256 (s.2.2.2.2.2.1 2)) ∧ ∀ i, i < s.1 8 → s.2.2.1 (4 * i) ≤ s.2.2.1 (4 * i + 1) ∧ s.2.2.1 (4 * i + 1) < 65536 ∧ s.2.2.1 (4 * i + 2) < 65536 ∧ s.2.2.1 (4 * i + 3) < 65536
theorem w2_lt {x : Nat} : ∀ y ∈ w2 x, y < 256 := by
  intro y hy
  simp only [w2, List.mem_cons, List.not_mem_nil, or_false] at hy
  rcases hy with z | z <;> rw [z] <;> exact Nat.mod_lt _ (by decide)
theorem app_lt {a b : List Nat} (ha : ∀ x ∈ a, x < 256) (hb : ∀ x ∈ b, x < 256) : ∀ x ∈ a ++ b, x < 256 := fun x hx => (List.mem_append.mp hx).elim (ha x) (hb x)
theorem one_lt {v : Nat} (h : v < 256) : ∀ x ∈ [v], x < 256 := fun x hx => by rw [List.mem_singleton.mp hx]; exact h
theorem rbR_lt {q vs : List Nat} {fr j : Nat} (hq : ∀ x ∈ q, x < 256) (h : wd q 3 ≤ 2000) : ∀ x ∈ rbR q vs fr j, x < 256 := by
  refine app_lt ?_ ?_
  · intro x hx
    simp only [List.mem_cons, List.not_mem_nil, or_false] at hx
    rcases hx with z | z
    · rw [z]; exact gd_lt hq (by decide)
    · rw [z]; omega
  · intro x hx
    obtain ⟨i, -, rfl⟩ := List.mem_map.mp hx
    refine Nat.lt_of_lt_of_le (bts_lt _ _ _) ?_
    exact Nat.pow_le_pow_right (n := 2) (by decide) (Nat.min_le_right _ 8)
theorem rwR_lt {q vs : List Nat} {fr j : Nat} (hq : ∀ x ∈ q, x < 256) (h : wd q 3 ≤ 125) : ∀ x ∈ rwR q vs fr j, x < 256 := by
  refine app_lt ?_ ?_
  · intro x hx
    simp only [List.mem_cons, List.not_mem_nil, or_false] at hx
    rcases hx with z | z
    · rw [z]; exact gd_lt hq (by decide)
    · rw [z]; omega
  · intro x hx
    obtain ⟨i, -, z⟩ := List.mem_flatMap.mp hx
    exact w2_lt x z
theorem set_ltB {l : List Nat} {i x : Nat} (h : ∀ y ∈ l, y < 256) (hx : x < 256) : ∀ y ∈ l.set i x, y < 256 := set_lt h hx
theorem rdS_part {q : List Nat} : ∀ {j T : Nat}, j < T → rdS q j + (2 + 2 * wd q (2 + 7 * j + 5)) ≤ rdS q T := by
  intro j T h
  exact rdS_mono (q := q) (j := j + 1) (T := T) (by omega)
theorem rdS_2 {q : List Nat} : ∀ j, 2 ≤ rdS q j
  | 0 => Nat.le_refl _
  | j + 1 => by rw [rdS]; have := rdS_2 (q := q) j; omega
theorem rfR_lt {M : List (Nat × List Nat)} {q : List Nat} {T : Nat} (h : rdS q T ≤ 253) : ∀ j, j ≤ T → ∀ x ∈ rfR M q j, x < 256
  | 0, _ => by intro x hx; simp only [rfR, List.mem_append, List.mem_singleton] at hx; rcases hx with z | z <;> rw [z] <;> decide
  | j + 1, hj => by
    rw [rfR]
    refine app_lt (rfR_lt h j (by omega)) ?_
    have h1 := rdS_part (q := q) (j := j) (T := T) (by omega)
    have h2 := rdS_2 (q := q) j
    unfold rfP
    refine app_lt (app_lt (one_lt (by omega)) (one_lt (by decide))) ?_
    intro x hx
    obtain ⟨i, -, z⟩ := List.mem_flatMap.mp hx
    exact w2_lt x z
theorem tvR_lt {ct : Nat → Nat} {lo : List Nat} (h : lo.length ≤ 64) : ∀ x ∈ tvR ct lo, x < 256 := app_lt (app_lt (app_lt (app_lt (one_lt (by decide)) (one_lt (by omega))) w2_lt) w2_lt) w2_lt
theorem tqR_lt {r : List Nat} {j : Nat} : ∀ x ∈ tqR r j, x < 256 := by
  refine app_lt (app_lt (app_lt (one_lt (by decide)) w2_lt) w2_lt) ?_
  intro x hx
  obtain ⟨i, -, z⟩ := List.mem_flatMap.mp hx
  exact w2_lt x z
theorem lsK_mem {a b : Nat} : ∀ (l : List Nat) (m : Option Nat) (z : Nat), l.foldl (lsK a b) m = some z → m = some z ∨ z ∈ l
  | [], m, z, h => Or.inl h
  | x :: l, m, z, h => by
    rcases lsK_mem l (lsK a b m x) z h with y | y
    · unfold lsK at y
      split at y
      · cases m with
        | none => cases y; exact Or.inr List.mem_cons_self
        | some w =>
          simp only at y
          split at y
          · cases y; exact Or.inr List.mem_cons_self
          · exact Or.inl y
      · exact Or.inl y
    · exact Or.inr (List.mem_cons_of_mem _ y)
theorem lsT_mem {T : List (Nat × List Nat)} {a b z : Nat} (h : lsT T a b = some z) : ∃ e ∈ T, e.1 = z := by
  rcases lsK_mem _ _ _ h with y | y
  · cases y
  · obtain ⟨e, he, rfl⟩ := List.mem_map.mp y
    exact ⟨e, he, rfl⟩
theorem rwM_len {M : List (Nat × List Nat)} {cap rm kb i : Nat} (h : shO cap rm kb M) : (rwM M i).length ≤ rm := by
  by_cases hi : i < M.length
  · have e : M.getD i (0, []) = M[i] := by simp [List.getD, hi]
    show (M.getD i (0, [])).2.length ≤ rm
    rw [e]
    exact (h.2.1 _ (List.getElem_mem hi)).2
  · have e : M.getD i (0, []) = (0, []) := by simp [List.getD, List.getElem?_eq_none (Nat.le_of_not_lt hi)]
    show (M.getD i (0, [])).2.length ≤ rm
    rw [e]
    exact Nat.zero_le _
theorem ttL_ok {T : List (Nat × List Nat)} {code last : Nat} (hT : okM 256 T) (hO : shO 10 40 256 T) : ∀ (t : Nat) (o : Option Nat) (n : Nat) (s : List Nat), (∀ z, o = some z → z < 256) → (∀ x ∈ s, x < 256) → s.length ≤ 253 → (∀ z, (ttL T code last t o n s).1 = some z → z < 256) ∧ (∀ x ∈ (ttL T code last t o n s).2.2, x < 256) ∧ (ttL T code last t o n s).2.2.length ≤ 253 ∧ (ttL T code last t o n s).2.1 ≤ n + t
  | 0, o, n, s, ho, hs, hl => ⟨ho, hs, hl, Nat.le_refl _⟩
  | t + 1, none, n, s, ho, hs, hl => ⟨(fun z hz => by cases hz), hs, hl, Nat.le_add_right _ _⟩
  | t + 1, some k, n, s, ho, hs, hl => by
    cases hk : ixM T (nI k) with
    | none => rw [ttL_n hk]; exact ⟨ho, hs, hl, Nat.le_add_right _ _⟩
    | some i =>
      by_cases h2 : s.length + 2 + (rwM T i).length ≤ 253
      · rw [ttL_s hk h2]
        have hr := rwM_len (i := i) hO
        have := ttL_ok hT hO t (if code = 4 then none else lsT T (k + 1) last) (n + 1) (((s ++ [k]) ++ [(rwM T i).length]) ++ rwM T i) (code := code) (last := last) (fun z hz => by
          split at hz
          · cases hz
          · obtain ⟨e, he, e9⟩ := lsT_mem hz
            rw [← e9]; exact (hO.2.1 e he).1) (app_lt (app_lt (app_lt hs (one_lt (ho k rfl))) (one_lt (by omega))) (okM_at hT)) (by simp only [List.length_append, List.length_singleton]; omega)
        exact ⟨this.1, this.2.1, this.2.2.1, by have := this.2.2.2; omega⟩
      · rw [ttL_f hk h2]; exact ⟨ho, hs, hl, Nat.le_add_right _ _⟩
theorem ttA_ok {T : List (Nat × List Nat)} {q : List Nat} (hT : okM 256 T) (hO : shO 10 40 256 T) (hq : ∀ x ∈ q, x < 256) : (∀ x ∈ ttA T q, x < 256) ∧ (ttA T q).length ≤ 253 := by
  have hg : ttG T < 256 := by
    unfold ttG
    (repeat' split) <;> decide
  have hh : ∀ x ∈ ttH T q, x < 256 := app_lt (app_lt (app_lt (app_lt (pf_lt hq (by decide)) (one_lt hg)) (one_lt (by decide))) (one_lt (by decide))) (one_lt (by decide))
  have hhl : (ttH T q).length ≤ 253 := by simp only [ttH, List.length_append, List.length_singleton, pf_len]; decide
  have hi : ∀ z, ttI T q = some z → z < 256 := by
    intro z hz
    unfold ttI at hz
    split at hz
    · cases hz; exact gd_lt hq (by decide)
    · obtain ⟨e, he, e9⟩ := lsT_mem hz
      rw [← e9]; exact (hO.2.1 e he).1
  obtain ⟨a, b, c, d⟩ := ttL_ok (code := q.getD 2 0) (last := ttM (q.getD 2 0)) hT hO 10 (ttI T q) 0 (ttH T q) hi hh hhl
  refine ⟨?_, by simp only [ttA, ttE, List.length_set]; exact c⟩
  unfold ttA ttE
  refine set_ltB (set_ltB (set_ltB b ?_) ?_) (by omega)
  · split <;> decide
  · split
    · decide
    · rename_i k hk; exact a k hk
theorem itF_f {q : List Nat} (h : itF (q.getD 0 0) = true) : q.getD 0 0 = 7 ∨ q.getD 0 0 = 11 ∨ q.getD 0 0 = 12 ∨ q.getD 0 0 = 17 ∨ q.getD 0 0 = 20 ∨ q.getD 0 0 = 24 ∨ q.getD 0 0 = 43 := by
  simpa [itF] using h
theorem svA_ok {s : DS} {q : List Nat} (hd : okD s) (he : okE s) (hq : ∀ x ∈ q, x < 256) (hl : q.length ≤ 253) : (∀ x ∈ svA s q, x < 256) ∧ (svA s q).length ≤ 253 := by
  obtain ⟨v, bf, lm, ct, L, S, B⟩ := s
  obtain ⟨h8, hb, hct, hLs, hSs, hru, h18, hlo9, her9, hrp9, hT9, hK9, hv0, hv1, hv2, hv17⟩ := hd
  obtain ⟨e1, e2, ⟨e3, e4, e5, e6, e7⟩, ⟨eF, eQ, eT⟩, eL⟩ := he
  simp only at h8 hb hct hLs hSs hru h18 hlo9 her9 hrp9 hT9 hK9 hv0 hv1 hv2 hv17 e1 e2 e3 e4 e5 e6 e7 eF eQ eT
  unfold svA
  split
  · rename_i z
    have := svC_le (s := (v, bf, lm, ct, L, S, B)) (q := q)
    refine ⟨?_, (by decide : 2 ≤ 253)⟩
    intro x hx
    simp only [List.mem_cons, List.not_mem_nil, or_false] at hx
    rcases hx with y | y
    · rw [y]; exact Nat.mod_lt _ (by decide)
    · rw [y]; omega
  · rename_i z
    have hz : svC (v, bf, lm, ct, L, S, B) q = 0 := by simpa using z
    have hsh : shF q = 0 := by
      unfold svC at hz
      split at hz
      · cases hz
      · split at hz
        · rename_i y; exact absurd hz y
        · rename_i y; simpa using y
    have hfh : fhF bf L lm (v 8) S q = 0 := by
      unfold svC at hz
      split at hz
      · cases hz
      · split at hz
        · rename_i y; exact absurd hz y
        · exact hz
    split
    · simp only [tlA]
      split
      · refine ⟨app_lt (one_lt (by decide)) (one_lt ?_), (by decide : 2 ≤ 253)⟩
        exact bts_lt _ _ 8
      · split
        · exact ⟨app_lt (app_lt (one_lt (by decide)) w2_lt) w2_lt, (by decide : 5 ≤ 253)⟩
        · split
          · refine ⟨app_lt (tvR_lt e4) (fun x hx => hlo9 x (List.mem_reverse.mp hx)), ?_⟩
            rw [List.length_append, List.length_reverse, tvR_len]; omega
          · split
            · exact ⟨app_lt (app_lt (app_lt (one_lt (by decide)) (one_lt (by decide))) (one_lt (by omega))) (one_lt (by decide)), (by decide : 4 ≤ 253)⟩
            · split
              · rename_i h20
                have hp := sh_rd h20 hsh
                simp only [rdP, decide_eq_true_eq] at hp
                obtain ⟨p1, p2, p3, p4, p5, p6⟩ := hp
                rw [← p5] at p6
                exact ⟨set_ltB (rfR_lt p6 _ (Nat.le_refl _)) (by omega), by rw [List.length_set, rfR_len]; exact p6⟩
              · split
                · rename_i h24
                  obtain ⟨i, hi, hi2⟩ := fh_24 hfh h24
                  rw [hi]
                  refine ⟨tqR_lt, ?_⟩
                  rw [tqR_len (Nat.le_refl _)]
                  show 5 + 2 * (rwM (S 1) i).length ≤ 253
                  omega
                · exact ttA_ok hT9 eT hq
    · simp only [pfA]
      split
      · rename_i h1
        have := sh_1 (Or.inl h1) hsh
        exact ⟨rbR_lt hq this.2.2, by rw [rbR_len]; omega⟩
      · split
        · rename_i h1
          have := sh_1 (Or.inr h1) hsh
          exact ⟨rbR_lt hq this.2.2, by rw [rbR_len]; omega⟩
        · split
          · rename_i h1
            have := sh_3 (Or.inl h1) hsh
            exact ⟨rwR_lt hq this.2.2, by rw [rwR_len]; omega⟩
          · split
            · rename_i h1
              have := sh_3 (Or.inr h1) hsh
              exact ⟨rwR_lt hq this.2.2, by rw [rwR_len]; omega⟩
            · split
              · exact ⟨hq, hl⟩
              · split
                · unfold dnA
                  split
                  · exact ⟨(fun x hx => by cases hx), (by decide : 0 ≤ 253)⟩
                  · split
                    · refine ⟨app_lt (fun x hx => hq x (List.mem_of_mem_take hx)) w2_lt, ?_⟩
                      rw [List.length_append, List.length_take, w2_len]; omega
                    · exact ⟨hq, hl⟩
                · split
                  · exact ⟨pf_lt hq (by decide), by rw [pf_len]; decide⟩
                  · split
                    · rename_i h1
                      have := sh_23 h1 hsh
                      exact ⟨rwR_lt hq this.2.2.1, by rw [rwR_len]; omega⟩
                    · exact ⟨(fun x hx => by cases hx), (by decide : 0 ≤ 253)⟩
