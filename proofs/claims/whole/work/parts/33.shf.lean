/-! a shelf as a list of keys and rows -/
def shf (s cap rm : Nat) (M : List (Nat × List Nat)) : sA := fun h => ∃ (K : List (Nat × Nat)) (C : Nat → List Nat), K.map (fun e => (e.1, C e.2)) = M ∧ stars [shB s cap rm K, rws rm K C] h
theorem shf_O {s cap rm : Nat} {M : List (Nat × List Nat)} : isO (shf s cap rm M) s 6 := by
  rintro h ⟨K, C, -, k⟩
  exact stars_isO _ 0 k rfl shB_O
theorem shf_o {s cap rm : Nat} {M : List (Nat × List Nat)} {L : List sA} {h : eH} (k : stars (shf s cap rm M :: L) h) : ∃ (K : List (Nat × Nat)) (C : Nat → List Nat), K.map (fun e => (e.1, C e.2)) = M ∧ stars (shB s cap rm K :: rws rm K C :: L) h := by
  obtain ⟨h1, h2, hu, hj, ⟨K, C, p, k⟩, q⟩ := k
  exact ⟨K, C, p, (stars_app [_, _] L).mpr ⟨h1, h2, hu, hj, k, q⟩⟩
theorem shf_c {s cap rm : Nat} {M : List (Nat × List Nat)} {K : List (Nat × Nat)} {C : Nat → List Nat} {L : List sA} {h : eH} (hM : K.map (fun e => (e.1, C e.2)) = M) (k : stars (shB s cap rm K :: rws rm K C :: L) h) : stars (shf s cap rm M :: L) h := stars_close (K := [_, _]) k (fun h' k' => ⟨K, C, hM, k'⟩)
/-- where a key stands -/
def ixM (M : List (Nat × List Nat)) (x : Int32) : Option Nat := M.findIdx? (fun e => nI e.1 == x)
theorem ixM_lt {M : List (Nat × List Nat)} {x : Int32} {i : Nat} (h : ixM M x = some i) : i < M.length := by
  rw [ixM, List.findIdx?_eq_some_iff_getElem] at h
  exact h.1
/-- the row of the shelf at i -/
abbrev rwM (M : List (Nat × List Nat)) (i : Nat) : List Nat := (M.getD i (0, [])).2
abbrev keM (M : List (Nat × List Nat)) (i : Nat) : Nat := (M.getD i (0, [])).1
abbrev stM (M : List (Nat × List Nat)) (i : Nat) (r : List Nat) : List (Nat × List Nat) := M.set i (keM M i, r)
theorem lk_ix (C : Nat → List Nat) (x : Int32) : ∀ (K : List (Nat × Nat)), (ixM (K.map (fun e => (e.1, C e.2))) x = none ∧ lkS K x = none) ∨ ∃ i, ixM (K.map (fun e => (e.1, C e.2))) x = some i ∧ i < K.length ∧ lkS K x = some (K.getD i (0, 0)).2
  | [] => Or.inl ⟨rfl, rfl⟩
  | e :: K => by
    cases hb : (nI e.1 == x) with
    | true =>
      refine Or.inr ⟨0, ?_, by simp, ?_⟩
      · simp only [ixM, List.map_cons, List.findIdx?_cons, hb, if_true]
      · simp only [lkS, List.find?_cons, hb, Option.map_some, List.getD_cons_zero]
    | false =>
      rcases lk_ix C x K with ⟨h1, h2⟩ | ⟨i, h1, h2, h3⟩
      · left
        refine ⟨?_, ?_⟩
        · rw [ixM] at h1
          simp only [ixM, List.map_cons, List.findIdx?_cons, hb, h1, Option.map_none, Bool.false_eq_true, if_false]
        · rw [lkS] at h2
          simp only [lkS, List.find?_cons, hb, h2]
      · right
        refine ⟨i + 1, ?_, by simp; omega, ?_⟩
        · rw [ixM] at h1
          simp only [ixM, List.map_cons, List.findIdx?_cons, hb, h1, Option.map_some, Bool.false_eq_true, if_false]
        · rw [lkS] at h3
          simp only [lkS, List.find?_cons, hb, h3, List.getD_cons_succ]
theorem mp_at {K : List (Nat × Nat)} {C : Nat → List Nat} {i : Nat} (hi : i < K.length) : (K.map (fun e => (e.1, C e.2))).getD i (0, []) = ((K.getD i (0, 0)).1, C (K.getD i (0, 0)).2) := by
  simp only [List.getD, List.getElem?_map, List.getElem?_eq_getElem hi, Option.map_some, Option.getD_some]
theorem rws_nd : ∀ (K : List (Nat × Nat)) {rm : Nat} {C : Nat → List Nat} {h : eH}, rws rm K C h → (K.map (·.2)).Nodup
  | [], _, _, _, _ => List.nodup_nil
  | e :: K, rm, C, h, k => by
    have k0 : star (row e.2 rm (C e.2)) (stars (K.map (fun e => row e.2 rm (C e.2)))) h := k
    obtain ⟨h1, h2, hu, hj, p, q⟩ := k0
    rw [List.map_cons, List.nodup_cons]
    refine ⟨?_, rws_nd K q⟩
    intro hm
    obtain ⟨e2, he2, e3⟩ := List.mem_map.mp hm
    obtain ⟨i, hi, hi2⟩ := List.getElem_of_mem he2
    obtain ⟨h3, p3, p4⟩ := stars_part _ i (P := row e2.2 rm (C e2.2)) q (by rw [List.getElem?_map, List.getElem?_eq_getElem hi, hi2]; rfl)
    have : row e.2 rm (C e2.2) h3 := by rw [← e3]; exact p3
    obtain ⟨c, ⟨f, p5, -⟩, -⟩ := p
    obtain ⟨c6, ⟨f6, p6, -⟩, -⟩ := this
    rcases hj e.2 with z | z
    · rw [p5] at z; cases z
    · rw [p4 _ _ p6] at z; cases z
theorem mp_up : ∀ (K : List (Nat × Nat)) {C : Nat → List Nat} {i : Nat} {r : List Nat}, (K.map (·.2)).Nodup → i < K.length → K.map (fun e => (e.1, upC C (K.getD i (0, 0)).2 r e.2)) = (K.map (fun e => (e.1, C e.2))).set i ((K.getD i (0, 0)).1, r) := by
  intro K C i r hn hi
  have e0 : K.getD i (0, 0) = K[i] := by simp [List.getD, hi]
  rw [e0]
  apply List.ext_getElem
  · simp
  · intro j h1 h2
    rw [List.length_map] at h1
    rw [List.getElem_set]
    simp only [List.getElem_map]
    by_cases e : i = j
    · subst e
      rw [if_pos rfl, upC, if_pos rfl]
    · rw [if_neg e, upC, if_neg]
      intro z
      apply e
      have := (List.getElem_inj (h₀ := by simpa using hi) (h₁ := by simpa using h1) hn (i := i) (j := j)).mp (by simpa using z.symm)
      exact this
/-- what a find came to -/
theorem shf_r {s cap rm : Nat} {M : List (Nat × List Nat)} {K : List (Nat × Nat)} {C : Nat → List Nat} {L : List sA} {h : eH} (x : Int32) (hM : K.map (fun e => (e.1, C e.2)) = M) (k : stars (shB s cap rm K :: rws rm K C :: L) h) : (ixM M x = none ∧ lkS K x = none ∧ stars (shf s cap rm M :: L) h) ∨ ∃ (i a : Nat) (R : sA), ixM M x = some i ∧ i < M.length ∧ lkS K x = some a ∧ stars (row a rm (rwM M i) :: R :: L) h ∧ ∀ (r' : List Nat) (L' : List sA) (h' : eH), stars (row a rm r' :: R :: L') h' → stars (shf s cap rm (stM M i r') :: L') h' := by
  have hnd : (K.map (·.2)).Nodup := by
    obtain ⟨h3, p3, -⟩ := stars_part _ 1 (P := rws rm K C) k rfl
    exact rws_nd K p3
  rcases lk_ix C x K with ⟨h1, h2⟩ | ⟨i, h1, h2, h3⟩
  · exact Or.inl ⟨by rw [← hM]; exact h1, h2, shf_c hM k⟩
  · right
    obtain ⟨R, g1, g2⟩ := rws_get K (lkS_mem h3) (stars_ixn (L' := rws rm K C :: shB s cap rm K :: L) k _ rfl (1 :: 0 :: (List.range L.length).map (· + 2)) (by
      rw [List.isPerm_iff]
      have : (1 :: 0 :: (List.range L.length).map (· + 2)).Perm (0 :: 1 :: (List.range L.length).map (· + 2)) := List.Perm.swap _ _ _
      refine this.trans ?_
      rw [show (shB s cap rm K :: rws rm K C :: L).length = L.length + 1 + 1 from rfl, List.range_succ_eq_map, List.range_succ_eq_map, List.map_cons, List.map_map]
      exact List.Perm.refl _) (by
      simp only [List.filterMap_cons, List.filterMap_map, List.getElem?_cons_zero, List.getElem?_cons_succ, Function.comp_def]
      exact congrArg (fun z => _ :: _ :: z) (fm_range L)))
    refine ⟨i, (K.getD i (0, 0)).2, (fun h => stars [shB s cap rm K, R] h), by rw [← hM]; exact h1, by rw [← hM, List.length_map]; exact h2, h3, ?_, ?_⟩
    · have e : rwM M i = C (K.getD i (0, 0)).2 := by rw [← hM]; exact congrArg Prod.snd (mp_at h2)
      rw [e]
      have g3 : star (row (K.getD i (0, 0)).2 rm (C (K.getD i (0, 0)).2)) (stars (R :: shB s cap rm K :: L)) h := g1
      refine star_mono g3 (fun _ z => z) (fun h9 z => ?_)
      exact stars_close (K := [_, _]) (stars_perm (List.Perm.swap _ _ _) z) (fun _ z => z)
    · intro r' L' h' k'
      have k1 : star (row (K.getD i (0, 0)).2 rm r') (stars ((fun h => stars [shB s cap rm K, R] h) :: L')) h' := k'
      have k2 : stars (row (K.getD i (0, 0)).2 rm r' :: R :: shB s cap rm K :: L') h' := star_mono k1 (fun _ z => z) (fun h9 z => stars_perm (List.Perm.swap _ _ _) (stars_open (K := [shB s cap rm K, R]) z (fun _ y => y)))
      have k3 := stars_perm (List.Perm.swap _ _ _) (g2 r' _ h' k2)
      refine shf_c (K := K) (C := upC C (K.getD i (0, 0)).2 r') ?_ k3
      rw [mp_up K hnd h2, hM]
      show _ = M.set i (keM M i, r')
      rw [show keM M i = (K.getD i (0, 0)).1 by rw [← hM]; exact congrArg Prod.fst (mp_at h2)]
/-- nothing is changed by putting back what was there -/
theorem stM_self {M : List (Nat × List Nat)} {i : Nat} (hi : i < M.length) : stM M i (rwM M i) = M := by
  have e0 : M.getD i (0, []) = M[i] := by simp [List.getD, hi]
  show M.set i ((M.getD i (0, [])).1, (M.getD i (0, [])).2) = M
  rw [e0]
  exact List.set_getElem_self hi
theorem shf_le (L : List sA) (i : Nat) {s cap rm : Nat} {M : List (Nat × List Nat)} {h : eH} (k : stars L h) (hi : L[i]? = some (shf s cap rm M)) : M.length ≤ cap ∧ (∀ e ∈ M, e.1 < 65536) := by
  obtain ⟨h1, ⟨K, C, p, q⟩, -⟩ := stars_part L i k hi
  obtain ⟨_, _, _, _, p1, -, -, p4, -⟩ := shB_o q
  subst p
  refine ⟨by rw [List.length_map]; exact p1, fun e he => ?_⟩
  obtain ⟨e2, he2, rfl⟩ := List.mem_map.mp he
  exact p4 e2 he2
theorem mp_keys {K : List (Nat × Nat)} {C : Nat → List Nat} {M : List (Nat × List Nat)} (h : K.map (fun e => (e.1, C e.2)) = M) : K.map (·.1) = M.map (·.1) := by
  rw [← h, List.map_map]
  rfl
/-- adding where there is room -/
theorem k_add1 {a cap : Nat} {r : List Nat} {v : Nat} (h : r.length < cap) : CA mX4_add [.ref a, .int (nI v)] [row a cap r] (fun x L => x = none ∧ L = [row a cap (r ++ [v])]) 0 0 0 0 := by
  have k := k_X4_add (a := a) (cap := cap) (r := r) (v := v)
  rw [if_pos h] at k
  exact k
/-- two bytes -/
def w2 (v : Nat) : List Nat := [v / 2 ^ 8 % 2 ^ 8, v % 2 ^ 8]
theorem w2_len {v : Nat} : (w2 v).length = 2 := rfl
theorem k_add2 {a cap : Nat} {r : List Nat} {v : Nat} (hv : v < 65536) (h : r.length + 1 < cap) : CA mX4_addWord [.ref a, .int (nI v)] [row a cap r] (fun x L => x = none ∧ L = [row a cap (r ++ w2 v)]) 0 0 0 0 := by
  have k := k_X4_addWord (a := a) (cap := cap) (r := r) hv
  rw [if_pos h] at k
  exact k
theorem k_addP {a cap a2 cap2 : Nat} {r r2 : List Nat} {s m : Nat} (hs : s < 100000) (hm : m < 100000) (h : r.length + m ≤ cap) : CA mX4_addPart [.ref a, .ref a2, .int (nI s), .int (nI m)] [row a cap r, row a2 cap2 r2] (fun x L => x = none ∧ L = [row a cap (r ++ pf r2 s m), row a2 cap2 r2]) 0 0 0 0 := by
  have k := k_X4_addPart (a := a) (cap := cap) (a2 := a2) (cap2 := cap2) (r := r) (r2 := r2) hs hm
  rw [List.take_of_length_le (by rw [List.length_append, pf_len]; exact h)] at k
  exact k
