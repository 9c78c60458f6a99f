/-! banks in sight -/
theorem rdv_cB {d : Nat} {s : DS} {X : List sA} {h : eH} {A : Nat → Nat} {bf : Nat → Nat} {L : Nat → List Nat} (e4 : L 4 = dL s 4) (e5 : L 5 = dL s 5) (e6 : L 6 = dL s 6) (e7 : L 7 = dL s 7) (k : stars (pt d (.inr (10, rdF A s)) :: grd (A 8) 4 400 (qd4 (L 0) (L 1) (L 2) (L 3)) :: iar (A 9) 4 (tbl 4 bf) :: iar (A 10) 4 [(L 0).length, (L 1).length, (L 2).length, (L 3).length] :: rRB A s :: X) h) : stars (rdv d (s.1, bf, s.2.2.1, s.2.2.2.1, L, s.2.2.2.2.2) :: X) h := by
  refine rdv_c (A := A) ?_
  have e0 : rdF A (s.1, bf, s.2.2.1, s.2.2.2.1, L, s.2.2.2.2.2) = rdF A s := by simp only [rdF, dL, e4, e5, e6, e7]
  rw [e0]
  refine foc_c 21 [1, 2, 3] [0, 4, 5, 6, 7, 8, 9, 10, 11, 12, 13, 14, 15, 16, 17, 18, 19, 20] (by decide) (F := rdA A (s.1, bf, s.2.2.1, s.2.2.2.1, L, s.2.2.2.2.2)) rfl (L := [grd (A 8) 4 400 (qd4 (L 0) (L 1) (L 2) (L 3)), iar (A 9) 4 (tbl 4 bf), iar (A 10) 4 [(L 0).length, (L 1).length, (L 2).length, (L 3).length]]) (R := [iar (A 0) 256 (L 6), iar (A 12) 8 (lmR s 0), iar (A 13) 8 (lmN s), iar (A 14) 8 (lmR s 2), iar (A 15) 8 (lmR s 3), iar (A 17) 4 (kys (dS s 0)), iar (A 18) 4 (szs (dS s 0)), grd (A 19) 4 120 (rwM (dS s 0)), iar (A 21) 4 (kys (dS s 1)), iar (A 22) 4 (szs (dS s 1)), grd (A 23) 4 40 (rwM (dS s 1)), iar (A 25) 10 (kys (sortT (dS s 2))), iar (A 26) 10 (szs (sortT (dS s 2))), grd (A 27) 10 40 (rwM (sortT (dS s 2))), iar (A 29) 48 (L 4), iar (A 30) 9 (tbl 9 (dC s)), iar (A 32) 64 ((L 5).reverse), iar (A 37) 260 (L 7)]) rfl rfl ?_
  rw [e4, e5, e6, e7]
  exact k
theorem upL_self {f : Nat → List Nat} {k : Nat} : upL f k (f k) = f := by
  funext j
  unfold upL
  split
  · rename_i e; rw [e]
  · rfl
theorem upL_s {f : Nat → List Nat} {k : Nat} {r : List Nat} : upL f k r k = r := if_pos rfl
theorem upL_n {f : Nat → List Nat} {k j : Nat} {r : List Nat} (h : j ≠ k) : upL f k r j = f j := if_neg h
/-- a row of a bank has changed, not its length -/
theorem rdv_cb {d : Nat} {s : DS} {X : List sA} {h : eH} {A : Nat → Nat} {i : Nat} {r : List Nat} (hi : i < 4) (hl : r.length = (dL s i).length) (k : stars (pt d (.inr (10, rdF A s)) :: grd (A 8) 4 400 (upL (qd4 (dL s 0) (dL s 1) (dL s 2) (dL s 3)) i r) :: iar (A 9) 4 (tbl 4 (dF s)) :: iar (A 10) 4 [(dL s 0).length, (dL s 1).length, (dL s 2).length, (dL s 3).length] :: rRB A s :: X) h) : stars (rdv d (s.1, s.2.1, s.2.2.1, s.2.2.2.1, upL s.2.2.2.2.1 i r, s.2.2.2.2.2) :: X) h := by
  refine rdv_cB (A := A) (upL_n (by omega)) (upL_n (by omega)) (upL_n (by omega)) (upL_n (by omega)) ?_
  have e : ∀ j, j < 4 → (upL (dL s) i r j).length = (dL s j).length := fun j hj => by
    by_cases z : j = i
    · rw [z, upL_s, hl]
    · rw [upL_n z]
  rw [e 0 (by decide), e 1 (by decide), e 2 (by decide), e 3 (by decide)]
  have k1 := stars_perm (List.Perm.swap _ _ _) k
  have k2 := grd_cg (C' := qd4 (upL (dL s) i r 0) (upL (dL s) i r 1) (upL (dL s) i r 2) (upL (dL s) i r 3)) (fun j hj => by
    rw [qd4_at (f := upL (dL s) i r) hj]
    by_cases z : j = i
    · rw [z, upL_s, upL_s]
    · rw [upL_n z, upL_n z, qd4_at (f := dL s) hj]) k1
  exact stars_perm (List.Perm.swap _ _ _) k2
/-! shelves -/
theorem kys_st {M : List (Nat × List Nat)} {i : Nat} {r : List Nat} : kys (stM M i r) = kys M := by
  refine List.ext_getElem (by simp [kys, stM]) (fun j h1 h2 => ?_)
  simp only [kys, stM, List.getElem_map, List.getElem_set]
  split
  · rename_i e
    subst e
    rw [keM_g (by simpa [kys] using h2)]
  · rfl
theorem szs_st {M : List (Nat × List Nat)} {i : Nat} {r : List Nat} : szs (stM M i r) = (szs M).set i r.length := by simp [szs, stM, List.map_set]
theorem rwM_st {M : List (Nat × List Nat)} {i : Nat} {r : List Nat} (hi : i < M.length) : rwM (stM M i r) = upL (rwM M) i r := by
  funext j
  by_cases z : j = i
  · subst z
    rw [upL_s, rwM_at (by simpa [stM] using hi)]
    simp [stM]
  · rw [upL_n z]
    simp only [rwM, stM, List.getD, List.getElem?_set_ne (Ne.symm z)]
theorem stM_len {M : List (Nat × List Nat)} {i : Nat} {r : List Nat} : (stM M i r).length = M.length := by simp [stM]
