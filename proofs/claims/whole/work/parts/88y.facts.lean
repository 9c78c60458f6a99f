/-! small facts -/
theorem okE_pl {s : DS} (h : okE s) {k : Nat} (hk : k < 4) : (dL s k).length ≤ 400 ∧ dF s k + (dL s k).length ≤ 65536 := h.1 k hk
theorem okE_lm {s : DS} (h : okE s) {i : Nat} (hi : i < s.1 8) : dM s (i * 4) ≤ dM s (i * 4 + 1) ∧ dM s (i * 4 + 1) < 65536 ∧ dM s (i * 4 + 2) < 65536 ∧ dM s (i * 4 + 3) < 65536 := by
  have := h.2.2.2.2 i hi
  rw [Nat.mul_comm 4 i] at this
  exact this

theorem neg_nI {x : Int32} {n : Nat} (h : x < 0) (hn : n < 2 ^ 31) : x < nI n := Int32.lt_of_lt_of_le h (Int32.not_lt.mp (nI_pos hn))
theorem okE_sh {s : DS} (h : okE s) : shO 4 120 65536 (dS s 0) ∧ shO 4 40 65536 (dS s 1) ∧ shO 10 40 256 (dS s 2) := h.2.2.2.1
theorem shO_le {cap rm kb : Nat} {M : List (Nat × List Nat)} (h : shO cap rm kb M) : M.length ≤ cap := h.1
theorem okE_ln {s : DS} (h : okE s) : (dL s 4).length ≤ 48 ∧ (dL s 5).length ≤ 64 ∧ (dL s 6).length ≤ 256 ∧ (dL s 7).length ≤ 253 ∧ ((dL s 7).length = 0 → s.1 17 = 0) := h.2.2.1
section ER
variable {M : MD} {fr lo mc ms : Nat} {Q : Option Value → eH → Prop} {pc ce sl : Nat} {ls : List (Option Value)} {st : List Value} {h : eH}
theorem e_top {v v' : Int32} (hv : v = v') (k : EE M fr lo mc ms Q pc ls (.int v' :: st) h ce sl) : EE M fr lo mc ms Q pc ls (.int v :: st) h ce sl := by subst hv; exact k
theorem e_lc {ls' : List (Option Value)} (hv : ls = ls') (k : EE M fr lo mc ms Q pc ls' st h ce sl) : EE M fr lo mc ms Q pc ls st h ce sl := by subst hv; exact k
end ER
theorem keM_g {M : List (Nat × List Nat)} {i : Nat} (hi : i < M.length) : keM M i = (M[i]).1 := by simp [keM, List.getD, List.getElem?_eq_getElem hi]
theorem rwM_at {M : List (Nat × List Nat)} {i : Nat} (hi : i < M.length) : rwM M i = (M[i]).2 := by simp [rwM, List.getD, List.getElem?_eq_getElem hi]
theorem ixM_t {M : List (Nat × List Nat)} {x : Int32} {i : Nat} (hi : i < M.length) (he : nI (keM M i) = x) (hn : ∀ j, j < i → nI (keM M j) ≠ x) : ixM M x = some i := by
  rw [ixM, List.findIdx?_eq_some_iff_getElem]
  refine ⟨hi, by rw [← keM_g hi, he]; exact beq_self_eq_true x, fun j hj => ?_⟩
  rw [← keM_g (by omega)]
  simp only [Bool.not_eq_true, beq_eq_false_iff_ne]
  exact hn j hj
theorem ixM_f {M : List (Nat × List Nat)} {x : Int32} (hn : ∀ j, j < M.length → nI (keM M j) ≠ x) : ixM M x = none := by
  rw [ixM, List.findIdx?_eq_none_iff]
  intro e he
  obtain ⟨j, hj, hj2⟩ := List.getElem_of_mem he
  have := hn j hj
  rw [keM_g hj, hj2] at this
  simpa using this
theorem shO_at {cap rm kb : Nat} {M : List (Nat × List Nat)} (h : shO cap rm kb M) (hkb : 0 < kb) (i : Nat) : keM M i < kb ∧ (rwM M i).length ≤ rm := by
  by_cases hi : i < M.length
  · rw [keM_g hi, rwM_at hi]
    exact h.2.1 _ (List.getElem_mem hi)
  · simp [keM, rwM, List.getD, List.getElem?_eq_none (Nat.le_of_not_lt hi), hkb]
theorem insT_len (e : Nat × List Nat) : ∀ l : List (Nat × List Nat), (insT e l).length = l.length + 1
  | [] => rfl
  | x :: l => by
    rw [insT]
    split
    · rfl
    · rw [List.length_cons, insT_len e l, List.length_cons]
theorem insT_perm (e : Nat × List Nat) : ∀ l : List (Nat × List Nat), (insT e l).Perm (e :: l)
  | [] => List.Perm.refl _
  | x :: l => by
    rw [insT]
    split
    · exact List.Perm.refl _
    · exact ((insT_perm e l).cons x).trans (List.Perm.swap e x l)
theorem sortT_app (M : List (Nat × List Nat)) (e : Nat × List Nat) : sortT (M ++ [e]) = insT e (sortT M) := by simp [sortT]
theorem fold_perm : ∀ (M a : List (Nat × List Nat)), (M.foldl (fun a e => insT e a) a).Perm (M ++ a)
  | [], a => List.Perm.refl _
  | e :: M, a => (fold_perm M (insT e a)).trans (((insT_perm e a).append_left M).trans List.perm_middle)
theorem sortT_perm (M : List (Nat × List Nat)) : (sortT M).Perm M := by
  have := fold_perm M []
  rwa [List.append_nil] at this
theorem sortT_len {M : List (Nat × List Nat)} : (sortT M).length = M.length := (sortT_perm M).length_eq
theorem shO_sort {cap rm kb : Nat} {M : List (Nat × List Nat)} (h : shO cap rm kb M) : shO cap rm kb (sortT M) :=
  ⟨by rw [sortT_len]; exact h.1, fun e he => h.2.1 e ((sortT_perm M).mem_iff.mp he), ((sortT_perm M).map (·.1)).nodup_iff.mpr h.2.2⟩
def plZ (s : DS) (k a m : Nat) : Bool := decide (m = 0 ∨ (dF s k ≤ a ∧ a + m ≤ dF s k + (dL s k).length))
theorem plZ_plI {s : DS} {k a m : Nat} (ha : a < 2 ^ 31) (hm : 0 < m) : plZ s k a m = plI (dF s k) (dL s k).length (nI a) m := by
  unfold plZ plI
  have h1 := nI_pos ha
  rw [nI_clamp ha]
  simp only [h1, hm, not_false_eq_true, true_and]
  apply decide_eq_decide.mpr
  omega
