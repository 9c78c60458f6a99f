/-! texts: the reference keeps them sorted by their keys; the class looks for the least key -/
theorem lsK_fold {a b : Nat} : ∀ (l : List Nat) (m : Option Nat), (l.foldl (lsK a b) m = none → m = none ∧ ∀ y ∈ l, ¬ (a ≤ y ∧ y ≤ b)) ∧ ∀ z, l.foldl (lsK a b) m = some z → (m = some z ∨ (z ∈ l ∧ a ≤ z ∧ z ≤ b)) ∧ (∀ y, m = some y → z ≤ y) ∧ ∀ y ∈ l, a ≤ y → y ≤ b → z ≤ y
  | [], m => ⟨fun h => ⟨h, fun y hy => by cases hy⟩, fun z hz => ⟨Or.inl hz, fun y hy => by rw [show m = some z from hz] at hy; cases hy; exact Nat.le_refl _, fun y hy => by cases hy⟩⟩
  | x :: l, m => by
    have ih := lsK_fold (a := a) (b := b) l (lsK a b m x)
    rw [List.foldl_cons]
    refine ⟨fun h => ?_, fun z hz => ?_⟩
    · obtain ⟨h1, h2⟩ := ih.1 h
      unfold lsK at h1
      split at h1
      · cases m <;> simp at h1
        split at h1 <;> cases h1
      · rename_i hx
        refine ⟨h1, fun y hy => ?_⟩
        rcases List.mem_cons.mp hy with e | e
        · rw [e]; exact hx
        · exact h2 y e
    · obtain ⟨h1, h2, h3⟩ := ih.2 z hz
      by_cases hx : a ≤ x ∧ x ≤ b
      · cases m with
        | none =>
          rw [lsK, if_pos hx] at h1 h2
          refine ⟨?_, fun y hy => (by cases hy), fun y hy ha hb => ?_⟩
          · rcases h1 with e | e
            · cases e; exact Or.inr ⟨List.mem_cons_self, hx⟩
            · exact Or.inr ⟨List.mem_cons_of_mem _ e.1, e.2⟩
          · rcases List.mem_cons.mp hy with e | e
            · rw [e]; exact h2 x rfl
            · exact h3 y e ha hb
        | some w =>
          rw [lsK, if_pos hx] at h1 h2
          by_cases hw : x < w
          · simp only [if_pos hw] at h1 h2
            have hzx := h2 x rfl
            refine ⟨?_, fun y hy => by cases hy; omega, fun y hy ha hb => ?_⟩
            · rcases h1 with e | e
              · cases e; exact Or.inr ⟨List.mem_cons_self, hx⟩
              · exact Or.inr ⟨List.mem_cons_of_mem _ e.1, e.2⟩
            · rcases List.mem_cons.mp hy with e | e
              · rw [e]; exact hzx
              · exact h3 y e ha hb
          · simp only [if_neg hw] at h1 h2
            have hzw := h2 w rfl
            refine ⟨?_, fun y hy => by cases hy; exact hzw, fun y hy ha hb => ?_⟩
            · rcases h1 with e | e
              · exact Or.inl e
              · exact Or.inr ⟨List.mem_cons_of_mem _ e.1, e.2⟩
            · rcases List.mem_cons.mp hy with e | e
              · rw [e]; omega
              · exact h3 y e ha hb
      · have e0 : lsK a b m x = m := by unfold lsK; exact if_neg hx
        rw [e0] at h1 h2
        refine ⟨?_, h2, fun y hy ha hb => ?_⟩
        · rcases h1 with e | e
          · exact Or.inl e
          · exact Or.inr ⟨List.mem_cons_of_mem _ e.1, e.2⟩
        · rcases List.mem_cons.mp hy with e | e
          · rw [e] at ha hb; exact absurd ⟨ha, hb⟩ hx
          · exact h3 y e ha hb
theorem lsT_some {T : List (Nat × List Nat)} {a b z : Nat} (hz : z ∈ kys T) (h1 : a ≤ z) (h2 : z ≤ b) (hm : ∀ y ∈ kys T, a ≤ y → y ≤ b → z ≤ y) : lsT T a b = some z := by
  have h := lsK_fold (a := a) (b := b) (kys T) none
  cases hr : lsT T a b with
  | none => exact absurd ⟨h1, h2⟩ ((h.1 hr).2 z hz)
  | some y =>
    obtain ⟨p1, -, p3⟩ := h.2 y hr
    rcases p1 with e | e
    · cases e
    · have q1 := p3 z hz h1 h2
      have q2 := hm y e.1 e.2.1 e.2.2
      rw [show y = z by omega]
theorem lsT_none {T : List (Nat × List Nat)} {a b : Nat} (hm : ∀ y ∈ kys T, ¬ (a ≤ y ∧ y ≤ b)) : lsT T a b = none := by
  have h := lsK_fold (a := a) (b := b) (kys T) none
  cases hr : lsT T a b with
  | none => rfl
  | some y =>
    obtain ⟨p1, -, -⟩ := h.2 y hr
    rcases p1 with e | e
    · cases e
    · exact absurd e.2 (hm y e.1)
theorem insT_srt {e : Nat × List Nat} : ∀ {l : List (Nat × List Nat)}, (kys l).Pairwise (· < ·) → e.1 ∉ kys l → (kys (insT e l)).Pairwise (· < ·)
  | [], _, _ => by simp [insT, kys]
  | x :: l, h, hn => by
    rw [insT]
    simp only [kys, List.map_cons, List.pairwise_cons, List.mem_cons, not_or] at h hn
    split
    · rename_i z
      simp only [kys, List.map_cons, List.pairwise_cons]
      refine ⟨fun y hy => ?_, h⟩
      rcases List.mem_cons.mp hy with e9 | e9
      · rw [e9]; exact z
      · exact Nat.lt_trans z (h.1 y e9)
    · rename_i z
      have ih := insT_srt (e := e) (l := l) h.2 hn.2
      simp only [kys, List.map_cons, List.pairwise_cons]
      refine ⟨fun y hy => ?_, ih⟩
      have := ((insT_perm e l).map (·.1)).mem_iff.mp hy
      rw [List.map_cons] at this
      rcases List.mem_cons.mp this with e9 | e9
      · have := hn.1; omega
      · exact h.1 y e9
theorem fold_srt : ∀ (M a : List (Nat × List Nat)), (kys a).Pairwise (· < ·) → ((M ++ a).map (·.1)).Nodup → (kys (M.foldl (fun a e => insT e a) a)).Pairwise (· < ·)
  | [], a, h, _ => h
  | e :: M, a, h, hn => by
    have hp : (M ++ insT e a).Perm (e :: M ++ a) := ((insT_perm e a).append_left M).trans List.perm_middle
    refine fold_srt M (insT e a) (insT_srt h ?_) ((hp.map (·.1)).nodup_iff.mpr hn)
    intro z
    rw [List.cons_append, List.map_cons, List.nodup_cons] at hn
    exact hn.1 (by rw [List.map_append]; exact List.mem_append_right _ z)
theorem sort_srt {M : List (Nat × List Nat)} (h : (M.map (·.1)).Nodup) : (kys (sortT M)).Pairwise (· < ·) := fold_srt M [] List.Pairwise.nil (by rw [List.append_nil]; exact h)
theorem srt_lt {M : List (Nat × List Nat)} (h : (kys M).Pairwise (· < ·)) {i j : Nat} (hij : i < j) (hj : j < M.length) : keM M i < keM M j := by
  have := List.pairwise_iff_getElem.mp h i j (by rw [kys_len]; omega) (by rw [kys_len]; exact hj) hij
  rw [keM_g (by omega), keM_g hj]
  simpa [kys] using this
theorem kys_mem {M : List (Nat × List Nat)} {y : Nat} : y ∈ kys M ↔ ∃ i, i < M.length ∧ keM M i = y := by
  constructor
  · intro h
    obtain ⟨i, hi, e⟩ := List.getElem_of_mem h
    rw [kys_len] at hi
    refine ⟨i, hi, ?_⟩
    rw [keM_g hi, ← e]
    simp [kys]
  · rintro ⟨i, hi, e⟩
    rw [keM_g hi] at e
    rw [← e]
    exact List.mem_map.mpr ⟨M[i], List.getElem_mem hi, rfl⟩
/-- the key at k, if it is told -/
def nxT (U : List (Nat × List Nat)) (top k : Nat) : Option Nat := if k < U.length ∧ keM U k ≤ top then some (keM U k) else none
theorem ky_sort {T : List (Nat × List Nat)} {y : Nat} : y ∈ kys (sortT T) ↔ y ∈ kys T := ((sortT_perm T).map (·.1)).mem_iff
theorem nx_0 {T : List (Nat × List Nat)} {top : Nat} (hn : (T.map (·.1)).Nodup) : lsT T 0 top = nxT (sortT T) top 0 := by
  have hs := sort_srt hn
  unfold nxT
  by_cases h : 0 < (sortT T).length ∧ keM (sortT T) 0 ≤ top
  · rw [if_pos h]
    refine lsT_some (ky_sort.mp (kys_mem.mpr ⟨0, h.1, rfl⟩)) (Nat.zero_le _) h.2 (fun y hy _ _ => ?_)
    obtain ⟨j, hj, e⟩ := kys_mem.mp (ky_sort.mpr hy)
    rcases Nat.eq_zero_or_pos j with z | z
    · rw [← e, z]; exact Nat.le_refl _
    · rw [← e]; exact Nat.le_of_lt (srt_lt hs z hj)
  · rw [if_neg h]
    refine lsT_none (fun y hy ⟨_, hb⟩ => h ?_)
    obtain ⟨j, hj, e⟩ := kys_mem.mp (ky_sort.mpr hy)
    refine ⟨by omega, ?_⟩
    rcases Nat.eq_zero_or_pos j with z | z
    · rw [z] at e; omega
    · have := srt_lt hs z hj; omega
theorem nx_s {T : List (Nat × List Nat)} {top k : Nat} (hn : (T.map (·.1)).Nodup) (hk : k < (sortT T).length) : lsT T (keM (sortT T) k + 1) top = nxT (sortT T) top (k + 1) := by
  have hs := sort_srt hn
  unfold nxT
  by_cases h : k + 1 < (sortT T).length ∧ keM (sortT T) (k + 1) ≤ top
  · rw [if_pos h]
    refine lsT_some (ky_sort.mp (kys_mem.mpr ⟨k + 1, h.1, rfl⟩)) (srt_lt hs (Nat.lt_succ_self k) h.1) h.2 (fun y hy ha _ => ?_)
    obtain ⟨j, hj, e⟩ := kys_mem.mp (ky_sort.mpr hy)
    rcases Nat.lt_trichotomy j (k + 1) with z | z | z
    · rcases Nat.lt_or_eq_of_le (Nat.le_of_lt_succ z) with z2 | z2
      · have := srt_lt hs z2 hk; omega
      · rw [z2] at e; omega
    · rw [← e, z]; exact Nat.le_refl _
    · rw [← e]; exact Nat.le_of_lt (srt_lt hs z hj)
  · rw [if_neg h]
    refine lsT_none (fun y hy ⟨ha, hb⟩ => h ?_)
    obtain ⟨j, hj, e⟩ := kys_mem.mp (ky_sort.mpr hy)
    have hjk : k + 1 ≤ j := by
      rcases Nat.lt_or_ge j (k + 1) with z | z
      · rcases Nat.lt_or_eq_of_le (Nat.le_of_lt_succ z) with z2 | z2
        · have := srt_lt hs z2 hk; omega
        · rw [z2] at e; omega
      · exact z
    refine ⟨by omega, ?_⟩
    rcases Nat.lt_or_eq_of_le hjk with z | z
    · have := srt_lt hs z hj; omega
    · rw [← z] at e; omega
theorem key_inj : ∀ {M : List (Nat × List Nat)}, (M.map (·.1)).Nodup → ∀ {x y : Nat × List Nat}, x ∈ M → y ∈ M → x.1 = y.1 → x = y
  | [], _, x, y, hx, _, _ => by cases hx
  | z :: M, hn, x, y, hx, hy, e => by
    rw [List.map_cons, List.nodup_cons] at hn
    rcases List.mem_cons.mp hx with h1 | h1 <;> rcases List.mem_cons.mp hy with h2 | h2
    · rw [h1, h2]
    · exact absurd (List.mem_map.mpr ⟨y, h2, by rw [← e, h1]⟩) hn.1
    · exact absurd (List.mem_map.mpr ⟨x, h1, by rw [e, h2]⟩) hn.1
    · exact key_inj hn.2 h1 h2 e
/-- a key's row is the same in both -/
theorem ix_row {T : List (Nat × List Nat)} {k : Nat} (hn : (T.map (·.1)).Nodup) (hb : ∀ e ∈ T, e.1 < 65536) (hk : k < (sortT T).length) : ∃ i, ixM T (nI (keM (sortT T) k)) = some i ∧ rwM T i = rwM (sortT T) k := by
  have hm : (sortT T)[k] ∈ T := (sortT_perm T).mem_iff.mp (List.getElem_mem hk)
  cases hx : ixM T (nI (keM (sortT T) k)) with
  | none =>
    have := ix_none (hb _ hm) hb (k := (sortT T)[k].1) (by rw [← keM_g hk]; exact hx)
    exact absurd rfl (this _ hm)
  | some i =>
    refine ⟨i, rfl, ?_⟩
    have hi := ixM_lt hx
    rw [ixM, List.findIdx?_eq_some_iff_getElem] at hx
    have e1 : nI T[i].1 = nI (keM (sortT T) k) := by simpa using hx.2.1
    have e2 := j_eq_t (Nat.lt_trans (hb _ (List.getElem_mem hi)) (by decide)) (by rw [keM_g hk]; exact Nat.lt_trans (hb _ hm) (by decide)) e1
    rw [keM_g hk] at e2
    rw [rwM_at hi, rwM_at hk, key_inj hn (List.getElem_mem hi) hm e2]
theorem ix_sort {T : List (Nat × List Nat)} {x : Int32} {k : Nat} (h : ixM (sortT T) x = some k) : (ixM T x).isSome = true := by
  cases hx : ixM T x with
  | some i => rfl
  | none => rw [ixM_sort.mpr hx] at h; cases h
/-! the level of what is known -/
def lvK (k : Nat) : Nat := if 6 < k then 131 else if 2 < k then 130 else 129
def lvF (U : List (Nat × List Nat)) : Nat → Nat
  | 0 => 129
  | i + 1 => max (lvF U i) (lvK (keM U i))
theorem lvK_mono {a b : Nat} (h : a ≤ b) : lvK a ≤ lvK b := by
  unfold lvK
  (repeat' split) <;> omega
theorem lvF_ub {U : List (Nat × List Nat)} {g : Nat} (h : ∀ j, j < U.length → keM U j ≤ g) : ∀ i, i ≤ U.length → lvF U i ≤ lvK g
  | 0, _ => by show 129 ≤ lvK g; unfold lvK; (repeat' split) <;> omega
  | i + 1, hi => Nat.max_le.mpr ⟨lvF_ub h i (by omega), lvK_mono (h i (by omega))⟩
theorem lvF_lb {U : List (Nat × List Nat)} : ∀ {i j : Nat}, j < i → lvK (keM U j) ≤ lvF U i
  | 0, j, h => absurd h (by omega)
  | i + 1, j, h => by
    rcases Nat.lt_or_eq_of_le (Nat.le_of_lt_succ h) with z | z
    · exact Nat.le_trans (lvF_lb z) (Nat.le_max_left _ _)
    · rw [z]; exact Nat.le_max_right _ _
theorem gtK_fold : ∀ (l : List Nat) (m : Option Nat), (l.foldl gtK m = none → m = none ∧ l = []) ∧ ∀ z, l.foldl gtK m = some z → (m = some z ∨ z ∈ l) ∧ (∀ y, m = some y → y ≤ z) ∧ ∀ y ∈ l, y ≤ z
  | [], m => ⟨fun h => ⟨h, rfl⟩, fun z hz => ⟨Or.inl hz, fun y hy => by rw [show m = some z from hz] at hy; cases hy; exact Nat.le_refl _, fun y hy => by cases hy⟩⟩
  | x :: l, m => by
    have ih := gtK_fold l (gtK m x)
    rw [List.foldl_cons]
    have hx : ∃ w, gtK m x = some w ∧ (w = x ∨ m = some w) ∧ x ≤ w ∧ ∀ y, m = some y → y ≤ w := by
      cases m with
      | none => exact ⟨x, rfl, Or.inl rfl, Nat.le_refl _, fun y hy => by cases hy⟩
      | some v =>
        by_cases h : v < x
        · exact ⟨x, by simp only [gtK, if_pos h], Or.inl rfl, Nat.le_refl _, fun y hy => by cases hy; omega⟩
        · exact ⟨v, by simp only [gtK, if_neg h], Or.inr rfl, by omega, fun y hy => by cases hy; exact Nat.le_refl _⟩
    obtain ⟨w, e1, e2, e3, e4⟩ := hx
    refine ⟨fun h => ?_, fun z hz => ?_⟩
    · rw [e1] at ih; exact absurd (ih.1 (by rw [e1] at h; exact h)).1 (by simp)
    · obtain ⟨p1, p2, p3⟩ := ih.2 z hz
      have hw := p2 w e1
      refine ⟨?_, fun y hy => Nat.le_trans (e4 y hy) hw, fun y hy => ?_⟩
      · rcases p1 with q | q
        · rw [e1] at q; cases q
          rcases e2 with e | e
          · rw [e]; exact Or.inr List.mem_cons_self
          · exact Or.inl e
        · exact Or.inr (List.mem_cons_of_mem _ q)
      · rcases List.mem_cons.mp hy with e | e
        · rw [e]; omega
        · exact p3 y e
theorem lvF_G {T : List (Nat × List Nat)} : lvF (sortT T) (sortT T).length = ttG T := by
  have h := gtK_fold (kys T) none
  unfold ttG
  cases hr : gtT T with
  | none =>
    have h0 : T.length = 0 := by rw [← kys_len, (h.1 hr).2]; rfl
    rw [sortT_len, h0]; rfl
  | some g =>
    obtain ⟨p1, -, p3⟩ := h.2 g hr
    have hg : g ∈ kys T := p1.elim (fun e => by cases e) id
    obtain ⟨j, hj, e⟩ := kys_mem.mp (ky_sort.mpr hg)
    show lvF (sortT T) (sortT T).length = lvK g
    refine Nat.le_antisymm (lvF_ub (fun i hi => p3 _ (ky_sort.mp (kys_mem.mpr ⟨i, hi, rfl⟩))) _ (Nat.le_refl _)) ?_
    rw [← e]
    exact lvF_lb hj
theorem lvF_lt {U : List (Nat × List Nat)} : ∀ i, 129 ≤ lvF U i ∧ lvF U i ≤ 131
  | 0 => ⟨Nat.le_refl _, (by show 129 ≤ 131; decide)⟩
  | i + 1 => by
    have h1 := lvF_lt (U := U) i
    have h2 : lvK (keM U i) ≤ 131 := by unfold lvK; (repeat' split) <;> omega
    rw [lvF]
    omega
