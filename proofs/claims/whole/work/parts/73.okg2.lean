/-! requests, scans, frames, bytes -/
theorem ok_ar {B B' : Nat → Nat} {M : MS} {ad : Nat} {p : List Nat} (h : okMS B M) (hB : ∀ k, B k ≤ B' k) (h5 : B 5 + 1 ≤ B' 5) (ha : ad < 248) (hp : ∀ x ∈ p, x < 256) (hl : 1 ≤ p.length ∧ p.length ≤ 253) : okMS B' (arS M ad p) := by
  have hm := okMS_m hB h
  unfold arS
  split
  · rename_i z
    obtain ⟨⟨h1, h2, h3, h4, h5', h9, h13, h14, h20⟩, hQ, hS, hC, he, l1, l2, l3, l4⟩ := hm
    have h9' := h.1.2.2.2.2.2.1
    refine ⟨⟨h1, h2, h3, h4, h5', Nat.le_trans (Nat.add_le_add_right h9' 1) h5, h13, h14, h20⟩, ?_, hS, hC, he, ?_, l2, l3, l4⟩
    · intro e he
      rcases List.mem_append.mp he with y | y
      · exact hQ e y
      · rw [List.mem_singleton.mp y]
        exact ⟨hp, hl, h9, ha, Nat.zero_le _⟩
    · show (M.2.1 ++ [_]).length ≤ 16
      rw [List.length_append, List.length_singleton]; omega
  · exact hm
theorem scA_mem {M : MS} {i : Nat} (hi : i < M.2.2.2.1.length) : scA M i ∈ M.2.2.2.1 := by
  simp only [List.getD, List.getElem?_eq_getElem hi, Option.getD_some]
  exact List.getElem_mem hi
theorem ok_sc1 {B B' : Nat → Nat} {M : MS} {c i : Nat} (h : okMS B M) (hB : ∀ k, B k ≤ B' k) (h5 : B 5 + 1 ≤ B' 5) (hi : i < M.2.2.2.1.length) (hc : c + 30000 ≤ B 9) : okMS B' (sc1S M c i) ∧ (sc1S M c i).2.2.2.1.length = M.2.2.2.1.length := by
  have hm := okMS_m hB h
  have hs := h.2.2.2.1 _ (scA_mem hi)
  unfold sc1S
  split
  · exact ⟨hm, rfl⟩
  · rename_i hdue
    have ht : (scA M i).2.2.2.1 + (scA M i).2.1 ≤ B' 9 := Nat.le_trans (by have := hs.2.2.1.2; omega) (Nat.le_trans hc (hB 9))
    obtain ⟨⟨h1, h2, h3, h4, h5', h9, h13, h14, h20⟩, hQ, hS, hC, he, l1, l2, l3, l4⟩ := hm
    have h9' := h.1.2.2.2.2.2.1
    split
    · rename_i z
      refine ⟨⟨⟨h1, h2, h3, h4, h5', Nat.le_trans (Nat.add_le_add_right h9' 1) h5, h13, h14, h20⟩, ?_, hS, ?_, he, ?_, l2, ?_, l4⟩, List.length_set⟩
      · intro e he
        rcases List.mem_append.mp he with y | y
        · exact hQ e y
        · rw [List.mem_singleton.mp y]
          exact ⟨hs.1, hs.2.1, h9, hs.2.2.2.1, Nat.zero_le _⟩
      · intro e he
        rcases List.mem_or_eq_of_mem_set he with y | y
        · exact hC e y
        · subst y
          exact ⟨hs.1, hs.2.1, hs.2.2.1, hs.2.2.2.1, ht, fun k hk => by cases hk; exact h9⟩
      · show (M.2.1 ++ [_]).length ≤ 16
        rw [List.length_append, List.length_singleton]
        have := z.1
        omega
      · show (M.2.2.2.1.set i _).length ≤ 8
        rw [List.length_set]; exact l3
    · refine ⟨⟨⟨h1, h2, h3, h4, h5', h9, h13, h14, h20⟩, hQ, hS, ?_, he, l1, l2, ?_, l4⟩, List.length_set⟩
      · intro e he
        rcases List.mem_or_eq_of_mem_set he with y | y
        · exact hC e y
        · subst y
          exact ⟨hs.1, hs.2.1, hs.2.2.1, hs.2.2.2.1, ht, fun k hk => Nat.le_trans (hs.2.2.2.2.2 k hk) (hB 5)⟩
      · show (M.2.2.2.1.set i _).length ≤ 8
        rw [List.length_set]; exact l3
abbrev bN (B : Nat → Nat) (k c : Nat) : Nat → Nat := upN B k (B k + c)
theorem bN_le {B : Nat → Nat} {k c : Nat} : ∀ j, B j ≤ bN B k c j := fun j => by
  unfold bN upN
  split
  · rename_i z; subst z; omega
  · exact Nat.le_refl _
theorem ok_sc {B : Nat → Nat} {M : MS} {c : Nat} (h : okMS B M) (hc : c + 30000 ≤ B 9) : ∀ i, i ≤ M.2.2.2.1.length → okMS (bN B 5 i) (scS c i M) ∧ (scS c i M).2.2.2.1.length = M.2.2.2.1.length
  | 0, _ => ⟨okMS_m bN_le h, rfl⟩
  | i + 1, hi => by
    obtain ⟨a, b⟩ := ok_sc h hc i (by omega)
    rw [scS]
    have := ok_sc1 (B := bN B 5 i) (B' := bN B 5 (i + 1)) (c := c) (i := i) a (fun k => by unfold bN upN; split <;> rename_i z <;> first | (subst z; omega) | exact Nat.le_refl _) (Nat.le_refl _) (by omega) hc
    exact ⟨this.1, this.2.trans b⟩
theorem crs_bytes {l : List Nat} (h : ∀ x ∈ l, x < 256) : crs l < 65536 := crs_lt (fun x hx => Nat.lt_trans (h x hx) (by decide))
theorem mkF_lt {ad : Nat} {p : List Nat} (ha : ad < 256) (hp : ∀ x ∈ p, x < 256) : ∀ x ∈ mkF ad p, x < 256 := by
  have h1 : ∀ x ∈ ad :: p, x < 256 := by
    intro x hx
    rcases List.mem_cons.mp hx with z | z
    · rw [z]; exact ha
    · exact hp x z
  have h2 := crs_bytes h1
  intro x hx
  unfold mkF at hx
  rcases List.mem_append.mp hx with z | z
  · rcases List.mem_append.mp z with y | y
    · exact h1 x y
    · rw [List.mem_singleton.mp y]; exact Nat.mod_lt _ (by decide)
  · rw [List.mem_singleton.mp z]
    omega
theorem ok_stW {B B' : Nat → Nat} {W : List Nat × (Nat → Nat) × List (Nat × Nat)} {wh ad : Nat} {p : List Nat} (h : okW B W) (hB : ∀ k, B k ≤ B' k) (h4 : B 4 + 1 ≤ B' 4) (hw : wh < 8) (ha : ad < 256) (hp : ∀ x ∈ p, x < 256) : okW B' (stW W wh ad p) := by
  have hm := okW_m hB h
  obtain ⟨h0, ⟨h1, h2, h3, h4', h5, h6, h7, h8, h9, h10⟩, hh, hl⟩ := hm
  exact ⟨mkF_lt ha hp, ⟨hw, h2, Nat.zero_le _, (by decide : 0 < 1000), Nat.zero_le _, h6, h7, h8, h9, Nat.le_trans (Nat.add_le_add_right h.2.1.2.2.2.2.2.2.2.2.2 1) h4⟩, hh, hl⟩
theorem tkX_le {hs : List (Nat × Nat)} {k : Nat} {b : Nat} (h : ∀ e ∈ hs, e.1 ≤ b ∧ e.2 ≤ 340) : tkX hs k ≤ 340 := by
  unfold tkX
  split
  · exact Nat.zero_le _
  · rename_i i hi
    have hl := ixH_lt hi
    simp only [List.getD, List.getElem?_eq_getElem hl, Option.getD_some]
    exact (h _ (List.getElem_mem hl)).2
theorem tkL_ok {hs : List (Nat × Nat)} {k : Nat} {P : Nat × Nat → Prop} (h : ∀ e ∈ hs, P e) : ∀ e ∈ tkL hs k, P e := by
  intro e he
  unfold tkL at he
  split at he
  · exact h e he
  · rename_i i hi
    have hl := ixH_lt hi
    rcases List.mem_or_eq_of_mem_set (List.mem_of_mem_take he) with z | z
    · exact h e z
    · subst z
      simp only [List.getD, List.getElem?_eq_getElem (show hs.length - 1 < hs.length by omega), Option.getD_some]
      exact h _ (List.getElem_mem _)
theorem tkL_len {hs : List (Nat × Nat)} {k : Nat} : (tkL hs k).length ≤ hs.length := by
  unfold tkL
  split
  · exact Nat.le_refl _
  · rw [List.length_take, List.length_set]; omega
theorem xor_lt {a b : Nat} (ha : a < 256) (hb : b < 256) : a ^^^ b < 256 := Nat.xor_lt_two_pow (n := 8) ha hb
theorem ok_ad {B B' : Nat → Nat} {W : List Nat × (Nat → Nat) × List (Nat × Nat)} (h : okW B W) (hB : ∀ k, B k ≤ B' k) (h0 : B 0 + 1 ≤ B' 0) (h6 : B 6 + 1 ≤ B' 6) : okW B' (W.1, adV W.2.1 W.1 W.2.2, adL W.2.1 W.2.2) := by
  obtain ⟨fr, wv, hs⟩ := W
  have hm := okW_m hB h
  obtain ⟨b0, ⟨b1, b2, b3, b4, b5, b6, b7, b8, b9, b10⟩, bh, bl⟩ := h
  obtain ⟨m0, ⟨m1, m2, m3, m4, m5, m6, m7, m8, m9, m10⟩, mh, ml⟩ := hm
  simp only at b0 b1 b2 b3 b4 b5 b6 b7 b8 b9 b10 bh bl m0 m1 m2 m3 m4 m5 m6 m7 m8 m9 m10 mh ml
  have hx := tkX_le (k := wv 8) (b := B 6 + 2000) bh
  refine ⟨m0, ?_, ?_, ?_⟩
  · simp only [adV]
    split
    · exact ⟨m1, Nat.le_trans (Nat.add_le_add_right b2 1) h0, m3, m4, m5, m6, m7, m8, m9, m10⟩
    · -- the byte that begins, or goes on
      generalize hu : (if wv 5 = 0 then bgB wv hs else wv) = u
      have hu9 : u 1 < 8 ∧ u 2 ≤ B 0 ∧ u 3 ≤ B 6 ∧ u 4 < 1000 ∧ (u 5 ≤ 4 ∧ 1 ≤ u 5) ∧ u 6 < 1000 ∧ u 7 < 256 ∧ u 8 ≤ B' 6 ∧ u 9 ≤ B 6 ∧ u 10 ≤ B' 4 := by
        rw [← hu]
        split
        · refine ⟨b1, b2, b3, ?_, ⟨(by decide : 4 ≤ 4), (by decide : 1 ≤ 4)⟩, ?_, b7, ?_, b9, m10⟩
          · show tkX hs (wv 8) - 256 < 1000
            omega
          · show tkX hs (wv 8) < 1000
            omega
          · show wv 8 + 1 ≤ B' 6
            omega
        · rename_i z
          exact ⟨b1, b2, b3, b4, ⟨b5, by omega⟩, b6, b7, m8, b9, m10⟩
      obtain ⟨u1, u2, u3, u4, u5, u6, u7, u8, u9, u10⟩ := hu9
      have hg : fr.getD (u 3) 0 < 256 := gd_lt b0 (by decide)
      have hheard : (if u 6 < 256 then fr.getD (u 3) 0 ^^^ u 6 else fr.getD (u 3) 0) < 256 := by
        split
        · rename_i z; exact xor_lt hg z
        · exact hg
      simp only [ad2V]
      split
      · exact ⟨u1, Nat.le_trans u2 (hB 0), Nat.le_trans u3 (hB 6), (show u 4 - 1 < 1000 by omega), u5.1, u6, u7, u8, Nat.le_trans u9 (hB 6), u10⟩
      · split
        · simp only [fnB]
          split
          · exact ⟨(by decide : 0 < 8), Nat.zero_le _, (show u 3 + 1 ≤ B' 6 by omega), u4, (show u 5 - 1 ≤ 4 by omega), u6, hheard, u8, (show u 9 + 1 ≤ B' 6 by omega), u10⟩
          · exact ⟨u1, Nat.le_trans u2 (hB 0), (show u 3 + 1 ≤ B' 6 by omega), u4, (show u 5 - 1 ≤ 4 by omega), u6, hheard, u8, (show u 9 + 1 ≤ B' 6 by omega), u10⟩
        · exact ⟨u1, Nat.le_trans u2 (hB 0), Nat.le_trans u3 (hB 6), u4, (show u 5 - 1 ≤ 4 by omega), u6, u7, u8, Nat.le_trans u9 (hB 6), u10⟩
  · simp only [adL]
    split
    · exact mh
    · split
      · exact tkL_ok mh
      · exact mh
  · simp only [adL]
    split
    · exact ml
    · split
      · exact Nat.le_trans tkL_len ml
      · exact ml
