/-! okX: the end of a tick where somebody sends -/
theorem ad2V_6 {u : Nat → Nat} {fr : List Nat} : ad2V u fr 6 = u 6 := by
  unfold ad2V
  split
  · rfl
  · split
    · rw [fnB_k (by decide)]; rfl
    · rfl
theorem adw {u : Nat → Nat} {fr : List Nat} (h3 : u 3 < fr.length) : ad2V u fr 1 = 0 ∨ ad2V u fr 1 = u 1 ∧ ad2V u fr 3 < fr.length := by
  unfold ad2V
  split
  · exact Or.inr ⟨rfl, h3⟩
  · split
    · unfold fnB
      split
      · exact Or.inl rfl
      · rename_i z
        have z2 : ¬ fr.length ≤ u 3 + 1 := z
        exact Or.inr ⟨rfl, show u 3 + 1 < fr.length by omega⟩
    · exact Or.inr ⟨rfl, h3⟩
theorem x_B {tp an fr : List Nat} {D : List DS} {wv u : Nat → Nat} {hs HS : List (Nat × Nat)} {M : MS} {ck : Nat} (h : okX (tp, an, D, (fr, wv, hs), M, ck)) (hs9 : ∀ e ∈ M.2.2.2.1, ck < e.2.2.2.1) (h0 : ¬ wv 1 = 0) (eu : (if wv 5 = 0 then bgB wv hs else wv) = u) (eh : adL wv hs = HS) (h1 : u 1 = wv 1) (h3 : u 3 = wv 3) (h6 : u 6 ≤ 340) : okX (fnG (tp, an, D, (fr, wv, hs), M, ck)) := by
  rw [fn_B h0 eu eh h1]
  obtain ⟨s1, s2, -, s4⟩ := so_8 (u := u) (fr := fr) (M := M)
  have hu3 : u 3 < fr.length := by rw [h3]; exact h.2.2.2.1 h0
  have hw := adw (u := u) (fr := fr) hu3
  have hx : xM (soM u fr M) (if ad2R u = 0 then siM (wv 1) (soM u fr M) else soM u fr M) := by
    split
    · exact x_si
    · exact xM_r
  have e7 := (so_7 (u := u) (fr := fr) (M := M)).1 1 (by decide)
  have hq : (soM u fr M).1 1 ≠ 0 → 0 < (soM u fr M).2.1.length := fun z => by
    rw [s2]
    by_cases o : u 1 = 1
    · exact h.2.1 (by rw [h.2.2.1 (show wv 1 = 1 by omega)]; decide)
    · have e : soM u fr M = soM7 u fr M := if_neg (fun y => o y.1)
      rw [e, e7] at z
      exact h.2.1 z
  refine x_end h hs9 (hx.1.trans s4) (fun z => ?_) (fun z => ?_) (fun z => ?_) (by rw [ad2V_6]; exact h6)
  · obtain ⟨e1, e2⟩ := hx.2 z
    rw [e2]
    exact hq (by rw [e1]; exact z)
  · have z2 : ad2V u fr 1 = 1 := z
    rcases hw with y | y
    · omega
    · have hw1 : wv 1 = 1 := by omega
      have e : soM u fr M = soM7 u fr M := if_neg (fun c => by have := c.2; omega)
      rw [hw1, x_si1, e]
      have : (soM7 u fr M).1 1 = 1 := by rw [e7]; exact h.2.2.1 hw1
      split <;> exact this
  · rcases hw with y | y
    · exact absurd y z
    · exact y.2
theorem x_fnG {g : GS} (h : okX g) (hs9 : ∀ e ∈ g.2.2.2.2.1.2.2.2.1, g.2.2.2.2.2 < e.2.2.2.1) (hb : ∀ e ∈ g.2.2.2.1.2.2, e.1 < 2 ^ 30 ∧ e.2 ≤ 340) : okX (fnG g) := by
  obtain ⟨tp, an, D, ⟨fr, wv, hs⟩, M, ck⟩ := g
  by_cases h0 : wv 1 = 0
  · exact x_A h hs9 h0
  · by_cases h5 : wv 5 = 0
    · exact x_B h hs9 h0 (if_pos h5) ((if_neg h0).trans (if_pos h5)) rfl rfl (show tkX hs (wv 8) ≤ 340 from tkX_l34 hb _)
    · exact x_B h hs9 h0 (if_neg h5) ((if_neg h0).trans (if_neg h5)) rfl rfl h.2.2.2.2.2
