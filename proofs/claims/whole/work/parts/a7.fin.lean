/-! a tick's end, as one function -/
def fnG (g : GS) : GS := s0G (s9G (adR g.2.2.2.1.2.1 g.2.2.2.1.2.2) (g.2.2.2.1.2.1 1) (s8G (g.2.2.2.1.2.1 1) (s7G (adR g.2.2.2.1.2.1 g.2.2.2.1.2.2) (g.2.2.2.1.2.1 1) (s6G g))))
theorem stG_fn (g : GS) : stG g = fnG (s5G (s4G (s3G (s2G (s1G g))))) := rfl
section
variable {tp an fr : List Nat} {D : List DS} {wv : Nat → Nat} {hs : List (Nat × Nat)} {M : MS} {ck : Nat}
theorem fn_A (h0 : wv 1 = 0) : fnG (tp, an, D, (fr, wv, hs), M, ck) = (tp, an, sdD (wv 1) D, (fr, upN wv 2 (wv 2 + 1), hs), siM (wv 1) M, ck + 1) := by
  have e1 : adV wv fr hs = upN wv 2 (wv 2 + 1) := if_pos h0
  have e2 : adR wv hs = 0 := if_pos h0
  have e3 : adL wv hs = hs := if_pos h0
  have e6 : s6G (tp, an, D, (fr, wv, hs), M, ck) = (tp, an, D, (fr, upN wv 2 (wv 2 + 1), hs), M, ck) := by
    show (tp, an, D, (fr, adV wv fr hs, adL wv hs), M, ck) = _
    rw [e1, e3]
  show s0G (s9G (adR wv hs) (wv 1) (s8G (wv 1) (s7G (adR wv hs) (wv 1) (s6G (tp, an, D, (fr, wv, hs), M, ck))))) = _
  rw [e6, e2, s7G, if_neg (by decide), s8G, if_neg (fun z => absurd z.1 (by rw [h0]; decide)), s9G, if_pos rfl]
  rfl
theorem fn_B {u : Nat → Nat} {HS : List (Nat × Nat)} (h0 : ¬ wv 1 = 0) (eu : (if wv 5 = 0 then bgB wv hs else wv) = u) (eh : adL wv hs = HS) (h1 : u 1 = wv 1) : fnG (tp, an, D, (fr, wv, hs), M, ck) = (tp, an, (if ad2R u = 0 then sdD (wv 1) (soD u fr D.length D) else soD u fr D.length D), (fr, ad2V u fr, HS), (if ad2R u = 0 then siM (wv 1) (soM u fr M) else soM u fr M), ck + 1) := by
  have e1 : adV wv fr hs = ad2V u fr := (if_neg h0).trans (by rw [eu])
  have e2 : adR wv hs = ad2R u := (if_neg h0).trans (by rw [eu])
  have e6 : s6G (tp, an, D, (fr, wv, hs), M, ck) = (tp, an, D, (fr, ad2V u fr, HS), M, ck) := by
    show (tp, an, D, (fr, adV wv fr hs, adL wv hs), M, ck) = _
    rw [e1, eh]
  have e7 : s7G (ad2R u) (wv 1) (tp, an, D, (fr, ad2V u fr, HS), M, ck) = (tp, an, soD u fr D.length D, (fr, ad2V u fr, HS), soM7 u fr M, ck) := by
    unfold s7G soD soM7
    rw [h1]
    split <;> rfl
  have e8 : s8G (wv 1) (tp, an, soD u fr D.length D, (fr, ad2V u fr, HS), soM7 u fr M, ck) = (tp, an, soD u fr D.length D, (fr, ad2V u fr, HS), soM u fr M, ck) := by
    unfold s8G soM
    rw [h1]
    split <;> rfl
  show s0G (s9G (adR wv hs) (wv 1) (s8G (wv 1) (s7G (adR wv hs) (wv 1) (s6G (tp, an, D, (fr, wv, hs), M, ck))))) = _
  rw [e6, e2, e7, e8, s9G]
  split <;> rfl
end
/-! what the reference needs of a state beyond okV -/
def okX (g : GS) : Prop := (∀ e ∈ g.2.2.2.2.1.2.2.2.1, g.2.2.2.2.2 ≤ e.2.2.2.1) ∧ (g.2.2.2.2.1.1 1 ≠ 0 → 0 < g.2.2.2.2.1.2.1.length) ∧ (g.2.2.2.1.2.1 1 = 1 → g.2.2.2.2.1.1 1 = 1) ∧ (g.2.2.2.1.2.1 1 ≠ 0 → g.2.2.2.1.2.1 3 < g.2.2.2.1.1.length) ∧ g.2.2.2.1.1.length ≤ 260 ∧ g.2.2.2.1.2.1 6 ≤ 340
theorem x_s1 {g : GS} (h : okX g) : okX (s1G g) := by
  unfold s1G
  split
  · exact h
  · exact h
theorem x_s5 {g : GS} (h : okX g) : okX (s5G g) := h
