/-! okX is kept by a tick -/
theorem x_ck3 {g : GS} : (s3G g).2.2.2.2.2 = g.2.2.2.2.2 := by
  unfold s3G
  split
  · unfold bgG
    split
    · rfl
    · unfold bgD
      split <;> rfl
  · rfl
theorem x_st {t : Nat} {g : GS} (h : okX g) (hv : okV (bnd t) g) (ht : t < 2 ^ 26) : okX (stG g) := by
  rw [stG_fn]
  have v1 := ov_s1 hv
  have b9 : bnd t 10 + 30000 ≤ bnd t 9 := Nat.le_refl _
  have v2 := ov_s2 v1 b9
  have v3 := ov_s3 v2
  have v4 := ov_s4 v3
  have v5 := ov_s5 v4
  have ck : (s1G g).2.2.2.2.2 ≤ bnd t 10 := v1.1.2.2.2.2.1
  obtain ⟨x2, y2⟩ := x_s2 (x_s1 h) v1.1.2.2.2.1 (by omega)
  obtain ⟨x3, y3⟩ := x_s3 x2 v2.1.2.2.2.1 v2.2
  obtain ⟨x4, y4⟩ := x_s4 x3
  refine x_fnG (x_s5 x4) (fun e he => ?_) (fun e he => ?_)
  · have he2 : e ∈ (s2G (s1G g)).2.2.2.2.1.2.2.2.1 := by
      rw [← y3, ← y4]
      exact he
    show (s3G (s2G (s1G g))).2.2.2.2.2 < _
    rw [x_ck3]
    exact y2 e he2
  · have q := v5.1.2.2.1.2.2.1 e he
    have q1 : e.1 ≤ t + 2000 := q.1
    exact ⟨by omega, q.2⟩
