/-! what every device keeps -/
theorem lat_in {cap v B : Nat} {r : List Nat} (h : ∀ x ∈ r, x < B) (hv : v < B) : ∀ x ∈ lat cap r v, x < B := by
  intro x hx
  unfold lat at hx
  split at hx
  · rcases List.mem_append.mp hx with z | z
    · exact h x z
    · rw [List.mem_singleton.mp z]; exact hv
  · split at hx
    · exact h x hx
    · rcases List.mem_append.mp hx with z | z
      · exact h x (List.mem_of_mem_tail z)
      · rw [List.mem_singleton.mp z]; exact hv
theorem dnC_lt {ct : Nat → Nat} {q : List Nat} (h : ∀ i, ct i < 65536) : ∀ i, dnC ct q i < 65536 := by
  intro i
  unfold dnC
  split
  · exact (by decide : (0 : Nat) < 65536)
  · split
    · unfold upN; split
      · decide
      · exact h i
    · exact h i
theorem dnL_lt {lo q : List Nat} (h : ∀ x ∈ lo, x < 256) : ∀ x ∈ dnL lo q, x < 256 := by
  unfold dnL
  split
  · refine lat_in ?_ (by decide)
    split
    · intro x hx; cases hx
    · exact h
  · split
    · exact lat_in h (by decide)
    · exact h
theorem pfC_lt {ct : Nat → Nat} {q : List Nat} (h : ∀ i, ct i < 65536) : ∀ i, pfC ct q i < 65536 := by
  unfold pfC
  split
  · exact dnC_lt h
  · exact h
theorem pfL_lt {lo q : List Nat} (h : ∀ x ∈ lo, x < 256) : ∀ x ∈ pfL lo q, x < 256 := by
  unfold pfL
  split
  · exact dnL_lt h
  · exact h
theorem svT_lt {s : DS} {q : List Nat} (h : ∀ i, s.2.2.2.1 i < 65536) : ∀ i, svT s q i < 65536 := by
  unfold svT
  split
  · exact h
  · exact cUp_all h
theorem upM_at {S : Nat → List (Nat × List Nat)} {k : Nat} {M : List (Nat × List Nat)} {P : List (Nat × List Nat) → Prop} (h : ∀ j, P (S j)) (hM : P M) : ∀ j, P (upM S k M j) := by
  intro j
  unfold upM
  split
  · exact hM
  · exact h j
theorem pfF_ok {F : List (Nat × List Nat)} {q : List Nat} (hq : ∀ x ∈ q, x < 256) (h : okM 65536 F) : okM 65536 (pfF F q) := by
  unfold pfF
  split
  · exact wfF_ok hq _ _ _ h
  · exact h
theorem okD_sv {s : DS} {q : List Nat} (hd : okD s) (hq : ∀ x ∈ q, x < 256) : okD (svS s q) := by
  obtain ⟨v, bf, lm, ct, L, S, B⟩ := s
  obtain ⟨h8, hb, hct, hLs, hSs, hru, h18, hlo9, her9, hrp9, hT9, hK9, hv0, hv1, hv2, hv17⟩ := hd
  simp only at h8 hb hct hLs hSs hru h18 hlo9 her9 hrp9 hT9 hK9 hv0 hv1 hv2 hv17
  unfold svS
  split
  · refine ⟨h8, hb, cUp_all hct, hLs, hSs, hru, ?_, hlo9, her9, hrp9, hT9, hK9, hv0, hv1, hv2, hv17⟩
    show v 18 - 1 < 100
    omega
  · split
    · exact ⟨h8, hb, hct, hLs, hSs, hru, h18, hlo9, her9, hrp9, hT9, hK9, hv0, hv1, hv2, hv17⟩
    · split
      · exact ⟨h8, hb, svT_lt hct, hLs, hSs, hru, h18, hlo9, her9, hrp9, hT9, hK9, hv0, hv1, hv2, hv17⟩
      · have e : ∀ k, k ≠ 0 → k ≠ 2 → k ≠ 5 → upL (pfV bf L q) 5 (pfL (L 5) q) k = L k := fun k h0 h2 h5 => by
          rw [show upL (pfV bf L q) 5 (pfL (L 5) q) k = pfV bf L q k from if_neg h5]
          exact pfV_k h0 h2
        refine ⟨h8, hb, pfC_lt (svT_lt hct), ?_, upM_at (P := okM 65536) hSs (pfF_ok hq (hSs 0)), ?_, h18, ?_, ?_, ?_, hT9, hK9, hv0, hv1, hv2, hv17⟩
        · exact upL_lt (pfV_lt hq hLs) (fun x hx => Nat.lt_trans (pfL_lt hlo9 x hx) (by decide))
        · show okR (upL (pfV bf L q) 5 (pfL (L 5) q) 4)
          rw [e 4 (by decide) (by decide) (by decide)]; exact hru
        · exact pfL_lt hlo9
        · show ∀ x ∈ upL (pfV bf L q) 5 (pfL (L 5) q) 6, x < 256
          rw [e 6 (by decide) (by decide) (by decide)]; exact her9
        · show ∀ x ∈ upL (pfV bf L q) 5 (pfL (L 5) q) 7, x < 256
          rw [e 7 (by decide) (by decide) (by decide)]; exact hrp9
theorem cfL_lt {lo r : List Nat} {ad : Nat} {df sp ov : Bool} (h : ∀ x ∈ lo, x < 256) : ∀ x ∈ cfL lo ad df r sp ov, x < 256 := by
  have hm : cfM df ≤ 32 := by cases df <;> decide
  unfold cfL
  split
  · split
    · exact h
    · refine lat_in h ?_
      split <;> omega
  · refine lat_in h ?_
    cases ov <;> simp <;> omega
theorem cfC_lt {ct : Nat → Nat} {r : List Nat} {ad : Nat} {sp ov : Bool} (h : ∀ i, ct i < 65536) : ∀ i, cfC ct ad r sp ov i < 65536 := by
  unfold cfC
  split
  · split
    · exact cUp_all h
    · exact cUp_all (cUp_all h)
  · split
    · exact cUp_all (cUp_all h)
    · exact cUp_all h
theorem okD_cf {s : DS} (hd : okD s) : okD (cfD s) := by
  obtain ⟨v, bf, lm, ct, L, S, B⟩ := s
  obtain ⟨h8, hb, hct, hLs, hSs, hru, h18, hlo9, her9, hrp9, hT9, hK9, hv0, hv1, hv2, hv17⟩ := hd
  simp only at h8 hb hct hLs hSs hru h18 hlo9 her9 hrp9 hT9 hK9 hv0 hv1 hv2 hv17
  exact ⟨h8, hb, cfC_lt hct, upL_lt hLs (fun x hx => Nat.lt_trans (cfL_lt hlo9 x hx) (by decide)), hSs, hru, h18, cfL_lt hlo9, her9, hrp9, hT9, hK9, hv0, hv1, hv2, hv17⟩
theorem okD_q {s : DS} {q : Nat} (hd : okD s) : okD (upN s.1 20 q, s.2) := hd
theorem okD_kr {s : DS} {p : List Nat} {code : Nat} (hd : okD s) (hp : ∀ x ∈ p, x < 256) : okD (krD s p code) := by
  obtain ⟨v, bf, lm, ct, L, S, B⟩ := s
  obtain ⟨h8, hb, hct, hLs, hSs, hru, h18, hlo9, her9, hrp9, hT9, hK9, hv0, hv1, hv2, hv17⟩ := hd
  simp only at h8 hb hct hLs hSs hru h18 hlo9 her9 hrp9 hT9 hK9 hv0 hv1 hv2 hv17
  have h1 : ∀ x ∈ krL (L 5) p code, x < 256 := by
    unfold krL
    split
    · exact hlo9
    · split
      · exact lat_in hlo9 (by decide)
      · split
        · exact lat_in hlo9 (by decide)
        · exact lat_in hlo9 (by decide)
  have h2 : ∀ x ∈ krR (L 7) p, x < 256 := by
    unfold krR
    split
    · exact hrp9
    · exact hp
  have hv : ∀ i, i ≠ 17 → krV v p i = v i := by
    intro i hi
    unfold krV
    split
    · rfl
    · exact if_neg hi
  refine ⟨?_, hb, ?_, upL_lt (upL_lt hLs (fun x hx => Nat.lt_trans (h1 x hx) (by decide))) (fun x hx => Nat.lt_trans (h2 x hx) (by decide)), hSs, hru, ?_, h1, her9, h2, hT9, hK9, ?_, ?_, ?_, ?_⟩
  · show krV v p 8 ≤ 8
    rw [hv 8 (by decide)]; exact h8
  · show ∀ i, krC ct p code i < 65536
    unfold krC
    split
    · exact cUp_all hct
    · split
      · exact hct
      · exact cUp_all hct
  · show krV v p 18 < 100
    rw [hv 18 (by decide)]; exact h18
  · show krV v p 0 < 6
    rw [hv 0 (by decide)]; exact hv0
  · show krV v p 1 < 248
    rw [hv 1 (by decide)]; exact hv1
  · show krV v p 2 ≤ 2000
    rw [hv 2 (by decide)]; exact hv2
  · show krV v p 17 ≤ 2000
    unfold krV
    split
    · exact hv17
    · exact hv2
theorem okD_fg {s : DS} (hd : okD s) : okD (fgD s) := by
  obtain ⟨v, bf, lm, ct, L, S, B⟩ := s
  obtain ⟨h8, hb, hct, hLs, hSs, hru, h18, hlo9, her9, hrp9, hT9, hK9, hv0, hv1, hv2, hv17⟩ := hd
  exact ⟨h8, hb, hct, upL_lt hLs (fun x hx => by cases hx), hSs, hru, h18, hlo9, (fun x hx => by cases hx), hrp9, hT9, hK9, hv0, hv1, hv2, hv17⟩
theorem okD_sl {s : DS} (hd : okD s) : okD (slD s) := by
  unfold slD
  split
  · obtain ⟨h8, hb, hct, hLs, hSs, hru, h18, hlo9, her9, hrp9, hT9, hK9, hv0, hv1, hv2, hv17⟩ := hd
    refine ⟨h8, hb, hct, hLs, hSs, hru, h18, hlo9, her9, hrp9, hT9, hK9, hv0, hv1, hv2, ?_⟩
    show s.1 17 - 1 ≤ 2000
    omega
  · exact hd
theorem okD_he {s : DS} {b : Nat} (hd : okD s) (hb9 : b < 256) : okD (heD b s) := by
  obtain ⟨v, bf, lm, ct, L, S, B⟩ := s
  obtain ⟨h8, hb, hct, hLs, hSs, hru, h18, hlo9, her9, hrp9, hT9, hK9, hv0, hv1, hv2, hv17⟩ := hd
  have h1 : ∀ x ∈ hrR (L 6) b, x < 256 := by
    intro x hx
    unfold hrR at hx
    split at hx
    · rcases List.mem_append.mp hx with z | z
      · exact her9 x z
      · rw [List.mem_singleton.mp z]; exact hb9
    · exact her9 x hx
  exact ⟨h8, hb, hct, upL_lt hLs (fun x hx => Nat.lt_trans (h1 x hx) (by decide)), hSs, hru, h18, hlo9, h1, hrp9, hT9, hK9, hv0, hv1, hv2, hv17⟩
theorem poM_ok {B x t : Nat} {M : List (Nat × List Nat)} (h : okM B M) (hx : x < B) : okM B (poM M x t) := by
  unfold poM
  split
  · exact h
  · exact okM_st h (lat_in (okM_at h) hx)
theorem arM_ok {bf : Nat → Nat} {ru : List Nat} {bv : Nat → List Nat} {M : List (Nat × List Nat)} (hbv : ∀ k, ∀ x ∈ bv k, x < 65536) (h : okM 65536 M) : ∀ n, okM 65536 (arM bf ru bv M n)
  | 0 => h
  | n + 1 => by
    rw [arM, aoM]
    split
    · refine poM_ok (arM_ok hbv h n) ?_
      exact gd_lt (arV_lt hbv n 3) (by decide)
    · exact arM_ok hbv h n
theorem okD_ar {s : DS} (hd : okD s) : okD (arD s) := by
  obtain ⟨v, bf, lm, ct, L, S, B⟩ := s
  obtain ⟨h8, hb, hct, hLs, hSs, hru, h18, hlo9, her9, hrp9, hT9, hK9, hv0, hv1, hv2, hv17⟩ := hd
  refine ⟨h8, hb, hct, ?_, upM_at (P := okM 65536) hSs (arM_ok hLs (hSs 1) _), hru, h18, hlo9, her9, hrp9, hT9, hK9, hv0, hv1, hv2, hv17⟩
  intro k
  show ∀ x ∈ (if k < 4 then arV bf (L 4) L ((L 4).length / 4) k else L k), x < 65536
  split
  · exact arV_lt hLs _ k
  · exact hLs k
