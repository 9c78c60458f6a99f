/-! finish and fail, told by the state -/
def mJ (L1 L2 : List (Option JB)) (s : MS) (z : HD) : Prop := ring 16 qd L1 z.1 s.2.1 ∧ ring 32 rd L2 z.2.1 s.2.2.1 ∧ L1.map Option.isSome = z.2.2.1 ∧ L2.map Option.isSome = z.2.2.2
abbrev mj (m : Nat) (A : Nat → Nat) (s : MS) (z : HD) (n3 : Nat) (L1 L2 : List (Option JB)) : List sA := [mo m A s.1 z.1 s.2.1.length z.2.1 s.2.2.1.length n3, ar4 (A 6) 16 L1, ar4 (A 10) 32 L2, lst slt L1, lst slt L2]
theorem map_get {L : List (Option JB)} {N : List Bool} {i : Nat} {o : Option JB} (h : L.map Option.isSome = N) (ho : L[i]? = some o) : N.getD i false = o.isSome := by
  subst h
  simp [List.getD, ho]
theorem mJ_fn {L1 L2 : List (Option JB)} {v : Nat → Nat} {e : RQE} {RQ : List RQE} {RS : List RSE} {R : List SCE × List Nat × (Nat → Bool)} {h1 h2 : Nat} {N1 N2 : List Bool} {j : JB} {o : Option JB} {oc co : Nat} {p : List Nat} (hJ : mJ L1 L2 (v, e :: RQ, RS, R) (h1, h2, N1, N2)) (hj : L1[h1]? = some (some j)) (hl : RS.length < 32) (ho : L2[(h2 + RS.length) % 32]? = some o) : mJ (L1.set h1 o) (L2.set ((h2 + RS.length) % 32) (some (j.1, p, upN (upN j.2.2 4 oc) 5 co))) (fnS (v, e :: RQ, RS, R) oc co p) (fnH (v, e :: RQ, RS, R) (h1, h2, N1, N2)) := by
  obtain ⟨r1, r2, q1, q2⟩ := hJ
  obtain ⟨j9, g1, g2⟩ := ring_first r1
  rw [hj] at g1
  cases g1
  simp only at r1 r2 q1 q2 hj ho
  refine ⟨?_, ?_, ?_, ?_⟩
  · exact ring_pop r1 o
  · have := ring_push r2 hl (j.1, p, upN (upN j.2.2 4 oc) 5 co)
    simp only [fnS, if_pos hl]
    rw [show rd (j.1, p, upN (upN j.2.2 4 oc) 5 co) = (p, (hdQ (v, e :: RQ, RS, R)).2.1, (hdQ (v, e :: RQ, RS, R)).2.2.1, (hdQ (v, e :: RQ, RS, R)).2.2.2, oc, co) from by
      rw [show hdQ (v, e :: RQ, RS, R) = e from rfl, g2]
      rfl] at this
    exact this
  · simp only [fnH, if_pos hl]
    rw [List.map_set, q1, map_get q2 ho]
  · simp only [fnH, if_pos hl]
    rw [List.map_set, q2]
    rfl
theorem K_finish {m n3 oc co : Nat} {A : Nat → Nat} {L1 L2 : List (Option JB)} {s : MS} {z : HD} {j : JB} (hJ : mJ L1 L2 s z) (hj : L1[z.1]? = some (some j)) (hq : 0 < s.2.1.length) : CA mX3_finish [.ref m, .ref j.1, .int (nI oc), .int (nI co), .null] (mj m A s z n3 L1 L2) (fun r K => ∃ L1' L2', r = none ∧ mJ L1' L2' (fnS s oc co []) (fnH s z) ∧ K = mj m A (fnS s oc co []) (fnH s z) n3 L1' L2') 1 25 0 0 := by
  obtain ⟨v, Q, RS, R⟩ := s
  obtain ⟨h1, h2, N1, N2⟩ := z
  cases Q with
  | nil => exact absurd hq (Nat.lt_irrefl 0)
  | cons e RQ =>
    have hl1 := hJ.1.1
    have hh1 := hJ.1.2.1
    have hn1 := hJ.1.2.2.1
    have hl2 := hJ.2.1.1
    have hh2 := hJ.2.1.2.1
    have hn2 := hJ.2.1.2.2.1
    rw [List.length_cons] at hn1
    by_cases hl : RS.length < 32
    · have hp : (h2 + RS.length) % 32 < L2.length := by rw [hl2]; exact Nat.mod_lt _ (by decide)
      have ho := List.getElem?_eq_getElem hp
      refine CA.mono (k_X3_finishR0 (A := A) (v := v) (n3 := n3) (oc := oc) (co := co) (n1 := RQ.length) hl1 hl2 hh1 hh2 (by omega) hn2 hj hl ho) (fun r K q => ⟨_, _, q.1, mJ_fn hJ hj hl ho, q.2.trans ?_⟩)
      simp only [mj, fnS, fnH, if_pos hl, List.length_append, List.length_singleton]
      rfl
    · refine CA.mono (k_X3_finishF0 (A := A) (v := v) (n3 := n3) (oc := oc) (co := co) (n1 := RQ.length) hl1 hl2 hh1 hh2 (by omega) hn2 hj (Nat.le_of_not_lt hl)) (fun r K q => ⟨L1, L2, q.1, ?_, q.2.trans ?_⟩)
      · refine ⟨?_, ?_, ?_, ?_⟩
        · exact ring_drop hJ.1
        · simp only [fnS, if_neg hl]; exact hJ.2.1
        · simp only [fnH, if_neg hl]; exact hJ.2.2.1
        · simp only [fnH, if_neg hl]; exact hJ.2.2.2
      · simp only [mj, fnS, fnH, if_neg hl]
        rfl
theorem K_finish1 {m n3 oc co b cb : Nat} {A : Nat → Nat} {L1 L2 : List (Option JB)} {s : MS} {z : HD} {j : JB} {p : List Nat} (hJ : mJ L1 L2 s z) (hj : L1[z.1]? = some (some j)) (hq : 0 < s.2.1.length) (hp0 : p.length ≤ 253) : CA mX3_finish [.ref m, .ref j.1, .int (nI oc), .int (nI co), .ref b] (mj m A s z n3 L1 L2 ++ [row b cb p]) (fun r K => ∃ L1' L2', r = none ∧ mJ L1' L2' (fnS s oc co p) (fnH s z) ∧ K = mj m A (fnS s oc co p) (fnH s z) n3 L1' L2' ++ [row b cb p]) 1 25 0 0 := by
  obtain ⟨v, Q, RS, R⟩ := s
  obtain ⟨h1, h2, N1, N2⟩ := z
  cases Q with
  | nil => exact absurd hq (Nat.lt_irrefl 0)
  | cons e RQ =>
    have hl1 := hJ.1.1
    have hh1 := hJ.1.2.1
    have hn1 := hJ.1.2.2.1
    have hl2 := hJ.2.1.1
    have hh2 := hJ.2.1.2.1
    have hn2 := hJ.2.1.2.2.1
    rw [List.length_cons] at hn1
    by_cases hl : RS.length < 32
    · have hp : (h2 + RS.length) % 32 < L2.length := by rw [hl2]; exact Nat.mod_lt _ (by decide)
      have ho := List.getElem?_eq_getElem hp
      refine CA.mono (k_X3_finishR1 (A := A) (b := b) (cb := cb) (p := p) (v := v) (n3 := n3) (oc := oc) (co := co) (n1 := RQ.length) hl1 hl2 hh1 hh2 (by omega) hn2 hj hl ho hp0) (fun r K q => ⟨_, _, q.1, mJ_fn hJ hj hl ho, q.2.trans ?_⟩)
      simp only [mj, fnS, fnH, if_pos hl, List.length_append, List.length_singleton]
      rfl
    · refine CA.mono (k_X3_finishF1 (A := A) (b := b) (cb := cb) (p := p) (v := v) (n3 := n3) (oc := oc) (co := co) (n1 := RQ.length) hl1 hl2 hh1 hh2 (by omega) hn2 hj (Nat.le_of_not_lt hl)) (fun r K q => ⟨L1, L2, q.1, ?_, q.2.trans ?_⟩)
      · refine ⟨?_, ?_, ?_, ?_⟩
        · exact ring_drop hJ.1
        · simp only [fnS, if_neg hl]; exact hJ.2.1
        · simp only [fnH, if_neg hl]; exact hJ.2.2.1
        · simp only [fnH, if_neg hl]; exact hJ.2.2.2
      · simp only [mj, fnS, fnH, if_neg hl]
        rfl
theorem upN_upN {v : Nat → Nat} {k x y : Nat} : upN (upN v k x) k y = upN v k y := by
  funext i
  unfold upN
  split <;> rfl
theorem upN_swap {v : Nat → Nat} {k l x y : Nat} (h : k ≠ l) : upN (upN v k x) l y = upN (upN v l y) k x := by
  funext i
  unfold upN
  by_cases e : i = l
  · subst e; rw [if_pos rfl, if_neg (fun z => h z.symm), if_pos rfl]
  · rw [if_neg e]
    by_cases e2 : i = k
    · rw [if_pos e2, if_pos e2]
    · rw [if_neg e2, if_neg e2, if_neg e]
theorem fn_ph {v : Nat → Nat} {x : Nat} {Q : List RQE} {RS : List RSE} {R : List SCE × List Nat × (Nat → Bool)} {oc co : Nat} {p : List Nat} : fnS (upN v 1 x, Q, RS, R) oc co p = fnS (v, Q, RS, R) oc co p := by
  simp only [fnS, upN_upN, hdQ]
  rfl
