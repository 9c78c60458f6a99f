/-! what scans leave alone -/
theorem upN_twice {v : Nat → Nat} {k a b : Nat} : upN (upN v k a) k b = upN v k b := by
  funext i
  unfold upN
  split <;> rfl
theorem sc1_1 {s : MS} {c i : Nat} : (sc1S s c i).1 = upN s.1 9 ((sc1S s c i).1 9) ∧ (sc1S s c i).2.2.1 = s.2.2.1 ∧ (sc1S s c i).2.2.2.2 = s.2.2.2.2 := by
  unfold sc1S
  split
  · exact ⟨upN_same.symm, rfl, rfl⟩
  · split
    · exact ⟨rfl, rfl, rfl⟩
    · exact ⟨upN_same.symm, rfl, rfl⟩
theorem scS_1 {c : Nat} {M : MS} : ∀ i, (scS c i M).1 = upN M.1 9 ((scS c i M).1 9) ∧ (scS c i M).2.2.1 = M.2.2.1 ∧ (scS c i M).2.2.2.2 = M.2.2.2.2
  | 0 => ⟨upN_same.symm, rfl, rfl⟩
  | i + 1 => by
    obtain ⟨a, b, d⟩ := scS_1 (c := c) (M := M) i
    obtain ⟨a2, b2, d2⟩ := sc1_1 (s := scS c i M) (c := c) (i := i)
    refine ⟨?_, b2.trans b, d2.trans d⟩
    show (sc1S (scS c i M) c i).1 = upN M.1 9 ((sc1S (scS c i M) c i).1 9)
    rw [a2, a, upN_twice]
    rfl
