/-! okX along a tick -/
theorem x_sc {B : Nat → Nat} {c : Nat} {M : MS} (hM : okMS B M) (hc9 : c + 30000 ≤ B 9) (hT : ∀ e ∈ M.2.2.2.1, c ≤ e.2.2.2.1) : ∀ i, i ≤ M.2.2.2.1.length → (∀ j e, (scS c i M).2.2.2.1[j]? = some e → c ≤ e.2.2.2.1 ∧ (j < i → c < e.2.2.2.1)) ∧ M.2.1.length ≤ (scS c i M).2.1.length ∧ (scS c i M).1 1 = M.1 1
  | 0, _ => ⟨fun j e h => ⟨hT e (List.mem_of_getElem? h), fun z => absurd z (Nat.not_lt_zero j)⟩, Nat.le_refl _, rfl⟩
  | i + 1, hi => by
    obtain ⟨a, b, d⟩ := x_sc hM hc9 hT i (by omega)
    obtain ⟨o1, o2⟩ := ok_sc hM hc9 i (by omega)
    have hil : i < (scS c i M).2.2.2.1.length := by omega
    have hm := scA_mem (M := scS c i M) hil
    have ev : 50 ≤ (scA (scS c i M) i).2.1 := (o1.2.2.2.1 _ hm).2.2.1.1
    have hA : (scS c i M).2.2.2.1[i]? = some (scA (scS c i M) i) := by simp only [scA, List.getD, List.getElem?_eq_getElem hil, Option.getD_some]
    have ca := (a i _ hA).1
    have key : ∀ x : SCE, c < x.2.2.2.1 → ∀ j e, ((scS c i M).2.2.2.1.set i x)[j]? = some e → c ≤ e.2.2.2.1 ∧ (j < i + 1 → c < e.2.2.2.1) := fun x hx j e h => by
      by_cases ej : j = i
      · subst ej
        rw [List.getElem?_set_self hil] at h
        cases h
        exact ⟨Nat.le_of_lt hx, fun _ => hx⟩
      · rw [List.getElem?_set_ne (Ne.symm ej)] at h
        exact ⟨(a j e h).1, fun hj => (a j e h).2 (by omega)⟩
    have hx : c < (scA (scS c i M) i).2.2.2.1 + (scA (scS c i M) i).2.1 := by omega
    rw [scS, sc1S]
    split
    · rename_i z
      refine ⟨fun j e h => ⟨(a j e h).1, fun hj => ?_⟩, b, d⟩
      by_cases ej : j = i
      · subst ej
        rw [hA] at h
        cases h
        exact z
      · exact (a j e h).2 (by omega)
    · split
      · refine ⟨key _ hx, ?_, d⟩
        show _ ≤ ((scS c i M).2.1 ++ [_]).length
        rw [List.length_append]
        omega
      · exact ⟨key _ hx, b, d⟩
theorem x_s2 {B : Nat → Nat} {g : GS} (h : okX g) (hM : okMS B g.2.2.2.2.1) (hc9 : g.2.2.2.2.2 + 30000 ≤ B 9) : okX (s2G g) ∧ ∀ e ∈ (s2G g).2.2.2.2.1.2.2.2.1, g.2.2.2.2.2 < e.2.2.2.1 := by
  obtain ⟨a, b, d⟩ := x_sc hM hc9 h.1 g.2.2.2.2.1.2.2.2.1.length (Nat.le_refl _)
  have hl := (ok_sc hM hc9 g.2.2.2.2.1.2.2.2.1.length (Nat.le_refl _)).2
  have hs : ∀ e ∈ (s2G g).2.2.2.2.1.2.2.2.1, g.2.2.2.2.2 < e.2.2.2.1 := fun e he => by
    obtain ⟨j, hj, ej⟩ := List.getElem_of_mem he
    have hj2 : j < g.2.2.2.2.1.2.2.2.1.length := by rw [← hl]; exact hj
    exact (a j e (by rw [← ej]; exact List.getElem?_eq_getElem hj)).2 hj2
  refine ⟨⟨fun e he => Nat.le_of_lt (hs e he), fun z => ?_, fun z => ?_, h.2.2.2.1, h.2.2.2.2.1, h.2.2.2.2.2⟩, hs⟩
  · have z2 : (scS g.2.2.2.2.2 g.2.2.2.2.1.2.2.2.1.length g.2.2.2.2.1).1 1 ≠ 0 := z
    rw [d] at z2
    have := h.2.1 z2
    show 0 < (scS g.2.2.2.2.2 g.2.2.2.2.1.2.2.2.1.length g.2.2.2.2.1).2.1.length
    omega
  · show (scS g.2.2.2.2.2 g.2.2.2.2.1.2.2.2.1.length g.2.2.2.2.1).1 1 = 1
    rw [d]
    exact h.2.2.1 z
theorem x_bg {B : Nat → Nat} {g : GS} (h : okX g) (hM : okMS B g.2.2.2.2.1) (hE : ∀ s ∈ g.2.2.1, okE s) : okX (bgG g) ∧ (bgG g).2.2.2.2.1.2.2.2.1 = g.2.2.2.2.1.2.2.2.1 := by
  unfold bgG
  split
  · rename_i z
    have hq := hM.2.1 _ (hdQ_mem z.2)
    have l1 := hq.2.1.2
    refine ⟨⟨h.1, fun _ => Nat.succ_pos _, fun _ => rfl, fun _ => ?_, ?_, h.2.2.2.2.2⟩, rfl⟩
    · show 0 < (mkF (hdQ g.2.2.2.2.1).2.2.1 (hdQ g.2.2.2.2.1).1).length
      rw [mkF_l3]; omega
    · show (mkF (hdQ g.2.2.2.2.1).2.2.1 (hdQ g.2.2.2.2.1).1).length ≤ 260
      rw [mkF_l3]; omega
  · unfold bgD
    split
    · exact ⟨h, rfl⟩
    · rename_i i hi
      have hil : i < g.2.2.1.length := (List.findIdx?_eq_some_iff_getElem.mp hi).1
      have hs : gD g i ∈ g.2.2.1 := by
        simp only [gD, List.getD, List.getElem?_eq_getElem hil, Option.getD_some]
        exact List.getElem_mem hil
      have l7 : ((gD g i).2.2.2.2.1 7).length ≤ 253 := (okE_ln (hE _ hs)).2.2.2.1
      refine ⟨⟨h.1, h.2.1, fun z => ?_, fun _ => ?_, ?_, h.2.2.2.2.2⟩, rfl⟩
      · have z2 : 2 + i = 1 := z
        omega
      · show 0 < (mkF ((gD g i).1 1) ((gD g i).2.2.2.2.1 7)).length
        rw [mkF_l3]; omega
      · show (mkF ((gD g i).1 1) ((gD g i).2.2.2.2.1 7)).length ≤ 260
        rw [mkF_l3]; omega
theorem x_s3 {B : Nat → Nat} {g : GS} (h : okX g) (hM : okMS B g.2.2.2.2.1) (hE : ∀ s ∈ g.2.2.1, okE s) : okX (s3G g) ∧ (s3G g).2.2.2.2.1.2.2.2.1 = g.2.2.2.2.1.2.2.2.1 := by
  unfold s3G
  split
  · exact x_bg h hM hE
  · exact ⟨h, rfl⟩
