/-! a tick keeps all bounds -/
def okV (B : Nat → Nat) (g : GS) : Prop := okB B g ∧ ∀ s ∈ g.2.2.1, okE s
def bnd (t : Nat) : Nat → Nat := fun k => if k = 5 then 8 * t else if k = 7 then 2 * t else if k = 9 then t + 30000 else t
theorem ov_s1 {B : Nat → Nat} {g : GS} (h : okV B g) : okV B (s1G g) := by
  refine ⟨ok_s1 h.1, ?_⟩
  unfold s1G
  split
  · exact mem_dv (fun i s z => okE_ar z) h.2
  · exact h.2
theorem ov_s2 {B : Nat → Nat} {g : GS} (h : okV B g) (h9 : B 10 + 30000 ≤ B 9) : okV (bN B 5 8) (s2G g) := ⟨ok_s2 h.1 h9, h.2⟩
theorem ov_s3 {B : Nat → Nat} {g : GS} (h : okV B g) : okV (bN (bN B 3 1) 4 1) (s3G g) := by
  refine ⟨ok_s3 h.1, ?_⟩
  unfold s3G
  split
  · unfold bgG
    split
    · exact h.2
    · unfold bgD
      split
      · exact h.2
      · rename_i i hi
        obtain ⟨hil, hr, -⟩ := List.findIdx?_eq_some_iff_getElem.mp hi
        have e : gD g i = g.2.2.1[i] := by simp only [gD, List.getD, List.getElem?_eq_getElem hil, Option.getD_some]
        intro s hs
        rcases List.mem_or_eq_of_mem_set hs with y | y
        · exact h.2 s y
        · subst y
          rw [e]
          refine okE_cl (h.2 _ (List.getElem_mem hil)) ?_
          simp only [rdy, Bool.and_eq_true, decide_eq_true_eq] at hr
          exact hr.2
  · exact h.2
theorem ov_s4 {B : Nat → Nat} {g : GS} (h : okV B g) : okV (bN (bN B 2 1) 7 1) (s4G g) := ⟨ok_s4 h.1, h.2⟩
theorem ov_s5 {B : Nat → Nat} {g : GS} (h : okV B g) : okV B (s5G g) := ⟨ok_s5 h.1, mem_dv (fun i s z => okE_sl z) h.2⟩
theorem ov_s6 {B : Nat → Nat} {g : GS} (h : okV B g) : okV (bN (bN B 0 1) 6 1) (s6G g) := ⟨ok_s6 h.1, h.2⟩
theorem ov_s7 {B : Nat → Nat} {g : GS} {did who : Nat} (h : okV B g) : okV B (s7G did who g) := by
  refine ⟨ok_s7 h.1, ?_⟩
  unfold s7G
  split
  · refine mem_dv (fun i s z => ?_) h.2
    split
    · exact z
    · exact okE_he z
  · exact h.2
theorem ov_s8 {B : Nat → Nat} {g : GS} {who : Nat} (h : okV B g) : okV B (s8G who g) := by
  refine ⟨ok_s8 h.1, ?_⟩
  unfold s8G
  split
  · exact h.2
  · exact h.2
theorem ov_s9 {B : Nat → Nat} {g : GS} {did who : Nat} (h : okV B g) : okV (bN (bN (bN B 1 1) 7 1) 8 1) (s9G did who g) := by
  have hle : ∀ k, B k ≤ bN (bN (bN B 1 1) 7 1) 8 1 k := fun k => Nat.le_trans (bN_le k) (Nat.le_trans (bN_le k) (bN_le k))
  have hm := okB_m hle h.1
  unfold s9G
  split
  · have hd : ∀ s ∈ sdD who g.2.2.1, okD s ∧ okE s ∧ s.1 20 ≤ B 1 + 1 := by
      refine dvX_mem (P := fun s => okD s ∧ okE s ∧ s.1 20 ≤ B 1 + 1) ?_ (fun s hs => ⟨(h.1.2.1 s hs).1, h.2 s hs, Nat.le_succ_of_le (h.1.2.1 s hs).2⟩) _ (Nat.le_refl _)
      intro i s hs z
      split
      · exact z
      · obtain ⟨a, b, c⟩ := ok_siD z.1 z.2.1
        refine ⟨a, b, ?_⟩
        rw [c]
        exact Nat.add_le_add_right (h.1.2.1 s hs).2 1
    refine ⟨⟨hm.1, fun s hs => ⟨(hd s hs).1, (hd s hs).2.2⟩, hm.2.2.1, ok_si h.1.2.2.2.1 hle (Nat.le_refl _) (Nat.le_refl _) (Nat.le_refl _), hm.2.2.2.2.1, by rw [sdD, dvX_len]; exact hm.2.2.2.2.2⟩, fun s hs => (hd s hs).2.1⟩
  · exact ⟨hm, h.2⟩
theorem ov_s0 {B : Nat → Nat} {g : GS} (h : okV B g) : okV (bN B 10 1) (s0G g) := by
  have hm := okB_m (B' := bN B 10 1) bN_le h.1
  exact ⟨⟨hm.1, hm.2.1, hm.2.2.1, hm.2.2.2.1, Nat.add_le_add_right h.1.2.2.2.2.1 1, hm.2.2.2.2.2⟩, h.2⟩
theorem ov_m {B B' : Nat → Nat} {g : GS} (hB : ∀ k, B k ≤ B' k) (h : okV B g) : okV B' g := ⟨okB_m hB h.1, h.2⟩
theorem bnd_le {t : Nat} : ∀ k, bN (bN (bN (bN (bN (bN (bN (bN (bN (bN (bN (bnd t) 5 8) 3 1) 4 1) 2 1) 7 1) 0 1) 6 1) 1 1) 7 1) 8 1) 10 1 k ≤ bnd (t + 1) k := by
  intro k
  rcases (show k = 0 ∨ k = 1 ∨ k = 2 ∨ k = 3 ∨ k = 4 ∨ k = 5 ∨ k = 6 ∨ k = 7 ∨ k = 8 ∨ k = 9 ∨ k = 10 ∨ 11 ≤ k by omega) with z | z | z | z | z | z | z | z | z | z | z | z
  all_goals try subst z
  all_goals simp [bN, upN, bnd]
  all_goals try omega
  have h : ∀ j, j < 11 → k ≠ j := fun j hj => by omega
  simp [h 0, h 1, h 2, h 3, h 4, h 5, h 6, h 7, h 8, h 9, h 10]
theorem ov_st {t : Nat} {g : GS} (h : okV (bnd t) g) : okV (bnd (t + 1)) (stG g) := by
  have h2 := ov_s2 (ov_s1 h) (Nat.le_refl _)
  have h6 := ov_s6 (ov_s5 (ov_s4 (ov_s3 h2)))
  have h8 := ov_s8 (who := whG g) (ov_s7 (did := ddG g) (who := whG g) h6)
  exact ov_m bnd_le (ov_s0 (ov_s9 (did := ddG g) (who := whG g) h8))
