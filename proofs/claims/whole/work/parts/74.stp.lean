/-! a tick -/
def s1G (g : GS) : GS := if g.2.2.2.2.2 % 20 = 0 then (g.1, g.2.1, dvX (fun _ s => arD s) g.2.2.1.length g.2.2.1, g.2.2.2) else g
def s2G (g : GS) : GS := stM3 g (scS g.2.2.2.2.2 g.2.2.2.2.1.2.2.2.1.length g.2.2.2.2.1)
def s2H (g : GS) (z : HD) : HD := (scX g.2.2.2.2.2 g.2.2.2.2.1.2.2.2.1.length (g.2.2.2.2.1, z)).2
def s3G (g : GS) : GS := if g.2.2.2.1.2.1 1 = 0 ∧ 14 ≤ g.2.2.2.1.2.1 2 then bgG g else g
def s4G (g : GS) : GS := stM3 g (wtS g.2.2.2.2.1 (!decide (g.2.2.2.1.2.1 1 = 0)))
def s4H (g : GS) (z : HD) : HD := wtH g.2.2.2.2.1 (!decide (g.2.2.2.1.2.1 1 = 0)) z
def s5G (g : GS) : GS := (g.1, g.2.1, dvX (fun _ s => slD s) g.2.2.1.length g.2.2.1, g.2.2.2)
def s6G (g : GS) : GS := (g.1, g.2.1, g.2.2.1, (g.2.2.2.1.1, adV g.2.2.2.1.2.1 g.2.2.2.1.1 g.2.2.2.1.2.2, adL g.2.2.2.1.2.1 g.2.2.2.1.2.2), g.2.2.2.2)
def s7G (did who : Nat) (g : GS) : GS := if did = 2 then (g.1, g.2.1, spD who (g.2.2.2.1.2.1 7) g.2.2.1, g.2.2.2.1, spM who (g.2.2.2.1.2.1 7) g.2.2.2.2.1, g.2.2.2.2.2) else g
def swM (M : MS) : MS := (upN (upN M.1 1 2) 2 0, M.2)
def s8G (who : Nat) (g : GS) : GS := if who = 1 ∧ g.2.2.2.1.2.1 1 = 0 then stM3 g (swM g.2.2.2.2.1) else g
def s9G (did who : Nat) (g : GS) : GS := if did = 0 then (g.1, g.2.1, sdD who g.2.2.1, g.2.2.2.1, siM who g.2.2.2.2.1, g.2.2.2.2.2) else g
def s9H (did who : Nat) (g : GS) (z : HD) : HD := if did = 0 then siH who g.2.2.2.2.1 z else z
def s0G (g : GS) : GS := (g.1, g.2.1, g.2.2.1, g.2.2.2.1, g.2.2.2.2.1, g.2.2.2.2.2 + 1)
def a5G (g : GS) : GS := s5G (s4G (s3G (s2G (s1G g))))
def whG (g : GS) : Nat := (a5G g).2.2.2.1.2.1 1
def ddG (g : GS) : Nat := adR (a5G g).2.2.2.1.2.1 (a5G g).2.2.2.1.2.2
def a8G (g : GS) : GS := s8G (whG g) (s7G (ddG g) (whG g) (s6G (a5G g)))
def stG (g : GS) : GS := s0G (s9G (ddG g) (whG g) (a8G g))
def stH (g : GS) (z : HD) : HD := s9H (ddG g) (whG g) (a8G g) (s4H (s3G (s2G (s1G g))) (s2H (s1G g) z))
theorem mem_dv {f : Nat → DS → DS} {D : List DS} {P : DS → Prop} (h : ∀ i s, P s → P (f i s)) (hD : ∀ s ∈ D, P s) : ∀ s ∈ dvX f D.length D, P s := dvX_mem (fun i s _ z => h i s z) hD _ (Nat.le_refl _)
theorem ar20 {s : DS} : (arD s).1 = s.1 := rfl
theorem ok_s1 {B : Nat → Nat} {g : GS} (h : okB B g) : okB B (s1G g) := by
  unfold s1G
  split
  · exact ⟨h.1, mem_dv (P := fun s => okD s ∧ s.1 20 ≤ B 1) (fun i s z => ⟨okD_ar z.1, z.2⟩) h.2.1, h.2.2.1, h.2.2.2.1, h.2.2.2.2.1, by rw [dvX_len]; exact h.2.2.2.2.2⟩
  · exact h
theorem ok_s2 {B : Nat → Nat} {g : GS} (h : okB B g) (h9 : B 10 + 30000 ≤ B 9) : okB (bN B 5 8) (s2G g) := by
  have hm := ok_sc h.2.2.2.1 (c := g.2.2.2.2.2) (by have := h.2.2.2.2.1; omega) g.2.2.2.2.1.2.2.2.1.length (Nat.le_refl _)
  have l8 := h.2.2.2.1.2.2.2.2.2.2.2.1
  refine ⟨h.1, fun s hs => h.2.1 s hs, okW_m bN_le h.2.2.1, okMS_m (fun k => ?_) hm.1, h.2.2.2.2.1, h.2.2.2.2.2⟩
  unfold bN upN
  split <;> omega
theorem ok_s3 {B : Nat → Nat} {g : GS} (h : okB B g) : okB (bN (bN B 3 1) 4 1) (s3G g) := by
  have hle : ∀ k, B k ≤ bN (bN B 3 1) 4 1 k := fun k => Nat.le_trans (bN_le k) (bN_le k)
  have hm := okB_m hle h
  unfold s3G
  split
  · unfold bgG
    split
    · rename_i z2 z
      have hq := h.2.2.2.1.2.1 _ (hdQ_mem z.2)
      refine ⟨hm.1, hm.2.1, ok_stW h.2.2.1 hle (Nat.le_refl _) (by decide) (Nat.lt_trans hq.2.2.2.1 (by decide)) hq.1, ?_, hm.2.2.2.2.1, hm.2.2.2.2.2⟩
      obtain ⟨⟨h1, h2, h3, h4, h5', h9, h13, h14, h20⟩, hQ, hS, hC, he, l1, l2, l3, l4⟩ := hm.2.2.2.1
      refine ⟨⟨(by decide : 1 ≤ 2), h2, h3, h4, h5', h9, h13, h14, h20⟩, ?_, hS, hC, he, ?_, l2, l3, l4⟩
      · intro e he
        rcases List.mem_cons.mp he with y | y
        · subst y
          exact ⟨hq.1, hq.2.1, hq.2.2.1, hq.2.2.2.1, Nat.add_le_add_right hq.2.2.2.2 1⟩
        · exact hQ e (List.mem_of_mem_tail y)
      · show (_ :: g.2.2.2.2.1.2.1.tail).length ≤ 16
        rw [List.length_cons, List.length_tail]
        have := z.2
        omega
    · unfold bgD
      split
      · exact hm
      · rename_i i hi
        have hil : i < g.2.2.1.length := (List.findIdx?_eq_some_iff_getElem.mp hi).1
        have hs : gD g i ∈ g.2.2.1 := by
          simp only [gD, List.getD, List.getElem?_eq_getElem hil, Option.getD_some]
          exact List.getElem_mem hil
        have ho := h.2.1 _ hs
        have h6 := h.2.2.2.2.2
        refine ⟨hm.1, ?_, ok_stW h.2.2.1 hle (Nat.le_refl _) (by omega) (Nat.lt_trans ho.1.2.2.2.2.2.2.2.2.2.2.2.2.2.1 (by decide)) ho.1.2.2.2.2.2.2.2.2.2.1, hm.2.2.2.1, hm.2.2.2.2.1, by rw [List.length_set]; exact h6⟩
        intro s hs9
        rcases List.mem_or_eq_of_mem_set hs9 with y | y
        · exact hm.2.1 s y
        · subst y
          refine ⟨?_, ho.2⟩
          obtain ⟨h8, hb, hct, hLs, hSs, hru, h18, hlo9, her9, hrp9, hT9, hK9, hv0, hv1, hv2, hv17⟩ := ho.1
          exact ⟨h8, hb, hct, upL_lt hLs (fun x hx => by cases hx), hSs, hru, h18, hlo9, her9, (fun x hx => by cases hx), hT9, hK9, hv0, hv1, hv2, hv17⟩
  · exact hm
theorem ok_s4 {B : Nat → Nat} {g : GS} (h : okB B g) : okB (bN (bN B 2 1) 7 1) (s4G g) := by
  have hle : ∀ k, B k ≤ bN (bN B 2 1) 7 1 k := fun k => Nat.le_trans (bN_le k) (bN_le k)
  have hm := okB_m hle h
  exact ⟨hm.1, hm.2.1, hm.2.2.1, ok_wt h.2.2.2.1 hle (Nat.le_refl _) (Nat.le_refl _), hm.2.2.2.2⟩
theorem ok_s5 {B : Nat → Nat} {g : GS} (h : okB B g) : okB B (s5G g) := by
  refine ⟨h.1, mem_dv (P := fun s => okD s ∧ s.1 20 ≤ B 1) (fun i s z => ⟨okD_sl z.1, ?_⟩) h.2.1, h.2.2.1, h.2.2.2.1, h.2.2.2.2.1, by rw [s5G, dvX_len]; exact h.2.2.2.2.2⟩
  unfold slD
  split
  · exact z.2
  · exact z.2
theorem ok_s6 {B : Nat → Nat} {g : GS} (h : okB B g) : okB (bN (bN B 0 1) 6 1) (s6G g) := by
  have hle : ∀ k, B k ≤ bN (bN B 0 1) 6 1 k := fun k => Nat.le_trans (bN_le k) (bN_le k)
  have hm := okB_m hle h
  exact ⟨hm.1, hm.2.1, ok_ad h.2.2.1 hle (Nat.le_refl _) (Nat.le_refl _), hm.2.2.2.1, hm.2.2.2.2⟩
theorem ok_s7 {B : Nat → Nat} {g : GS} {did who : Nat} (h : okB B g) : okB B (s7G did who g) := by
  unfold s7G
  split
  · have h7 := h.2.2.1.2.1.2.2.2.2.2.2.1
    refine ⟨h.1, mem_dv (P := fun s => okD s ∧ s.1 20 ≤ B 1) (fun i s z => ?_) h.2.1, h.2.2.1, ?_, h.2.2.2.2.1, by rw [spD, dvX_len]; exact h.2.2.2.2.2⟩
    · split
      · exact z
      · exact ⟨okD_he z.1 h7, Nat.zero_le _⟩
    · unfold spM
      split
      · exact h.2.2.2.1
      · exact ok_he h.2.2.2.1 h7
  · exact h
theorem ok_s8 {B : Nat → Nat} {g : GS} {who : Nat} (h : okB B g) : okB B (s8G who g) := by
  unfold s8G
  split
  · obtain ⟨⟨h1, h2, r⟩, r2⟩ := h.2.2.2.1
    exact ⟨h.1, h.2.1, h.2.2.1, ⟨⟨(by decide : 2 ≤ 2), Nat.zero_le _, r⟩, r2⟩, h.2.2.2.2⟩
  · exact h
