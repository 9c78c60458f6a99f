/-! the steps of a tick, and what they keep. B: bounds (0 idle, 1 quiet, 2 waited, 3 attempts, 4 frames, 5 numbers, 6 bytes, 7 lost, 8 stray, 9 times, 10 clock) -/
def okQ (B : Nat → Nat) (e : RQE) : Prop := (∀ x ∈ e.1, x < 256) ∧ (1 ≤ e.1.length ∧ e.1.length ≤ 253) ∧ e.2.1 ≤ B 5 ∧ e.2.2.1 < 248 ∧ e.2.2.2 ≤ B 3
def okS (B : Nat → Nat) (e : RSE) : Prop := (∀ x ∈ e.1, x < 256) ∧ e.1.length ≤ 253 ∧ e.2.1 ≤ B 5 ∧ e.2.2.1 < 248 ∧ e.2.2.2.1 ≤ B 3 ∧ e.2.2.2.2.1 ≤ 2 ∧ e.2.2.2.2.2 < 256
def okC (B : Nat → Nat) (e : SCE) : Prop := (∀ x ∈ e.1, x < 256) ∧ (1 ≤ e.1.length ∧ e.1.length ≤ 253) ∧ (50 ≤ e.2.1 ∧ e.2.1 ≤ 30000) ∧ e.2.2.1 < 248 ∧ e.2.2.2.1 ≤ B 9 ∧ ∀ k, e.2.2.2.2 = some k → k ≤ B 5
def okMS (B : Nat → Nat) (M : MS) : Prop := (M.1 1 ≤ 2 ∧ M.1 2 ≤ B 2 ∧ M.1 3 ≤ 9 ∧ M.1 4 ≤ 5000 ∧ M.1 5 ≤ 2000 ∧ M.1 9 ≤ B 5 ∧ M.1 13 ≤ B 7 ∧ M.1 14 ≤ B 8 ∧ M.1 20 ≤ B 1) ∧ (∀ e ∈ M.2.1, okQ B e) ∧ (∀ e ∈ M.2.2.1, okS B e) ∧ (∀ e ∈ M.2.2.2.1, okC B e) ∧ (∀ x ∈ M.2.2.2.2.1, x < 256) ∧ M.2.1.length ≤ 16 ∧ M.2.2.1.length ≤ 32 ∧ M.2.2.2.1.length ≤ 8 ∧ M.2.2.2.2.1.length ≤ 256
def okW (B : Nat → Nat) (W : List Nat × (Nat → Nat) × List (Nat × Nat)) : Prop := (∀ x ∈ W.1, x < 256) ∧ (W.2.1 1 < 8 ∧ W.2.1 2 ≤ B 0 ∧ W.2.1 3 ≤ B 6 ∧ W.2.1 4 < 1000 ∧ W.2.1 5 ≤ 4 ∧ W.2.1 6 < 1000 ∧ W.2.1 7 < 256 ∧ W.2.1 8 ≤ B 6 ∧ W.2.1 9 ≤ B 6 ∧ W.2.1 10 ≤ B 4) ∧ (∀ e ∈ W.2.2, e.1 ≤ B 6 + 2000 ∧ e.2 ≤ 340) ∧ W.2.2.length ≤ 64
def okB (B : Nat → Nat) (g : GS) : Prop := (∀ x ∈ g.1, x < 256) ∧ (∀ s ∈ g.2.2.1, okD s ∧ s.1 20 ≤ B 1) ∧ okW B g.2.2.2.1 ∧ okMS B g.2.2.2.2.1 ∧ g.2.2.2.2.2 ≤ B 10 ∧ g.2.2.1.length ≤ 6
theorem okQ_m {B B' : Nat → Nat} {e : RQE} (hB : ∀ k, B k ≤ B' k) (h : okQ B e) : okQ B' e := ⟨h.1, h.2.1, Nat.le_trans h.2.2.1 (hB 5), h.2.2.2.1, Nat.le_trans h.2.2.2.2 (hB 3)⟩
theorem okS_m {B B' : Nat → Nat} {e : RSE} (hB : ∀ k, B k ≤ B' k) (h : okS B e) : okS B' e := ⟨h.1, h.2.1, Nat.le_trans h.2.2.1 (hB 5), h.2.2.2.1, Nat.le_trans h.2.2.2.2.1 (hB 3), h.2.2.2.2.2⟩
theorem okC_m {B B' : Nat → Nat} {e : SCE} (hB : ∀ k, B k ≤ B' k) (h : okC B e) : okC B' e := ⟨h.1, h.2.1, h.2.2.1, h.2.2.2.1, Nat.le_trans h.2.2.2.2.1 (hB 9), fun k hk => Nat.le_trans (h.2.2.2.2.2 k hk) (hB 5)⟩
theorem okMS_m {B B' : Nat → Nat} {M : MS} (hB : ∀ k, B k ≤ B' k) (h : okMS B M) : okMS B' M := by
  obtain ⟨⟨h1, h2, h3, h4, h5, h9, h13, h14, h20⟩, hQ, hS, hC, r⟩ := h
  exact ⟨⟨h1, Nat.le_trans h2 (hB 2), h3, h4, h5, Nat.le_trans h9 (hB 5), Nat.le_trans h13 (hB 7), Nat.le_trans h14 (hB 8), Nat.le_trans h20 (hB 1)⟩, fun e he => okQ_m hB (hQ e he), fun e he => okS_m hB (hS e he), fun e he => okC_m hB (hC e he), r⟩
theorem okW_m {B B' : Nat → Nat} {W : List Nat × (Nat → Nat) × List (Nat × Nat)} (hB : ∀ k, B k ≤ B' k) (h : okW B W) : okW B' W := by
  obtain ⟨h0, ⟨h1, h2, h3, h4, h5, h6, h7, h8, h9, h10⟩, hh, hl⟩ := h
  exact ⟨h0, ⟨h1, Nat.le_trans h2 (hB 0), Nat.le_trans h3 (hB 6), h4, h5, h6, h7, Nat.le_trans h8 (hB 6), Nat.le_trans h9 (hB 6), Nat.le_trans h10 (hB 4)⟩, fun e he => ⟨Nat.le_trans (hh e he).1 (Nat.add_le_add_right (hB 6) _), (hh e he).2⟩, hl⟩
theorem okB_m {B B' : Nat → Nat} {g : GS} (hB : ∀ k, B k ≤ B' k) (h : okB B g) : okB B' g := ⟨h.1, fun s hs => ⟨(h.2.1 s hs).1, Nat.le_trans (h.2.1 s hs).2 (hB 1)⟩, okW_m hB h.2.2.1, okMS_m hB h.2.2.2.1, Nat.le_trans h.2.2.2.2.1 (hB 10), h.2.2.2.2.2⟩
theorem hdQ_mem {M : MS} (h : 0 < M.2.1.length) : hdQ M ∈ M.2.1 := by
  obtain ⟨v, Q, R⟩ := M
  cases Q with
  | nil => exact absurd h (Nat.lt_irrefl 0)
  | cons e Q => exact List.mem_cons_self
theorem ok_fn {B B' : Nat → Nat} {M : MS} {oc co : Nat} {p : List Nat} (h : okMS B M) (hB : ∀ k, B k ≤ B' k) (h7 : B 7 + 1 ≤ B' 7) (h0 : 0 < M.2.1.length) (ho : oc ≤ 2) (hc : co < 256) (hp : ∀ x ∈ p, x < 256) (hl : p.length ≤ 253) : okMS B' (fnS M oc co p) := by
  have hq := h.2.1 _ (hdQ_mem h0)
  have hm := okMS_m hB h
  obtain ⟨⟨h1, h2, h3, h4, h5, h9, h13, h14, h20⟩, hQ, hS, hC, he, l1, l2, l3⟩ := hm
  have h13' := h.1.2.2.2.2.2.2.1
  refine ⟨?_, fun e he => hQ e (List.mem_of_mem_tail he), ?_, hC, he, ?_, ?_, l3⟩
  · simp only [fnS]
    split
    · exact ⟨Nat.zero_le _, h2, h3, h4, h5, h9, h13, h14, h20⟩
    · exact ⟨Nat.zero_le _, h2, h3, h4, h5, h9, Nat.le_trans (Nat.add_le_add_right h13' 1) h7, h14, h20⟩
  · simp only [fnS]
    split
    · intro e he
      rcases List.mem_append.mp he with z | z
      · exact hS e z
      · rw [List.mem_singleton.mp z]
        exact ⟨hp, hl, Nat.le_trans hq.2.2.1 (hB 5), hq.2.2.2.1, Nat.le_trans hq.2.2.2.2 (hB 3), ho, hc⟩
    · exact hS
  · simp only [fnS, List.length_tail]; omega
  · simp only [fnS]
    split
    · rw [List.length_append, List.length_singleton]; omega
    · exact l2
theorem ok_fl {B B' : Nat → Nat} {M : MS} {wy : Nat} (h : okMS B M) (hB : ∀ k, B k ≤ B' k) (h7 : B 7 + 1 ≤ B' 7) (h0 : 0 < M.2.1.length) (hw : wy < 256) : okMS B' (flS M wy) := by
  unfold flS
  split
  · exact ok_fn h hB h7 h0 (by decide) hw (fun x hx => by cases hx) (by decide)
  · have hm := okMS_m hB h
    exact ⟨⟨Nat.zero_le _, hm.1.2⟩, hm.2⟩
theorem ok_wt1 {B B' : Nat → Nat} {M : MS} (h : okMS B M) (hB : ∀ k, B k ≤ B' k) (h2 : B 2 + 1 ≤ B' 2) : okMS B' (wt1 M) := by
  have hm := okMS_m hB h
  exact ⟨⟨hm.1.1, Nat.le_trans (Nat.add_le_add_right h.1.2.1 1) h2, hm.1.2.2⟩, hm.2⟩
theorem ok_wt {B B' : Nat → Nat} {M : MS} {sb : Bool} (h : okMS B M) (hB : ∀ k, B k ≤ B' k) (h2 : B 2 + 1 ≤ B' 2) (h7 : B 7 + 1 ≤ B' 7) : okMS B' (wtS M sb) := by
  have h1 : okMS (upN B 2 (B 2 + 1)) (wt1 M) := ok_wt1 h (fun k => by unfold upN; split <;> rename_i z <;> first | (subst z; omega) | omega) (Nat.le_refl _)
  have hB1 : ∀ k, upN B 2 (B 2 + 1) k ≤ B' k := fun k => by
    unfold upN
    split
    · rename_i z; subst z; exact h2
    · exact hB k
  unfold wtS
  split
  · rename_i z
    split
    · split
      · exact ok_fn h1 hB1 h7 z.2 (by decide) (by decide) (fun x hx => by cases hx) (by decide)
      · exact okMS_m hB1 h1
    · split
      · exact ok_fl h1 hB1 h7 z.2 (by decide)
      · exact okMS_m hB1 h1
  · exact okMS_m hB h
theorem tfK_lt {M : MS} (he : ∀ x ∈ M.2.2.2.2.1, x < 256) (hl : M.2.2.2.2.1.length ≤ 256) : (tfK M).2.1 ≤ 4 ∧ (tfK M).2.2.1 < 256 ∧ (∀ x ∈ (tfK M).2.2.2, x < 256) ∧ (tfK M).2.2.2.length ≤ 253 ∧ ((tfK M).1 ≠ 0 → 0 < M.2.1.length) ∧ ((tfK M).1 ≠ 0 → (tfK M).1 ≠ 1 → (tfK M).2.1 ≤ 2) := by
  have hp : ∀ x ∈ erP M, x < 256 := pf_lt he (by decide)
  have hpl : (erP M).length ≤ 253 := by rw [erP, pf_len]; omega
  have hg : (erP M).getD 1 0 < 256 := gd_lt hp (by decide)
  have e0 : ∀ x ∈ ([] : List Nat), x < 256 := fun x hx => by cases hx
  unfold tfK
  split
  · exact ⟨by decide, by decide, e0, by decide, fun z => absurd rfl z, fun z => absurd rfl z⟩
  · rename_i z
    have h0 : 0 < M.2.1.length := Nat.pos_of_ne_zero (fun y => z (Or.inr (Or.inl y)))
    split
    · exact ⟨by decide, by decide, e0, by decide, fun _ => h0, fun _ z => absurd rfl z⟩
    · split
      · exact ⟨by decide, by decide, e0, by decide, fun z => absurd rfl z, fun z => absurd rfl z⟩
      · split
        · split
          · exact ⟨by decide, by decide, e0, by decide, fun _ => h0, fun _ z => absurd rfl z⟩
          · exact ⟨(by decide : 1 ≤ 4), hg, e0, (by decide : 0 ≤ 253), fun _ => h0, fun _ _ => (by decide : 1 ≤ 2)⟩
        · split
          · exact ⟨(by decide : 0 ≤ 4), (by decide : 0 < 256), hp, hpl, fun _ => h0, fun _ _ => (by decide : 0 ≤ 2)⟩
          · exact ⟨by decide, by decide, e0, by decide, fun _ => h0, fun _ z => absurd rfl z⟩
theorem ok_tf {B B' : Nat → Nat} {M : MS} (h : okMS B M) (hB : ∀ k, B k ≤ B' k) (h7 : B 7 + 1 ≤ B' 7) (h8 : B 8 + 1 ≤ B' 8) : okMS B' (tfS M) := by
  obtain ⟨k1, k2, k3, k4, k5, k6⟩ := tfK_lt (M := M) h.2.2.2.2.1 h.2.2.2.2.2.2.2.2
  unfold tfS
  split
  · have hm := okMS_m hB h
    exact ⟨⟨hm.1.1, hm.1.2.1, hm.1.2.2.1, hm.1.2.2.2.1, hm.1.2.2.2.2.1, hm.1.2.2.2.2.2.1, hm.1.2.2.2.2.2.2.1, Nat.le_trans (Nat.add_le_add_right h.1.2.2.2.2.2.2.2.1 1) h8, hm.1.2.2.2.2.2.2.2.2⟩, hm.2⟩
  · rename_i z
    split
    · exact ok_fl h hB h7 (k5 z) (by omega)
    · rename_i z2
      exact ok_fn h hB h7 (k5 z) (k6 z z2) k2 k3 k4
theorem ok_he {B : Nat → Nat} {M : MS} {b : Nat} (h : okMS B M) (hb : b < 256) : okMS B (heM b M) := by
  obtain ⟨⟨h1, h2, h3, h4, h5, h9, h13, h14, h20⟩, hQ, hS, hC, he, l1, l2, l3, l4⟩ := h
  refine ⟨⟨h1, h2, h3, h4, h5, h9, h13, h14, Nat.zero_le _⟩, hQ, hS, hC, ?_, l1, l2, l3, ?_⟩
  · intro x hx
    simp only [heM, hrR] at hx
    split at hx
    · rcases List.mem_append.mp hx with z | z
      · exact he x z
      · rw [List.mem_singleton.mp z]; exact hb
    · exact he x hx
  · simp only [heM, hrR]
    split
    · rw [List.length_append, List.length_singleton]; omega
    · exact l4
theorem ok_fg {B : Nat → Nat} {M : MS} (h : okMS B M) : okMS B (fgM M) := by
  obtain ⟨h1, hQ, hS, hC, he, l1, l2, l3, l4⟩ := h
  exact ⟨h1, hQ, hS, hC, (fun x hx => by cases hx), l1, l2, l3, Nat.zero_le _⟩
theorem ok_tq {B B' : Nat → Nat} {M : MS} (h : okMS B M) (hB : ∀ k, B k ≤ B' k) (h1 : B 1 + 1 ≤ B' 1) : okMS B' (tqM M) := by
  have hm := okMS_m hB h
  exact ⟨⟨hm.1.1, hm.1.2.1, hm.1.2.2.1, hm.1.2.2.2.1, hm.1.2.2.2.2.1, hm.1.2.2.2.2.2.1, hm.1.2.2.2.2.2.2.1, hm.1.2.2.2.2.2.2.2.1, Nat.le_trans (Nat.add_le_add_right h.1.2.2.2.2.2.2.2.2 1) h1⟩, hm.2⟩
theorem ok_si {B B' : Nat → Nat} {M : MS} {who : Nat} (h : okMS B M) (hB : ∀ k, B k ≤ B' k) (h1 : B 1 + 1 ≤ B' 1) (h7 : B 7 + 1 ≤ B' 7) (h8 : B 8 + 1 ≤ B' 8) : okMS B' (siM who M) := by
  have ht : okMS (upN B 1 (B 1 + 1)) (tqM M) := ok_tq h (fun k => by unfold upN; split <;> rename_i z <;> first | (subst z; omega) | omega) (Nat.le_refl _)
  have hB1 : ∀ k, upN B 1 (B 1 + 1) k ≤ B' k := fun k => by
    unfold upN
    split
    · rename_i z; subst z; exact h1
    · exact hB k
  unfold siM
  split
  · exact okMS_m hB h
  · split
    · exact ok_fg (ok_tf ht hB1 h7 h8)
    · exact okMS_m hB1 ht
