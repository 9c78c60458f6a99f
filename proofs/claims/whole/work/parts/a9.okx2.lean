/-! okX: the master's part -/
def xM (M M' : MS) : Prop := M'.2.2.2.1 = M.2.2.2.1 ∧ (M'.1 1 ≠ 0 → M.1 1 = M'.1 1 ∧ M'.2.1 = M.2.1)
theorem xM_r {M : MS} : xM M M := ⟨rfl, fun _ => ⟨rfl, rfl⟩⟩
theorem xM_t {M M' M'' : MS} (a : xM M M') (b : xM M' M'') : xM M M'' := ⟨b.1.trans a.1, fun h => by
  obtain ⟨e1, e2⟩ := b.2 h
  have h2 : M'.1 1 ≠ 0 := by rw [e1]; exact h
  obtain ⟨e3, e4⟩ := a.2 h2
  exact ⟨e3.trans e1, e2.trans e4⟩⟩
theorem x_fn {s : MS} {oc co : Nat} {p : List Nat} : xM s (fnS s oc co p) := by
  have e : (fnS s oc co p).1 1 = 0 := by
    show (if s.2.2.1.length < 32 then upN s.1 1 0 else upN (upN s.1 1 0) 13 (s.1 13 + 1)) 1 = 0
    split <;> rfl
  exact ⟨rfl, fun h => absurd e h⟩
theorem x_fl {s : MS} {wy : Nat} : xM s (flS s wy) := by
  unfold flS
  split
  · exact x_fn
  · exact ⟨rfl, fun h => absurd rfl h⟩
theorem x_w1 {s : MS} : xM s (wt1 s) := ⟨rfl, fun _ => ⟨rfl, rfl⟩⟩
theorem x_wt {s : MS} {sb : Bool} : xM s (wtS s sb) := by
  unfold wtS
  split
  · split
    · split
      · exact xM_t x_w1 x_fn
      · exact x_w1
    · split
      · exact xM_t x_w1 x_fl
      · exact x_w1
  · exact xM_r
theorem x_wt1 {s : MS} {sb : Bool} (h : s.1 1 = 1) : wtS s sb = s := if_neg (fun z => absurd z.1 (by rw [h]; decide))
theorem x_tf {s : MS} : xM s (tfS s) := by
  unfold tfS
  split
  · exact ⟨rfl, fun _ => ⟨rfl, rfl⟩⟩
  · split
    · exact x_fl
    · exact x_fn
theorem x_tq {s : MS} : xM s (tqM s) := ⟨rfl, fun _ => ⟨rfl, rfl⟩⟩
theorem x_fg {s : MS} : xM s (fgM s) := ⟨rfl, fun _ => ⟨rfl, rfl⟩⟩
theorem x_si {s : MS} {who : Nat} : xM s (siM who s) := by
  unfold siM
  split
  · exact xM_r
  · split
    · exact xM_t x_tq (xM_t x_tf x_fg)
    · exact x_tq
theorem x_si1 {s : MS} : siM 1 s = s := if_pos rfl
theorem x_s4 {g : GS} (h : okX g) : okX (s4G g) ∧ (s4G g).2.2.2.2.1.2.2.2.1 = g.2.2.2.2.1.2.2.2.1 := by
  obtain ⟨a, b⟩ := x_wt (s := g.2.2.2.2.1) (sb := !decide (g.2.2.2.1.2.1 1 = 0))
  have a2 : (s4G g).2.2.2.2.1.2.2.2.1 = g.2.2.2.2.1.2.2.2.1 := a
  refine ⟨⟨fun e he => h.1 e (by rw [← a2]; exact he), fun z => ?_, fun z => ?_, h.2.2.2.1, h.2.2.2.2.1, h.2.2.2.2.2⟩, a2⟩
  · obtain ⟨e1, e2⟩ := b z
    have z2 : g.2.2.2.2.1.1 1 ≠ 0 := by rw [e1]; exact z
    show 0 < (wtS g.2.2.2.2.1 (!decide (g.2.2.2.1.2.1 1 = 0))).2.1.length
    rw [e2]
    exact h.2.1 z2
  · have z1 := h.2.2.1 z
    show (wtS g.2.2.2.2.1 (!decide (g.2.2.2.1.2.1 1 = 0))).1 1 = 1
    rw [x_wt1 z1]
    exact z1
theorem x_so7 {u : Nat → Nat} {fr : List Nat} {s : MS} : xM s (soM7 u fr s) := by
  obtain ⟨a, b, -, d⟩ := so_7 (u := u) (fr := fr) (M := s)
  exact ⟨d, fun _ => ⟨(a 1 (by decide)).symm, b⟩⟩
/-- the end of a tick keeps okX, where no scan is due any more -/
theorem x_end {tp an fr : List Nat} {D D' : List DS} {wv wv' : Nat → Nat} {hs hs' : List (Nat × Nat)} {M M' : MS} {ck : Nat} (h : okX (tp, an, D, (fr, wv, hs), M, ck)) (hs9 : ∀ e ∈ M.2.2.2.1, ck < e.2.2.2.1) (hSC : M'.2.2.2.1 = M.2.2.2.1) (hRQ : M'.1 1 ≠ 0 → 0 < M'.2.1.length) (h1 : wv' 1 = 1 → M'.1 1 = 1) (h3 : wv' 1 ≠ 0 → wv' 3 < fr.length) (h6 : wv' 6 ≤ 340) : okX (tp, an, D', (fr, wv', hs'), M', ck + 1) :=
  ⟨fun e he => hs9 e (by rw [← hSC]; exact he), hRQ, h1, h3, h.2.2.2.2.1, h6⟩
theorem x_A {tp an fr : List Nat} {D : List DS} {wv : Nat → Nat} {hs : List (Nat × Nat)} {M : MS} {ck : Nat} (h : okX (tp, an, D, (fr, wv, hs), M, ck)) (hs9 : ∀ e ∈ M.2.2.2.1, ck < e.2.2.2.1) (h0 : wv 1 = 0) : okX (fnG (tp, an, D, (fr, wv, hs), M, ck)) := by
  rw [fn_A h0]
  obtain ⟨a, b⟩ := x_si (s := M) (who := wv 1)
  refine x_end h hs9 a (fun z => ?_) (fun z => ?_) (fun z => ?_) h.2.2.2.2.2
  · obtain ⟨e1, e2⟩ := b z
    rw [e2]
    exact h.2.1 (show M.1 1 ≠ 0 by rw [e1]; exact z)
  · have z2 : wv 1 = 1 := z
    omega
  · exact absurd h0 z
