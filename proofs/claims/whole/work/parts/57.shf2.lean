/-! shelves: a row made anew -/
theorem ix_lk {K : List (Nat × Nat)} {C : Nat → List Nat} {M : List (Nat × List Nat)} {x : Int32} (hM : K.map (fun e => (e.1, C e.2)) = M) (h : lkS K x = none) : ixM M x = none := by
  subst hM
  rcases lk_ix C x K with ⟨h1, -⟩ | ⟨i, -, -, h3⟩
  · exact h1
  · rw [h] at h3; cases h3
theorem shf_n {s cap rm k q : Nat} {M : List (Nat × List Nat)} {K : List (Nat × Nat)} {C : Nat → List Nat} {r : List Nat} {L : List sA} {h : eH} (hM : K.map (fun e => (e.1, C e.2)) = M) (k9 : stars (shB s cap rm (K ++ [(k, q)]) :: row q rm r :: rws rm K C :: L) h) : stars (shf s cap rm (M ++ [(k, r)]) :: L) h := by
  have hq : ∀ e ∈ K, e.2 ≠ q := by
    intro e he e9
    obtain ⟨h1, h2, -, -, -, h3, h4, -, hj, p3, h5, h6, hu5, hj5, p5, -⟩ := k9
    obtain ⟨i, hi, hi2⟩ := List.getElem_of_mem he
    obtain ⟨h7, p7, e7⟩ := stars_part _ i (P := row e.2 rm (C e.2)) p5 (by rw [List.getElem?_map, List.getElem?_eq_getElem hi, hi2]; rfl)
    obtain ⟨c, ⟨f, g1, -⟩, -⟩ := p3
    obtain ⟨c2, ⟨f2, g2, -⟩, -⟩ := p7
    have g3 := e7 _ _ g2
    rw [e9] at g3
    have g4 := e_un_l (h2 := h6) g3
    rw [hu5] at g4
    rcases hj q with z | z
    · rw [g1] at z; cases z
    · rw [g4] at z; cases z
  have e1 : ∀ e ∈ K, upC C q r e.2 = C e.2 := fun e he => by rw [upC, if_neg (hq e he)]
  have e2 : rws rm K C = rws rm K (upC C q r) := by
    show stars _ = stars _
    congr 1
    exact List.map_congr_left (fun e he => by rw [e1 e he])
  rw [e2] at k9
  refine shf_c (K := K ++ [(k, q)]) (C := upC C q r) ?_ ?_
  · rw [List.map_append, ← hM]
    congr 1
    · exact List.map_congr_left (fun e he => by rw [e1 e he])
    · simp [upC]
  · refine star_mono k9 (fun _ y => y) (fun h8 y => ?_)
    have y1 : star (row q rm r) (star (rws rm K (upC C q r)) (stars L)) h8 := y
    refine star_mono (star_assoc y1) (fun h7 w => ?_) (fun _ w => w)
    have p : ((row q rm r) :: K.map (fun e => row e.2 rm (upC C q r e.2))).Perm ((K ++ [(k, q)]).map (fun e => row e.2 rm (upC C q r e.2))) := by
      rw [List.map_append]
      have : [(k, q)].map (fun e => row e.2 rm (upC C q r e.2)) = [row q rm r] := by simp [upC]
      rw [this]
      exact (List.perm_append_singleton _ _).symm
    exact stars_perm p w
/-- a key's row made or made anew -/
def fmM (cap : Nat) (M : List (Nat × List Nat)) (k : Nat) (r : List Nat) : List (Nat × List Nat) := match ixM M (nI k) with
  | some i => stM M i r
  | none => if M.length < cap then M ++ [(k, r)] else M
def fmB (cap : Nat) (M : List (Nat × List Nat)) (k : Nat) : Bool := (ixM M (nI k)).isSome || decide (M.length < cap)
theorem inI_gt {r : List Nat} {x : Int32} (hl : r.length < 100000) (h : inI x (nI 0) (nI r.length - nI 1) = true) : ∃ n, x = nI n ∧ n < r.length := by
  simp only [inI, Bool.and_eq_true, decide_eq_true_eq] at h
  have h0 : ¬ x < 0 := fun z => absurd (Int32.lt_of_le_of_lt h.1 z) (by decide)
  obtain ⟨j, hj, rfl⟩ := nI_of h0
  refine ⟨j, rfl, ?_⟩
  rcases Nat.eq_zero_or_pos r.length with z | z
  · rw [z] at h
    exact absurd (Int32.lt_of_le_of_lt h.2 (by decide)) h0
  · rw [pk_sub (show 1 ≤ r.length by omega)] at h
    have := j_le_t hj (by omega) h.2
    omega
theorem inI_gf {r : List Nat} {x : Int32} (hl : r.length < 100000) (h : inI x (nI 0) (nI r.length - nI 1) = false) : gI r x = -1 := by
  unfold gI
  apply if_pos
  rcases pk_ix x (n := r.length) (by omega) with z | z | ⟨j, hj, rfl⟩
  · exact Or.inl z
  · exact Or.inr z
  · exfalso
    rw [pk_sub (show 1 ≤ r.length by omega)] at h
    simp only [inI, Bool.and_eq_false_iff, decide_eq_false_iff_not] at h
    rcases h with h | h
    · exact h (nI_le (by omega) (by omega))
    · exact h (nI_le (by omega) (by omega))
theorem gI_at {r : List Nat} {n : Nat} (hl : r.length < 100000) (hn : n < r.length) : gI r (nI n) = nI (r.getD n 0) := by
  unfold gI
  rw [if_neg ?_, nI_clamp (by omega)]
  rintro (z | z)
  · exact nI_pos (by omega) z
  · exact absurd (j_ge_t (by omega) (by omega) z) (by omega)
/-! FieldLine: files, queues, texts -/
def flC (g : GS) (d k n : Int32) : Bool := dIn g.2.2.1.length d && (inI k (nI 1) (nI 65535) && (inI n (nI 1) (nI 120) && fmB 4 ((gD g d.toNatClampNeg).2.2.2.2.2.1 0) k.toNatClampNeg))
def shS (s : DS) (j : Nat) (M : List (Nat × List Nat)) : DS := (s.1, s.2.1, s.2.2.1, s.2.2.2.1, s.2.2.2.2.1, upM s.2.2.2.2.2.1 j M, s.2.2.2.2.2.2)
def flG (g : GS) (d k n : Int32) : GS := if flC g d k n then stD g d.toNatClampNeg (shS (gD g d.toNatClampNeg) 0 (fmM 4 ((gD g d.toNatClampNeg).2.2.2.2.2.1 0) k.toNatClampNeg (List.replicate n.toNatClampNeg 0))) else g
def rcR (g : GS) (d k x : Int32) : Int32 := if dIn g.2.2.1.length d then (match ixM ((gD g d.toNatClampNeg).2.2.2.2.2.1 0) k with
  | none => -1
  | some i => gI (rwM ((gD g d.toNatClampNeg).2.2.2.2.2.1 0) i) x) else -1
def quC (g : GS) (d a : Int32) : Bool := dIn g.2.2.1.length d && (inI a (nI 0) (nI 65535) && ((ixM ((gD g d.toNatClampNeg).2.2.2.2.2.1 1) a).isNone && decide (((gD g d.toNatClampNeg).2.2.2.2.2.1 1).length < 4)))
def quG (g : GS) (d a : Int32) : GS := if quC g d a then stD g d.toNatClampNeg (shS (gD g d.toNatClampNeg) 1 ((gD g d.toNatClampNeg).2.2.2.2.2.1 1 ++ [(a.toNatClampNeg, [])])) else g
def psI (g : GS) (d a : Int32) : Option Nat := if dIn g.2.2.1.length d then (match ixM ((gD g d.toNatClampNeg).2.2.2.2.2.1 1) a with
  | none => none
  | some i => if (rwM ((gD g d.toNatClampNeg).2.2.2.2.2.1 1) i).length < 40 then some i else none) else none
def psR (g : GS) (d a : Int32) : Int32 := match psI g d a with
  | none => -1
  | some i => nI ((rwM ((gD g d.toNatClampNeg).2.2.2.2.2.1 1) i).length + 1)
def psG (g : GS) (d a x : Int32) : GS := match psI g d a with
  | none => g
  | some i => stD g d.toNatClampNeg (shS (gD g d.toNatClampNeg) 1 (stM ((gD g d.toNatClampNeg).2.2.2.2.2.1 1) i (rwM ((gD g d.toNatClampNeg).2.2.2.2.2.1 1) i ++ [x.toBitVec.toNat % 2 ^ 16])))
def nmC (g : GS) (d k : Int32) : Bool := dIn g.2.2.1.length d && (decide (g.1.length ≤ 40) && ((inI k (nI 0) (nI 6) || inI k (nI 128) (nI 255)) && fmB 10 ((gD g d.toNatClampNeg).2.2.2.2.2.1 2) k.toNatClampNeg))
def nmG (g : GS) (d k : Int32) : GS := if nmC g d k then ([], g.2.1, g.2.2.1.set d.toNatClampNeg (shS (gD g d.toNatClampNeg) 2 (fmM 10 ((gD g d.toNatClampNeg).2.2.2.2.2.1 2) k.toNatClampNeg g.1)), g.2.2.2) else g
