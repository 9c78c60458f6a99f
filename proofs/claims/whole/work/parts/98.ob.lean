/-! rules: the reference's steps are the class's -/
theorem mv_nI {mk x : Nat} (hx : x < 2 ^ 32) : mv mk (nI x) = x % (mk + 1) := by
  unfold mv
  rw [show (nI x).toBitVec.toNat = x by
    show (Int32.ofNat x).toBitVec.toNat = x
    rw [Int32.toBitVec_ofNat', BitVec.toNat_ofNat]
    exact Nat.mod_eq_of_lt hx]
theorem hasK_Z {s : DS} {k a : Nat} (ha : a < 2 ^ 31) : hasK (dF s) (dL s) k a = plZ s k a 1 := (plZ_plI ha (by decide)).symm
theorem wr_pu {s : DS} {k a x : Nat} (ha : a < 2 ^ 31) (hx : x < 2 ^ 32) (hp : plZ s k a 1 = true) : wrK (dF s) (dL s) k a (nI x) = upL (dL s) k ((dL s k).set (a - dF s k) (x % (mkK k + 1))) := by
  funext j
  show (if j = k then wrI (mkK k) (dF s k) (dL s k) (nI a) (nI x) else dL s j) = if j = k then _ else _
  have hw : wrI (mkK k) (dF s k) (dL s k) (nI a) (nI x) = (dL s k).set (a - dF s k) (x % (mkK k + 1)) := by
    have hq : plI (dF s k) (dL s k).length (nI a) 1 = true := by rw [← plZ_plI ha (by decide)]; exact hp
    rw [wrI, if_pos hq, nI_clamp ha, mv_nI hx]
  rw [hw]
theorem wr_no {s : DS} {k a : Nat} {x : Int32} (ha : a < 2 ^ 31) (hp : plZ s k a 1 = false) : wrK (dF s) (dL s) k a x = dL s := by
  funext j
  show (if j = k then wrI (mkK k) (dF s k) (dL s k) (nI a) x else dL s j) = dL s j
  have hw : wrI (mkK k) (dF s k) (dL s k) (nI a) x = dL s k := by
    have hq : ¬ plI (dF s k) (dL s k).length (nI a) 1 = true := by rw [← plZ_plI ha (by decide), hp]; decide
    rw [wrI, if_neg hq]
  rw [hw]
  split
  · rename_i e; rw [e]
  · rfl
theorem upM_self {S : Nat → List (Nat × List Nat)} {k : Nat} : upM S k (S k) = S := by
  funext j
  unfold upM
  split
  · rename_i e; rw [e]
  · rfl
theorem upM_up {S : Nat → List (Nat × List Nat)} {k : Nat} {M M' : List (Nat × List Nat)} : upM (upM S k M) k M' = upM S k M' := by
  funext j
  unfold upM
  split <;> rfl
def obD (s : DS) (kd a b c : Nat) : DS := (s.1, s.2.1, s.2.2.1, s.2.2.2.1, aoV (dF s) (dL s) kd a b c, upM (dS s) 1 (aoM (dS s 1) (dF s) (dL s) kd a b c), dB s)
theorem ob_lo {s : DS} {kd a b c : Nat} {L : Nat → List Nat} (hkd : kd < 6) (h : aoV (dF s) (dL s) kd a b c = L) : obD s kd a b c = (s.1, s.2.1, s.2.2.1, s.2.2.2.1, L, s.2.2.2.2.2) := by
  unfold obD
  rw [h, aoM, if_neg (by omega), upM_self]
theorem ob_lo' {s : DS} {kd a b c : Nat} (hkd : kd < 6) (h : aoV (dF s) (dL s) kd a b c = dL s) : obD s kd a b c = s := ob_lo hkd h
theorem ob_0 {s : DS} {a b c : Nat} (ha : a < 65536) (hb : b < 65536) (hn : (dL s 3).getD (a - dF s 3) 0 < 65536) (hp : plZ s 3 a 1 = true) : obD s 0 a b c = puD s 3 (a - dF s 3) (((dL s 3).getD (a - dF s 3) 0 + b) % 65536) := by
  refine ob_lo (by decide) ?_
  show ao0 _ _ a b = _
  rw [ao0, if_pos (by rw [hasK_Z (by omega)]; exact hp), val_nat (by omega) (by rw [hasK_Z (by omega)]; exact hp), nI_add, wr_pu (by omega) (Nat.lt_trans (Nat.add_lt_add hn hb) (by decide)) hp]
  rfl
theorem ob_0n {s : DS} {a b c : Nat} (ha : a < 65536) (hp : plZ s 3 a 1 = false) : obD s 0 a b c = s := by
  refine ob_lo' (by decide) ?_
  show ao0 _ _ a b = _
  rw [ao0, if_neg (by rw [hasK_Z (by omega), hp]; decide)]
theorem ob_1 {s : DS} {a b c : Nat} (ha : a < 65536) (hb : b < 65536) (hn : (dL s 2).getD (b - dF s 2) 0 < 65536) (hp : plZ s 3 a 1 = true) (hq : plZ s 2 b 1 = true) : obD s 1 a b c = puD s 3 (a - dF s 3) ((dL s 2).getD (b - dF s 2) 0) := by
  refine ob_lo (by decide) ?_
  show ao1 _ _ a b = _
  rw [ao1, if_pos (by rw [hasK_Z (by omega), hasK_Z (by omega), hp, hq]; rfl), val_nat (by omega) (by rw [hasK_Z (by omega)]; exact hq), wr_pu (by omega) (Nat.lt_trans hn (by decide)) hp, Nat.mod_eq_of_lt (by exact hn)]
theorem ob_1n {s : DS} {a b c : Nat} (ha : a < 65536) (hb : b < 65536) (hp : plZ s 3 a 1 = false ∨ plZ s 2 b 1 = false) : obD s 1 a b c = s := by
  refine ob_lo' (by decide) ?_
  show ao1 _ _ a b = _
  rw [ao1, if_neg (by rw [hasK_Z (by omega), hasK_Z (by omega)]; rcases hp with z | z <;> rw [z] <;> simp)]
theorem near_lt {v g m : Nat} (hv : v < 65536) (hg : g < 65536) : near v g m < 65536 := by
  unfold near
  split <;> omega
theorem ob_2 {s : DS} {a b c : Nat} (ha : a < 65536) (hb : b < 65536) (hn : (dL s 3).getD (a - dF s 3) 0 < 65536) (hm : (dL s 2).getD (b - dF s 2) 0 < 65536) (hp : plZ s 3 a 1 = true) (hq : plZ s 2 b 1 = true) : obD s 2 a b c = puD s 3 (a - dF s 3) (near ((dL s 3).getD (a - dF s 3) 0) ((dL s 2).getD (b - dF s 2) 0) c) := by
  have hl := near_lt (m := c) hn hm
  refine ob_lo (by decide) ?_
  show ao2 _ _ a b c = _
  rw [ao2, if_pos (by rw [hasK_Z (by omega), hasK_Z (by omega), hp, hq]; rfl), wr_pu (by omega) (Nat.lt_trans hl (by decide)) hp, Nat.mod_eq_of_lt (by exact hl)]
theorem ob_2n {s : DS} {a b c : Nat} (ha : a < 65536) (hb : b < 65536) (hp : plZ s 3 a 1 = false ∨ plZ s 2 b 1 = false) : obD s 2 a b c = s := by
  refine ob_lo' (by decide) ?_
  show ao2 _ _ a b c = _
  rw [ao2, if_neg (by rw [hasK_Z (by omega), hasK_Z (by omega)]; rcases hp with z | z <;> rw [z] <;> simp)]
theorem ob_3 {s : DS} {a b c : Nat} (ha : a < 65536) (hb : b < 65536) (hc : c < 65536) (hp : plZ s 3 a 1 = true) (hq : plZ s 2 b 1 = true) (hr : plZ s 1 c 1 = true) : obD s 3 a b c = puD s 1 (c - dF s 1) (if (dL s 2).getD (b - dF s 2) 0 < (dL s 3).getD (a - dF s 3) 0 then 1 else 0) := by
  refine ob_lo (by decide) ?_
  show ao3 _ _ a b c = _
  rw [ao3, if_pos (by rw [hasK_Z (by omega), hasK_Z (by omega), hp, hq]; rfl)]
  by_cases z : (dL s 2).getD (b - dF s 2) 0 < (dL s 3).getD (a - dF s 3) 0
  · rw [if_pos z, if_pos z, wr_pu (by omega) (by decide) hr]; rfl
  · rw [if_neg z, if_neg z, wr_pu (by omega) (by decide) hr]; rfl
theorem ob_3n {s : DS} {a b c : Nat} (ha : a < 65536) (hb : b < 65536) (hc : c < 65536) (hp : plZ s 3 a 1 = false ∨ plZ s 2 b 1 = false ∨ plZ s 1 c 1 = false) : obD s 3 a b c = s := by
  refine ob_lo' (by decide) ?_
  show ao3 _ _ a b c = _
  by_cases z : (hasK (dF s) (dL s) 3 a && hasK (dF s) (dL s) 2 b) = true
  · rw [ao3, if_pos z, wr_no (by omega)]
    rw [hasK_Z (by omega), hasK_Z (by omega), Bool.and_eq_true] at z
    rcases hp with y | y | y
    · rw [z.1] at y; cases y
    · rw [z.2] at y; cases y
    · exact y
  · rw [ao3, if_neg z]
theorem val_1 {s : DS} {k a : Nat} (ha : a < 2 ^ 31) (hn : (dL s k).getD (a - dF s k) 0 < 65536) : valK (dF s) (dL s) k a = nI 1 ↔ plZ s k a 1 = true ∧ (dL s k).getD (a - dF s k) 0 = 1 := by
  cases hp : plZ s k a 1 with
  | true =>
    rw [val_nat ha (by rw [hasK_Z ha]; exact hp)]
    exact ⟨fun z => ⟨rfl, j_eq_t (by omega) (by decide) z⟩, fun z => congrArg nI z.2⟩
  | false =>
    have : valK (dF s) (dL s) k a = -1 := by
      show vlI _ _ _ = _
      rw [vlI, if_neg (by rw [← plZ_plI ha (by decide), hp]; decide)]
    rw [this]
    exact ⟨fun z => absurd z (by decide), fun z => by cases z.1⟩
theorem ob_4 {s : DS} {a b c : Nat} (ha : a < 65536) (hb : b < 65536) (hn : (dL s 1).getD (a - dF s 1) 0 < 65536) (hp : plZ s 1 a 1 = true) (hq : plZ s 0 b 1 = true) (h1 : (dL s 1).getD (a - dF s 1) 0 = 1) : obD s 4 a b c = puD s 0 (b - dF s 0) 1 := by
  refine ob_lo (by decide) ?_
  show ao4 _ _ a b = _
  rw [ao4, if_pos ((val_1 (by omega) hn).mpr ⟨hp, h1⟩), wr_pu (by omega) (by decide) hq]
  rfl
theorem ob_4n {s : DS} {a b c : Nat} (ha : a < 65536) (hb : b < 65536) (hn : (dL s 1).getD (a - dF s 1) 0 < 65536) (hp : plZ s 1 a 1 = false ∨ plZ s 0 b 1 = false ∨ (dL s 1).getD (a - dF s 1) 0 ≠ 1) : obD s 4 a b c = s := by
  refine ob_lo' (by decide) ?_
  show ao4 _ _ a b = _
  by_cases z : valK (dF s) (dL s) 1 a = nI 1
  · rw [ao4, if_pos z, wr_no (by omega)]
    have y := (val_1 (by omega) hn).mp z
    rcases hp with x | x | x
    · rw [y.1] at x; cases x
    · exact x
    · exact absurd y.2 x
  · rw [ao4, if_neg z]
theorem ob_5 {s : DS} {a b c : Nat} (ha : a < 65536) (hb : b < 65536) (hn : (dL s 0).getD (a - dF s 0) 0 < 65536) (hp : plZ s 0 a 1 = true) (hq : plZ s 3 b 1 = true) (h1 : (dL s 0).getD (a - dF s 0) 0 = 1) : obD s 5 a b c = puD (puD s 0 (a - dF s 0) 0) 3 (b - dF s 3) 0 := by
  refine ob_lo (by decide) ?_
  show ao5 _ _ a b = _
  rw [ao5, if_pos ⟨(val_1 (by omega) hn).mpr ⟨hp, h1⟩, by rw [hasK_Z (by omega)]; exact hq⟩, wr_pu (by omega) (by decide) hp]
  exact wr_pu (s := puD s 0 (a - dF s 0) 0) (k := 3) (a := b) (x := 0) (by omega) (by decide) hq
theorem ob_5n {s : DS} {a b c : Nat} (ha : a < 65536) (hb : b < 65536) (hn : (dL s 0).getD (a - dF s 0) 0 < 65536) (hp : plZ s 0 a 1 = false ∨ plZ s 3 b 1 = false ∨ (dL s 0).getD (a - dF s 0) 0 ≠ 1) : obD s 5 a b c = s := by
  refine ob_lo' (by decide) ?_
  show ao5 _ _ a b = _
  rw [ao5, if_neg]
  rintro ⟨z, z2⟩
  have y := (val_1 (by omega) hn).mp z
  rw [hasK_Z (by omega)] at z2
  rcases hp with x | x | x
  · rw [y.1] at x; cases x
  · rw [z2] at x; cases x
  · exact x y.2
theorem ob_hi {s : DS} {kd a b c : Nat} (hkd : 5 < kd) : obD s kd a b c = (s.1, s.2.1, s.2.2.1, s.2.2.2.1, dL s, upM (dS s) 1 (aoM (dS s 1) (dF s) (dL s) kd a b c), dB s) := by
  obtain ⟨k, rfl⟩ : ∃ k, kd = k + 6 := ⟨kd - 6, by omega⟩
  rfl
theorem ob_6 {s : DS} {kd a b c i : Nat} (hkd : 5 < kd) (ha : a < 65536) (hc : c < 65536) (hn : (dL s 0).getD (c - dF s 0) 0 < 65536) (hp : plZ s 3 a 1 = true) (hq : plZ s 0 c 1 = true) (h1 : (dL s 0).getD (c - dF s 0) 0 = 1) (hx : ixM (dS s 1) (nI b) = some i) : obD s kd a b c = quD s i ((dL s 3).getD (a - dF s 3) 0) := by
  rw [ob_hi hkd, aoM, if_pos ⟨hkd, (val_1 (by omega) hn).mpr ⟨hq, h1⟩, by rw [hasK_Z (by omega)]; exact hp⟩, poM, hx]
  rfl
theorem ob_6n {s : DS} {kd a b c : Nat} (hkd : 5 < kd) (ha : a < 65536) (hc : c < 65536) (hn : (dL s 0).getD (c - dF s 0) 0 < 65536) (hp : plZ s 3 a 1 = false ∨ ixM (dS s 1) (nI b) = none ∨ plZ s 0 c 1 = false ∨ (dL s 0).getD (c - dF s 0) 0 ≠ 1) : obD s kd a b c = s := by
  have : aoM (dS s 1) (dF s) (dL s) kd a b c = dS s 1 := by
    by_cases z : 5 < kd ∧ valK (dF s) (dL s) 0 c = nI 1 ∧ hasK (dF s) (dL s) 3 a = true
    · rw [aoM, if_pos z]
      have y := (val_1 (by omega) hn).mp z.2.1
      have z2 := z.2.2
      rw [hasK_Z (by omega)] at z2
      rcases hp with x | x | x | x
      · rw [z2] at x; cases x
      · rw [poM, x]
      · rw [y.1] at x; cases x
      · exact absurd y.2 x
    · rw [aoM, if_neg z]
  rw [ob_hi hkd, this, upM_self]
theorem max_subI2 {v m g : Nat} (hv : v < 2 ^ 30) (hm : m < 2 ^ 30) (hg : g < 2 ^ 31) : (if nI g < nI v - nI m then nI v - nI m else nI g) = nI (max (v - m) g) := by
  by_cases z : m ≤ v
  · rw [pk_sub z]
    by_cases y : g < v - m
    · rw [if_pos (Decidable.byContradiction fun x => absurd (j_lt_f (by omega) (by omega) x) (by omega)), Nat.max_eq_left (by omega)]
    · rw [if_neg (fun x => y (j_lt_t (by omega) (by omega) x)), Nat.max_eq_right (by omega)]
  · have h0 := max_subI (v := v) (m := m) (g := 0) hv hm (by decide)
    by_cases y : nI g < nI v - nI m
    · exfalso
      have y2 : ¬ nI v - nI m < nI 0 := fun x => nI_pos (n := g) hg (Int32.lt_trans y x)
      rw [if_neg y2, show v - m = 0 by omega] at h0
      rw [h0] at y
      exact nI_pos (n := g) hg y
    · rw [if_neg y, show v - m = 0 by omega, Nat.max_eq_right (Nat.zero_le _)]
theorem aoV_hi {bf : Nat → Nat} {bv : Nat → List Nat} {kd a b c k : Nat} (hk : 4 ≤ k) : aoV bf bv kd a b c k = bv k := by
  unfold aoV
  split
  · unfold ao0; split; exact if_neg (by omega); rfl
  · unfold ao1; split; exact if_neg (by omega); rfl
  · unfold ao2; split; exact if_neg (by omega); rfl
  · unfold ao3; split; exact if_neg (by omega); rfl
  · unfold ao4; split; exact if_neg (by omega); rfl
  · unfold ao5; split; exact (if_neg (by omega)).trans (if_neg (by omega)); rfl
  · rfl
theorem arV_hi {bf : Nat → Nat} {ru : List Nat} {bv : Nat → List Nat} {k : Nat} (hk : 4 ≤ k) : ∀ n, arV bf ru bv n k = bv k
  | 0 => rfl
  | n + 1 => by rw [arV, aoV_hi hk, arV_hi hk n]
/-- the first n rules applied -/
def arN (s : DS) (n : Nat) : DS := (s.1, s.2.1, s.2.2.1, s.2.2.2.1, arV (dF s) (dL s 4) (dL s) n, upM (dS s) 1 (arM (dF s) (dL s 4) (dL s) (dS s 1) n), dB s)
theorem arN_0 {s : DS} : arN s 0 = s := by
  unfold arN
  rw [arV, arM, upM_self]
theorem arN_D {s : DS} : arN s ((dL s 4).length / 4) = arD s := by
  unfold arN arD
  congr 5
  funext k
  split
  · rfl
  · exact arV_hi (by omega) _
theorem arN_s {s : DS} {n : Nat} : obD (arN s n) ((dL s 4).getD (4 * n) 0) ((dL s 4).getD (4 * n + 1) 0) ((dL s 4).getD (4 * n + 2) 0) ((dL s 4).getD (4 * n + 3) 0) = arN s (n + 1) := by
  unfold obD arN
  rw [arV, arM]
  simp only [dF, dL, dS, dB, upM_up]
  rfl
theorem arN_4 {s : DS} {n : Nat} : dL (arN s n) 4 = dL s 4 := arV_hi (by decide) n
theorem okE_arN {s : DS} (h : okE s) (n : Nat) : okE (arN s n) := by
  obtain ⟨v, bf, lm, ct, L, S, B⟩ := s
  obtain ⟨e1, e2, e3, e4, e5⟩ := h
  refine ⟨fun k hk => ?_, ⟨?_, ?_⟩, ?_, ⟨e4.1, shO_ar e4.2.1 n, e4.2.2⟩, e5⟩
  · show (arV bf (L 4) L n k).length ≤ 400 ∧ bf k + (arV bf (L 4) L n k).length ≤ 65536
    rw [arV_len]
    exact e1 k hk
  · exact arV_b (by decide) e2.1
  · exact arV_b (by decide) e2.2
  · show (arV bf (L 4) L n 4).length ≤ 48 ∧ (arV bf (L 4) L n 5).length ≤ 64 ∧ (arV bf (L 4) L n 6).length ≤ 256 ∧ (arV bf (L 4) L n 7).length ≤ 253 ∧ ((arV bf (L 4) L n 7).length = 0 → v 17 = 0)
    rw [arV_hi (by decide), arV_hi (by decide), arV_hi (by decide), arV_hi (by decide)]
    exact e3
