/-! rows of the reference: adding one, changing what it tells, the first one goes -/
theorem stars_2 {P P' : sA} {Q0 : sA} {X : List sA} {h : eH} (k : stars (Q0 :: P :: X) h) (o : ∀ (Y : List sA) h, stars (P :: Y) h → stars (P' :: Y) h) : stars (Q0 :: P' :: X) h := star_mono k (fun _ z => z) (fun h2 z => o X h2 z)
theorem rrw_add {a n nm : Nat} {E : List EN} {A : Nat → Nat} {r : List Nat} {X : List sA} {h : eH} (hl : E.length < n) (k : stars (rro a A (E.length + 1) :: grd (A 0) n 256 (upL (rE1 E) E.length r) :: iar (A 1) n (rZ E ++ [r.length]) :: grd (A 2) n nm (rE2 E) :: X) h) : stars (rrw a n nm (E ++ [(r, [])]) :: X) h := by
  have e1 : (E ++ [(r, ([] : List Nat))]).length = E.length + 1 := by simp
  refine rrw_c (A := A) (by rw [e1]; omega) ?_
  rw [e1, show rZ (E ++ [(r, ([] : List Nat))]) = rZ E ++ [r.length] by simp [rZ]]
  have k1 := stars_2 k (fun Y h2 z => grd_cg (C' := rE1 (E ++ [(r, [])])) (fun i _ => by rw [rE1_app]; rfl) z)
  refine star_mono k1 (fun _ z => z) (fun h2 z => star_mono z (fun _ y => y) (fun h3 y => star_mono y (fun _ x => x) (fun h4 x => ?_)))
  refine grd_cg (C := rE2 E) (fun i _ => ?_) x
  rw [rE2_app]
  by_cases e : i = E.length
  · rw [if_pos e, rE2_out (by omega)]
  · rw [if_neg e]
theorem rE_set {E : List EN} {j i : Nat} {l : List Nat} (hj : j < E.length) : rE1 (E.set j (rE1 E j, l)) i = rE1 E i ∧ rE2 (E.set j (rE1 E j, l)) i = upL (rE2 E) j l i := by
  by_cases e : i = j
  · subst e
    refine ⟨by simp [rE1, List.getD, hj], ?_⟩
    rw [upL_s]
    simp [rE2, List.getD, hj]
  · refine ⟨by simp only [rE1, List.getD, List.getElem?_set_ne (Ne.symm e)], ?_⟩
    rw [upL_n e]
    simp only [rE2, List.getD, List.getElem?_set_ne (Ne.symm e)]
theorem rrw_st {a n nm j : Nat} {E : List EN} {A : Nat → Nat} {l : List Nat} {X : List sA} {h : eH} (hn : E.length ≤ n) (hj : j < E.length) (k : stars (rro a A E.length :: grd (A 0) n 256 (rE1 E) :: iar (A 1) n (rZ E) :: grd (A 2) n nm (upL (rE2 E) j l) :: X) h) : stars (rrw a n nm (E.set j (rE1 E j, l)) :: X) h := by
  refine rrw_c (A := A) (by rw [List.length_set]; exact hn) ?_
  have ez : rZ (E.set j (rE1 E j, l)) = rZ E := by
    refine List.ext_getElem (by simp [rZ]) (fun i h1 h2 => ?_)
    simp only [rZ, List.getElem_map, List.getElem_set]
    split
    · rename_i e
      subst e
      simp [rE1, List.getD, hj]
    · rfl
  rw [List.length_set, ez]
  have k1 := stars_2 k (fun Y h2 z => grd_cg (C' := rE1 (E.set j (rE1 E j, l))) (fun i _ => ((rE_set hj).1).symm) z)
  refine star_mono k1 (fun _ z => z) (fun h2 z => star_mono z (fun _ y => y) (fun h3 y => star_mono y (fun _ x => x) (fun h4 x => ?_)))
  exact grd_cg (fun i _ => ((rE_set hj).2).symm) x
theorem set_app {E : List EN} {x y : EN} : (E ++ [x]).set E.length y = E ++ [y] := by simp
/-! the first one goes -/
theorem goes_o {a n nm : Nat} {E : List EN} {X : List sA} {h : eH} (k : stars (rrw a n nm E :: X) h) : ∃ (A : Nat → Nat) (B1 B2 : List (Nat × List Nat)) (f : Nat → Int32), (E.length ≤ n ∧ gOK n (rE1 E) B1 ∧ gOK n (rE2 E) B2 ∧ ∀ i, i < E.length → f i = nI ((rZ E).getD i 0)) ∧ stars (rro a A E.length :: pt (A 0) (.inl (7, n, .inr (.inr (.inr (.inr (adP B1)))))) :: pt (A 1) (.inl (0, n, .inl f)) :: pt (A 2) (.inl (7, n, .inr (.inr (.inr (.inr (adP B2)))))) :: lst (iaE 256) B1 :: lst (iaE nm) B2 :: X) h := by
  obtain ⟨A, hl, k⟩ := rrw_o k
  have k1 := stars_perm (List.Perm.swap _ _ _) k
  obtain ⟨B1, g1, k2⟩ := grd_o k1
  have k3 := stars_perm (L' := grd (A 2) n nm (rE2 E) :: rro a A E.length :: pt (A 0) (.inl (7, n, .inr (.inr (.inr (.inr (adP B1)))))) :: lst (iaE 256) B1 :: iar (A 1) n (rZ E) :: X) (by
    refine List.Perm.trans ?_ (List.perm_middle (l₁ := [rro a A E.length, pt (A 0) (.inl (7, n, .inr (.inr (.inr (.inr (adP B1)))))), lst (iaE 256) B1, iar (A 1) n (rZ E)]) (l₂ := X) (a := grd (A 2) n nm (rE2 E)))
    exact (List.Perm.swap _ _ _).trans ((List.Perm.swap _ _ _).cons _) |>.trans ((List.Perm.swap _ _ _).trans ((List.Perm.swap _ _ _).cons _ |>.trans (List.Perm.refl _)))) k2
  obtain ⟨B2, g2, k4⟩ := grd_o k3
  have k5 := stars_perm (L' := iar (A 1) n (rZ E) :: pt (A 2) (.inl (7, n, .inr (.inr (.inr (.inr (adP B2)))))) :: lst (iaE nm) B2 :: rro a A E.length :: pt (A 0) (.inl (7, n, .inr (.inr (.inr (.inr (adP B1)))))) :: lst (iaE 256) B1 :: X) ((List.perm_middle (l₁ := [pt (A 2) (.inl (7, n, .inr (.inr (.inr (.inr (adP B2)))))), lst (iaE nm) B2, rro a A E.length, pt (A 0) (.inl (7, n, .inr (.inr (.inr (.inr (adP B1)))))), lst (iaE 256) B1]) (l₂ := X) (a := iar (A 1) n (rZ E)))) k4
  obtain ⟨f, ⟨-, hf⟩, k6⟩ := iar_raw k5
  refine ⟨A, B1, B2, f, ⟨hl, g1, g2, fun i hi => hf i (by rw [rZ_len]; exact hi)⟩, ?_⟩
  have k7 := (stars_app [pt (A 1) (.inl (0, n, .inl f)), pt (A 2) (.inl (7, n, .inr (.inr (.inr (.inr (adP B2)))))), lst (iaE nm) B2, rro a A E.length, pt (A 0) (.inl (7, n, .inr (.inr (.inr (.inr (adP B1)))))), lst (iaE 256) B1] X).mp k6
  exact (stars_app [_, _, _, _, _, _] X).mpr (star_mono k7 (fun _ y => stars_ixn y 6 rfl [3, 4, 0, 1, 5, 2] (by decide) rfl) (fun _ y => y))
theorem rot_ok {n rm k : Nat} {C C' : Nat → List Nat} {B : List (Nat × List Nat)} {g : Nat → Option Nat} {X : List sA} {h : eH} {a b : Nat} (hB : gOK n C B) (hk : 1 ≤ k ∧ k ≤ n) (hb : adP B 0 = some b) (h1 : ∀ j, j + 1 < k → g j = adP B (j + 1)) (h2 : ∀ j, k ≤ j → g j = adP B j) (c1 : ∀ j, j + 1 < k → C' j = C (j + 1)) (c2 : ∀ j, k ≤ j + 1 → C' j = []) (hC : ∀ j, k ≤ j → C j = []) (q : stars (pt a (.inl (7, n, .inr (.inr (.inr (.inr (va_up g (k - 1) (some b))))))) :: lst (iaE rm) B :: X) h) : stars (grd a n rm C' :: X) h := by
  have hlen := hB.1
  match B, hB, hb, h1, h2, q, hlen with
  | [], _, hb, _, _, _, _ => simp [adP] at hb
  | (b0, r0) :: t, hB, hb, h1, h2, q, hlen =>
    have eb : b0 = b := by simpa [adP] using hb
    subst eb
    have htl : t.length + 1 = n := by simpa using hlen
    have q1 := stars_perm (List.Perm.swap _ _ _) q
    have q2 := lst_o (f := iaE rm) 0 (x := (b0, r0)) rfl q1
    have q3 : stars (iaE rm (b0, []) :: lst (iaE rm) (((b0, r0) :: t).eraseIdx 0) :: pt a (.inl (7, n, .inr (.inr (.inr (.inr (va_up g (k - 1) (some b0))))))) :: X) h := stars_to q2 (fun _ ⟨f, _, p⟩ => ⟨f, ⟨Nat.zero_le _, fun j hj => absurd hj (Nat.not_lt_zero j)⟩, p⟩)
    have q4 := lst_c (f := iaE rm) (L := (b0, r0) :: t) 0 (by simp) q3
    have q5 : stars (lst (iaE rm) (t.take (k - 1) ++ (b0, []) :: t.drop (k - 1)) :: pt a (.inl (7, n, .inr (.inr (.inr (.inr (va_up g (k - 1) (some b0))))))) :: X) h := by
      refine star_mono q4 (fun _ y => stars_perm (List.Perm.map _ ?_) y) (fun _ y => y)
      show ((b0, ([] : List Nat)) :: t).Perm _
      refine List.Perm.trans ?_ List.perm_middle.symm
      rw [List.take_append_drop]
    have q6 := stars_perm (List.Perm.swap _ _ _) q5
    have hget : ∀ j, (t.take (k - 1) ++ (b0, ([] : List Nat)) :: t.drop (k - 1))[j]? = if j + 1 < k then t[j]? else if j + 1 = k then some (b0, []) else t[j - 1]? := by
      intro j
      have hl9 : (t.take (k - 1)).length = k - 1 := by rw [List.length_take]; omega
      by_cases z1 : j + 1 < k
      · rw [if_pos z1, List.getElem?_append_left (by omega), List.getElem?_take_of_lt (by omega)]
      · rw [if_neg z1, List.getElem?_append_right (by omega), hl9]
        by_cases z2 : j + 1 = k
        · rw [if_pos z2, show j - (k - 1) = 0 by omega]; rfl
        · rw [if_neg z2, show j - (k - 1) = (j - k) + 1 by omega, List.getElem?_cons_succ, List.getElem?_drop, show k - 1 + (j - k) = j - 1 by omega]
    have hcons : ∀ j, ((b0, r0) :: t)[j + 1]? = t[j]? := fun j => rfl
    have eP : adP (t.take (k - 1) ++ (b0, []) :: t.drop (k - 1)) = va_up g (k - 1) (some b0) := by
      funext j
      show ((t.take (k - 1) ++ (b0, ([] : List Nat)) :: t.drop (k - 1))[j]?).map (·.1) = _
      rw [hget j]
      by_cases z1 : j + 1 < k
      · rw [if_pos z1]
        have : va_up g (k - 1) (some b0) j = g j := by simp [va_up, show j ≠ k - 1 by omega]
        rw [this, h1 j z1]
        rfl
      · rw [if_neg z1]
        by_cases z2 : j + 1 = k
        · rw [if_pos z2, show j = k - 1 by omega]; simp [va_up]
        · rw [if_neg z2]
          have : va_up g (k - 1) (some b0) j = g j := by simp [va_up, show j ≠ k - 1 by omega]
          rw [this, h2 j (by omega)]
          show _ = (((b0, r0) :: t)[j]?).map (·.1)
          rw [show j = (j - 1) + 1 by omega, hcons, Nat.add_sub_cancel]
    rw [← eP] at q6
    refine grd_c ⟨?_, fun j e he => ?_⟩ q6
    · rw [List.length_append, List.length_take, List.length_cons, List.length_drop]; omega
    · rw [hget j] at he
      by_cases z1 : j + 1 < k
      · rw [if_pos z1, ← hcons] at he
        rw [hB.2 (j + 1) e he, c1 j z1]
      · rw [if_neg z1] at he
        by_cases z2 : j + 1 = k
        · rw [if_pos z2] at he; cases he; exact (c2 j (by omega)).symm
        · rw [if_neg z2, ← hcons, show j - 1 + 1 = j by omega] at he
          rw [hB.2 j e he, hC j (by omega), c2 j (by omega)]
theorem goes_c {a n nm : Nat} {E : List EN} {A : Nat → Nat} {B1 B2 : List (Nat × List Nat)} {f z : Nat → Int32} {g1 g2 : Nat → Option Nat} {b1 b2 : Nat} {X : List sA} {h : eH} (hE : 1 ≤ E.length) (hn : E.length ≤ n) (o1 : gOK n (rE1 E) B1) (o2 : gOK n (rE2 E) B2) (hf : ∀ i, i < E.length → f i = nI ((rZ E).getD i 0)) (e1 : adP B1 0 = some b1) (e2 : adP B2 0 = some b2) (p1 : ∀ j, j + 1 < E.length → g1 j = adP B1 (j + 1)) (q1 : ∀ j, E.length ≤ j → g1 j = adP B1 j) (p2 : ∀ j, j + 1 < E.length → g2 j = adP B2 (j + 1)) (q2 : ∀ j, E.length ≤ j → g2 j = adP B2 j) (pz : ∀ j, j + 1 < E.length → z j = f (j + 1)) (k : stars (rro a A (E.length - 1) :: pt (A 0) (.inl (7, n, .inr (.inr (.inr (.inr (va_up g1 (E.length - 1) (some b1))))))) :: pt (A 1) (.inl (0, n, .inl z)) :: pt (A 2) (.inl (7, n, .inr (.inr (.inr (.inr (va_up g2 (E.length - 1) (some b2))))))) :: lst (iaE 256) B1 :: lst (iaE nm) B2 :: X) h) : stars (rrw a n nm E.tail :: X) h := by
  have hz : (rZ E.tail).length ≤ n ∧ ∀ i, i < (rZ E.tail).length → z i = nI ((rZ E.tail).getD i 0) := by
    rw [rZ_len, List.length_tail]
    refine ⟨by omega, fun i hi => ?_⟩
    rw [pz i (by omega), hf (i + 1) (by omega), rZ_at, rZ_at, rE1_tail]
  have k1 := (stars_app [rro a A (E.length - 1), pt (A 0) (.inl (7, n, .inr (.inr (.inr (.inr (va_up g1 (E.length - 1) (some b1))))))), pt (A 1) (.inl (0, n, .inl z)), pt (A 2) (.inl (7, n, .inr (.inr (.inr (.inr (va_up g2 (E.length - 1) (some b2))))))), lst (iaE 256) B1, lst (iaE nm) B2] X).mp k
  have k2 := (stars_app [pt (A 0) (.inl (7, n, .inr (.inr (.inr (.inr (va_up g1 (E.length - 1) (some b1))))))), lst (iaE 256) B1, pt (A 2) (.inl (7, n, .inr (.inr (.inr (.inr (va_up g2 (E.length - 1) (some b2))))))), lst (iaE nm) B2, pt (A 1) (.inl (0, n, .inl z)), rro a A (E.length - 1)] X).mpr (star_mono k1 (fun _ y => stars_ixn y 6 rfl [1, 4, 3, 5, 2, 0] (by decide) rfl) (fun _ y => y))
  have k3 := rot_ok (C' := rE1 E.tail) o1 ⟨hE, hn⟩ e1 p1 q1 (fun j _ => rE1_tail) (fun j hj => rE1_out (by rw [List.length_tail]; omega)) (fun j hj => rE1_out hj) k2
  have k4 := stars_perm (L' := pt (A 2) (.inl (7, n, .inr (.inr (.inr (.inr (va_up g2 (E.length - 1) (some b2))))))) :: lst (iaE nm) B2 :: grd (A 0) n 256 (rE1 E.tail) :: pt (A 1) (.inl (0, n, .inl z)) :: rro a A (E.length - 1) :: X) ((List.Perm.swap _ _ _).trans ((List.Perm.swap _ _ _).cons _)) k3
  have k5 := rot_ok (C' := rE2 E.tail) o2 ⟨hE, hn⟩ e2 p2 q2 (fun j _ => rE2_tail) (fun j hj => rE2_out (by rw [List.length_tail]; omega)) (fun j hj => rE2_out hj) k4
  have k6 := stars_perm (L' := pt (A 1) (.inl (0, n, .inl z)) :: grd (A 2) n nm (rE2 E.tail) :: grd (A 0) n 256 (rE1 E.tail) :: rro a A (E.length - 1) :: X) (((List.Perm.swap _ _ _).cons _).trans (List.Perm.swap _ _ _)) k5
  have k7 := iar_of hz k6
  refine rrw_c (A := A) (by rw [List.length_tail]; omega) ?_
  rw [List.length_tail]
  have k8 := (stars_app [iar (A 1) n (rZ E.tail), grd (A 2) n nm (rE2 E.tail), grd (A 0) n 256 (rE1 E.tail), rro a A (E.length - 1)] X).mp k7
  exact (stars_app [_, _, _, _] X).mpr (star_mono k8 (fun _ y => stars_ixn y 4 rfl [3, 2, 0, 1] (by decide) rfl) (fun _ y => y))
theorem shft {α : Type} {g f0 : Nat → α} {i : Nat} {u : α} {G : Nat → α} (hu : g i = u) (hG : ∀ j, G j = if j = i - 1 then u else g j) (h1 : ∀ j, j + 1 < i → g j = f0 (j + 1)) (h2 : ∀ j, i ≤ j + 1 → g j = f0 j) (hi : 1 ≤ i) : (∀ j, j + 1 < i + 1 → G j = f0 (j + 1)) ∧ ∀ j, i + 1 ≤ j + 1 → G j = f0 j := by
  refine ⟨fun j hj => ?_, fun j hj => ?_⟩
  · rw [hG]
    by_cases e : j = i - 1
    · rw [if_pos e, ← hu, h2 i (by omega), e, Nat.sub_add_cancel hi]
    · rw [if_neg e]; exact h1 j (by omega)
  · rw [hG, if_neg (by omega)]; exact h2 j (by omega)
