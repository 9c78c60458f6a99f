/-! a device of the reference, some of its parts in sight -/
theorem foc_o {P : sA} {F X L R : List sA} {h : eH} (n : Nat) (ns rs : List Nat) (hp : (ns ++ rs).isPerm (List.range n) = true) (hn : F.length = n) (h1 : ns.filterMap (fun i => F[i]?) = L) (h2 : rs.filterMap (fun i => F[i]?) = R) (k : stars ((P :: F) ++ X) h) : stars (P :: (L ++ ((fun h => stars R h) :: X))) h := by
  subst h1
  subst h2
  have k1 : star P (stars (F ++ X)) h := k
  refine star_mono k1 (fun _ z => z) (fun h2 z => ?_)
  have z2 := star_mono ((stars_app F X).mp z) (fun _ y => stars_ixn (L' := (ns ++ rs).filterMap (fun i => F[i]?)) y n hn (ns ++ rs) hp rfl) (fun _ y => y)
  rw [List.filterMap_append] at z2
  have z3 := star_assoc' (star_mono z2 (fun _ y => (stars_app _ _).mp y) (fun _ y => y))
  exact (stars_app _ _).mpr z3
theorem foc_c {P : sA} {F X L R : List sA} {h : eH} (n : Nat) (ns rs : List Nat) (hp : (ns ++ rs).isPerm (List.range n) = true) (hn : F.length = n) (h1 : ns.filterMap (fun i => F[i]?) = L) (h2 : rs.filterMap (fun i => F[i]?) = R) (k : stars (P :: (L ++ ((fun h => stars R h) :: X))) h) : stars ((P :: F) ++ X) h := by
  subst h1
  subst h2
  have k1 : star P (stars (ns.filterMap (fun i => F[i]?) ++ ((fun h => stars (rs.filterMap (fun i => F[i]?)) h) :: X))) h := k
  show star P (stars (F ++ X)) h
  refine star_mono k1 (fun _ z => z) (fun h2 z => ?_)
  refine (stars_app _ X).mpr ?_
  refine star_mono (star_assoc ((stars_app _ _).mp z)) (fun h3 y => ?_) (fun _ y => y)
  have y2 : stars ((ns ++ rs).filterMap (fun i => F[i]?)) h3 := by
    rw [List.filterMap_append]
    exact (stars_app _ _).mpr y
  have p : (ns ++ rs).Perm (List.range F.length) := by rw [hn]; exact List.isPerm_iff.mp hp
  have p2 := p.filterMap (fun i => F[i]?)
  rw [fm_range] at p2
  exact stars_perm p2 y2
/-! one row of an array of arrays in sight -/
def grP (a n i b : Nat) (h : eH) : Prop := ∃ g : Nat → Option Nat, h a = some (.inl (7, n, .inr (.inr (.inr (.inr g))))) ∧ g i = some b
theorem grP.up {a n i b : Nat} {h1 h : eH} (k : grP a n i b h1) (hs : hsub h1 h) : grP a n i b h := by
  obtain ⟨g, h2, h3⟩ := k
  exact ⟨g, hs _ _ h2, h3⟩
theorem grP_V (L : List sA) (j : Nat) {R : sA} {a n i b : Nat} {h : eH} (hL : stars L h) (hj : L[j]? = some R) (hR : ∀ h, R h → grP a n i b h) : grP a n i b h := by
  obtain ⟨h1, p, e⟩ := stars_part L j hL hj
  exact (hR h1 p).up e
theorem grd_at {a n rm i : Nat} {C : Nat → List Nat} {K : List sA} {h : eH} (hi : i < n) (k : stars (grd a n rm C :: K) h) : ∃ (b : Nat) (R : sA), stars (iar b rm (C i) :: R :: K) h ∧ (∀ h, R h → grP a n i b h) ∧ ∀ (r' : List Nat) (K' : List sA) (h' : eH), stars (iar b rm r' :: R :: K') h' → stars (grd a n rm (upL C i r') :: K') h' := by
  obtain ⟨BL, g, k⟩ := grd_o k
  obtain ⟨b, hb⟩ := gOK_at g hi
  have hl := (List.getElem?_eq_some_iff.mp hb).1
  refine ⟨b, fun h => stars [pt a (.inl (7, n, .inr (.inr (.inr (.inr (adP BL)))))), lst (iaE rm) (BL.eraseIdx i)] h, ?_, ?_, ?_⟩
  · have k1 := stars_perm (List.Perm.swap _ _ _) k
    have k2 := lst_o i hb k1
    have k3 : star (iar b rm (C i)) (star (lst (iaE rm) (BL.eraseIdx i)) (star (pt a (.inl (7, n, .inr (.inr (.inr (.inr (adP BL))))))) (stars K))) h := k2
    refine star_mono k3 (fun _ z => z) (fun _ z => ?_)
    exact star_mono (star_assoc z) (fun _ y => star_mono (star_comm y) (fun _ x => x) (fun _ x => stars_of x)) (fun _ y => y)
  · intro h' k'
    exact ⟨adP BL, stars_at _ 0 k' rfl, adP_at hb⟩
  · intro r' K' h' k'
    have k1 : stars ([iar b rm r'] ++ (fun h => stars [pt a (.inl (7, n, .inr (.inr (.inr (.inr (adP BL)))))), lst (iaE rm) (BL.eraseIdx i)] h) :: K') h' := k'
    have k2 := stars_perm (List.perm_middle) k1
    have k3 := stars_open k2 (K := [pt a (.inl (7, n, .inr (.inr (.inr (.inr (adP BL)))))), lst (iaE rm) (BL.eraseIdx i)]) (fun _ z => z)
    have k4 := stars_perm (L' := iar b rm r' :: lst (iaE rm) (BL.eraseIdx i) :: pt a (.inl (7, n, .inr (.inr (.inr (.inr (adP BL)))))) :: K') (((List.Perm.swap _ _ _).trans ((List.Perm.swap _ _ _).cons _)).trans ((List.Perm.swap _ _ _).trans (List.Perm.refl _)) |>.trans (List.Perm.refl _)) k3
    have k5 := lst_c (f := iaE rm) (x := (b, r')) i hl k4
    have k6 := stars_perm (List.Perm.swap _ _ _) k5
    rw [adP_set hb r'] at k6
    exact grd_c (gOK_set g hb) k6
section ER
variable {M : MD} {fr lo mc ms : Nat} {Q : Option Value → eH → Prop} {pc ce sl : Nat} {ls : List (Option Value)} {st : List Value} {h : eH}
theorem v_aaldP (np : Nat) {a n i b : Nat} (hP : grP a n i b h) (hd : decode M.2.1 pc = .ok (.aaload, 1)) (hn : pc + 1 = np) (hi : i < n) (hb : n < 2 ^ 31) (kk : EE M fr lo mc ms Q np ls (.ref b :: st) h ce sl) : EE M fr lo mc ms Q pc ls (.int (nI i) :: .ref a :: st) h ce sl := by
  obtain ⟨g, ha, hg⟩ := hP
  exact e_aald np (v := .ref b) hd hn ha rfl (Or.inr ⟨_, rfl⟩) (vp_in_nI (by omega) (by omega)) (by rw [nI_clamp (by omega), hg]; rfl) kk
end ER
theorem iar_raw {a n : Nat} {r : List Nat} {K : List sA} {h : eH} (k : stars (iar a n r :: K) h) : ∃ f : Nat → Int32, (r.length ≤ n ∧ ∀ i, i < r.length → f i = nI (r.getD i 0)) ∧ stars (pt a (.inl (0, n, .inl f)) :: K) h := by
  obtain ⟨h1, h2, hu, hj, ⟨f, c, p⟩, q⟩ := k
  exact ⟨f, c, h1, h2, hu, hj, p, q⟩
theorem iar_of {a n : Nat} {r : List Nat} {K : List sA} {h : eH} {f : Nat → Int32} (hc : r.length ≤ n ∧ ∀ i, i < r.length → f i = nI (r.getD i 0)) (k : stars (pt a (.inl (0, n, .inl f)) :: K) h) : stars (iar a n r :: K) h := stars_to k (fun _ p => ⟨f, hc, p⟩)
