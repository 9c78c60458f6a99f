/-! the reference's rows, station and whole state -/
abbrev EN : Type := List Nat × List Nat
def rE1 (E : List EN) (i : Nat) : List Nat := (E.getD i ([], [])).1
def rE2 (E : List EN) (i : Nat) : List Nat := (E.getD i ([], [])).2
def rZ (E : List EN) : List Nat := E.map (·.1.length)
theorem rZ_len {E : List EN} : (rZ E).length = E.length := by simp [rZ]
theorem rZ_at {E : List EN} {i : Nat} : (rZ E).getD i 0 = (rE1 E i).length := by
  simp only [rZ, rE1, List.getD, List.getElem?_map]
  cases E[i]? <;> rfl
theorem rE1_app {E : List EN} {x : EN} {i : Nat} : rE1 (E ++ [x]) i = if i = E.length then x.1 else rE1 E i := by
  simp only [rE1, List.getD]
  by_cases h : i < E.length
  · rw [List.getElem?_append_left h, if_neg (by omega)]
  · by_cases h2 : i = E.length
    · subst h2; simp
    · rw [if_neg h2, List.getElem?_eq_none (by simp; omega), List.getElem?_eq_none (by omega)]
theorem rE2_app {E : List EN} {x : EN} {i : Nat} : rE2 (E ++ [x]) i = if i = E.length then x.2 else rE2 E i := by
  simp only [rE2, List.getD]
  by_cases h : i < E.length
  · rw [List.getElem?_append_left h, if_neg (by omega)]
  · by_cases h2 : i = E.length
    · subst h2; simp
    · rw [if_neg h2, List.getElem?_eq_none (by simp; omega), List.getElem?_eq_none (by omega)]
theorem rE1_out {E : List EN} {i : Nat} (h : E.length ≤ i) : rE1 E i = [] := by simp [rE1, List.getD, List.getElem?_eq_none h]
theorem rE2_out {E : List EN} {i : Nat} (h : E.length ≤ i) : rE2 E i = [] := by simp [rE2, List.getD, List.getElem?_eq_none h]
theorem rE1_tail {E : List EN} {i : Nat} : rE1 E.tail i = rE1 E (i + 1) := by cases E <;> simp [rE1, List.getD]
theorem rE2_tail {E : List EN} {i : Nat} : rE2 E.tail i = rE2 E (i + 1) := by cases E <;> simp [rE2, List.getD]
abbrev rro (a : Nat) (A : Nat → Nat) (k : Nat) : sA := pt a (.inr (11, [.ref (A 0), .ref (A 1), .ref (A 2), .int (nI k)]))
def rrw (a n nm : Nat) (E : List EN) : sA := fun h => ∃ A : Nat → Nat, E.length ≤ n ∧ stars [rro a A E.length, grd (A 0) n 256 (rE1 E), iar (A 1) n (rZ E), grd (A 2) n nm (rE2 E)] h
theorem rrw_O {a n nm : Nat} {E : List EN} : isO (rrw a n nm E) a 11 := by
  rintro h ⟨A, -, k⟩
  exact ⟨_, stars_at _ 0 k rfl⟩
theorem rrw_o {a n nm : Nat} {E : List EN} {X : List sA} {h : eH} (k : stars (rrw a n nm E :: X) h) : ∃ A : Nat → Nat, E.length ≤ n ∧ stars (rro a A E.length :: grd (A 0) n 256 (rE1 E) :: iar (A 1) n (rZ E) :: grd (A 2) n nm (rE2 E) :: X) h := by
  obtain ⟨h1, h2, hu, hj, ⟨A, l, k⟩, q⟩ := k
  exact ⟨A, l, (stars_app [_, _, _, _] X).mpr ⟨h1, h2, hu, hj, k, q⟩⟩
theorem rrw_c {a n nm : Nat} {E : List EN} {A : Nat → Nat} {X : List sA} {h : eH} (l : E.length ≤ n) (k : stars (rro a A E.length :: grd (A 0) n 256 (rE1 E) :: iar (A 1) n (rZ E) :: grd (A 2) n nm (rE2 E) :: X) h) : stars (rrw a n nm E :: X) h := stars_close (K := [_, _, _, _]) k (fun h' k' => ⟨A, l, k'⟩)
def rrV (a n nm : Nat) (E : List EN) (h : eH) : Prop := ∃ A : Nat → Nat, h a = some (.inr (11, [.ref (A 0), .ref (A 1), .ref (A 2), .int (nI E.length)])) ∧ grR (A 0) n 256 (rE1 E) h ∧ iaR (A 1) n (rZ E) h ∧ grR (A 2) n nm (rE2 E) h ∧ E.length ≤ n
theorem rrw_V (L : List sA) (i : Nat) {a n nm : Nat} {E : List EN} {h : eH} (hL : stars L h) (hi : L[i]? = some (rrw a n nm E)) : rrV a n nm E h := by
  obtain ⟨h1, ⟨A, l, k⟩, e⟩ := stars_part L i hL hi
  exact ⟨A, e _ _ (stars_at _ 0 k rfl), (grd_V _ 1 k rfl).up e, (iar_V _ 2 k rfl).up e, (grd_V _ 3 k rfl).up e, l⟩
/-! the station of the reference's master -/
def rst (s : Nat) (r : List Nat) (q : Nat) (sp ov : Bool) : sA := fun h => ∃ a, stars [pt s (.inr (12, [.ref a, .int (nI r.length), .int (nI q), .int (bI sp), .int (bI ov)])), iar a 256 r] h
theorem rst_O {s : Nat} {r : List Nat} {q : Nat} {sp ov : Bool} : isO (rst s r q sp ov) s 12 := by
  rintro h ⟨a, k⟩
  exact ⟨_, stars_at _ 0 k rfl⟩
theorem rst_o {s : Nat} {r : List Nat} {q : Nat} {sp ov : Bool} {X : List sA} {h : eH} (k : stars (rst s r q sp ov :: X) h) : ∃ a, stars (pt s (.inr (12, [.ref a, .int (nI r.length), .int (nI q), .int (bI sp), .int (bI ov)])) :: iar a 256 r :: X) h := by
  obtain ⟨h1, h2, hu, hj, ⟨a, k⟩, z⟩ := k
  exact ⟨a, (stars_app [_, _] X).mpr ⟨h1, h2, hu, hj, k, z⟩⟩
theorem rst_c {s a : Nat} {r : List Nat} {q : Nat} {sp ov : Bool} {X : List sA} {h : eH} (k : stars (pt s (.inr (12, [.ref a, .int (nI r.length), .int (nI q), .int (bI sp), .int (bI ov)])) :: iar a 256 r :: X) h) : stars (rst s r q sp ov :: X) h := stars_close (K := [_, _]) k (fun h' k' => ⟨a, k'⟩)
theorem rst_V (L : List sA) (i : Nat) {s : Nat} {r : List Nat} {q : Nat} {sp ov : Bool} {h : eH} (hL : stars L h) (hi : L[i]? = some (rst s r q sp ov)) : ∃ a, h s = some (.inr (12, [.ref a, .int (nI r.length), .int (nI q), .int (bI sp), .int (bI ov)])) ∧ iaR a 256 r h := by
  obtain ⟨h1, ⟨a, k⟩, e⟩ := stars_part L i hL hi
  exact ⟨a, e _ _ (stars_at _ 0 k rfl), (iar_V _ 1 k rfl).up e⟩
/-! the whole -/
def rqE (e : RQE) : EN := (e.1, [e.2.2.1, e.2.1, e.2.2.2])
def rsE (e : RSE) : EN := (e.1, [e.2.1, e.2.2.2.2.1, e.2.2.2.2.2, e.2.2.2.1, e.2.2.1])
def oN : Option Nat → Nat
  | none => 4294967295
  | some k => k
theorem oN_I (o : Option Nat) : nI (oN o) = oI o := by cases o <;> first | rfl | decide
def scE (e : SCE) : EN := (e.1, [e.2.2.1, e.2.1, e.2.2.2.1, oN e.2.2.2.2])
def mW (g : GS) (th an lt lf : Nat) : Nat → Nat := fun i => [th, 0, g.2.2.1.length, 0, an, 0, 0, g.2.2.2.2.1.1 1, g.2.2.2.2.1.1 2, g.2.2.2.2.1.1 3, g.2.2.2.2.1.1 4, g.2.2.2.2.1.1 5, 0, 0, 0, g.2.2.2.2.1.1 9, g.2.2.2.2.1.1 13, g.2.2.2.2.1.1 14, g.2.2.2.2.2, g.2.2.2.1.2.1 2, g.2.2.2.1.2.1 1, 0, g.2.2.2.1.1.length, g.2.2.2.1.2.1 10, g.2.2.2.1.2.1 3, 0, lt, lf, g.2.2.2.1.2.1 6, g.2.2.2.1.2.1 8, g.2.2.2.1.2.1 9, 0, 0, g.2.2.2.1.2.2.length, 0, g.1.length, 0, g.2.1.length].getD i 0
def rdve (e : Nat × DS) : sA := rdv e.1 e.2
/-- a device before it is one -/
def dsZ : DS := dsN 0 0 0
abbrev ar6 (a : Nat) (K : List (Nat × DS)) : sA := pt a (.inl (6, 6, .inr (.inr (.inr (.inr (adD K))))))
def rfC (g : GS) (DL : List (Nat × DS)) (lt lf : Nat) : Prop := DL.map (·.2) = g.2.2.1 ++ List.replicate (6 - g.2.2.1.length) dsZ ∧ g.2.2.1.length ≤ 6 ∧ (g.2.2.2.1.2.1 5 ≠ 0 → lt = g.2.2.2.1.2.1 4 ∧ lf = g.2.2.2.1.2.1 5)
abbrev rfL (m : Nat) (g : GS) (F : Nat → Nat) (th lt lf : Nat) (AN PD : List Nat) (DL : List (Nat × DS)) : List sA := [rmo m F (mW g th AN.length lt lf) (decide (g.2.2.2.1.2.1 5 ≠ 0)), ar6 (F 1) DL, lst rdve DL, iar (F 3) 300 AN, iar (F 5) 260 PD, rst (F 6) g.2.2.2.2.1.2.2.2.2.1 (g.2.2.2.2.1.1 20) (g.2.2.2.2.1.2.2.2.2.2 1) (g.2.2.2.2.1.2.2.2.2.2 2), rrw (F 12) 16 3 (g.2.2.2.2.1.2.1.map rqE), rrw (F 13) 32 5 (g.2.2.2.2.1.2.2.1.map rsE), rrw (F 14) 8 4 (g.2.2.2.2.1.2.2.2.1.map scE), iar (F 21) 260 g.2.2.2.1.1, iar (F 31) 64 (g.2.2.2.1.2.2.map (·.1)), iar (F 32) 64 (g.2.2.2.1.2.2.map (·.2)), iar (F 34) 400 g.1, iar (F 36) 300 g.2.1]
def rfo (m : Nat) (g : GS) (th : Nat) : sA := fun h => ∃ (F : Nat → Nat) (lt lf : Nat) (AN PD : List Nat) (DL : List (Nat × DS)), rfC g DL lt lf ∧ stars (rfL m g F th lt lf AN PD DL) h
theorem rfo_O {m : Nat} {g : GS} {th : Nat} : isO (rfo m g th) m 13 := by
  rintro h ⟨F, lt, lf, AN, PD, DL, -, k⟩
  exact ⟨_, stars_at _ 0 k rfl⟩
theorem rfo_o {m : Nat} {g : GS} {th : Nat} {X : List sA} {h : eH} (k : stars (rfo m g th :: X) h) : ∃ (F : Nat → Nat) (lt lf : Nat) (AN PD : List Nat) (DL : List (Nat × DS)), rfC g DL lt lf ∧ stars (rfL m g F th lt lf AN PD DL ++ X) h := by
  obtain ⟨h1, h2, hu, hj, ⟨F, lt, lf, AN, PD, DL, c, k⟩, z⟩ := k
  exact ⟨F, lt, lf, AN, PD, DL, c, (stars_app _ X).mpr ⟨h1, h2, hu, hj, k, z⟩⟩
theorem rfo_c {m : Nat} {g : GS} {th : Nat} {F : Nat → Nat} {lt lf : Nat} {AN PD : List Nat} {DL : List (Nat × DS)} {X : List sA} {h : eH} (c : rfC g DL lt lf) (k : stars (rfL m g F th lt lf AN PD DL ++ X) h) : stars (rfo m g th :: X) h := stars_close k (fun h' k' => ⟨F, lt, lf, AN, PD, DL, c, k'⟩)
