/-! FieldLine: the whole state. tape, last answer, devices, wire (frame, numbers, harms), master, clock -/
abbrev GS : Type := List Nat × List Nat × List DS × (List Nat × (Nat → Nat) × List (Nat × Nat)) × MS × Nat
def dve (e : Nat × DS) : sA := dev e.1 e.2
def adD (K : List (Nat × DS)) : Nat → Option Nat := fun i => K[i]?.map (·.1)
theorem adD_at {K : List (Nat × DS)} {i : Nat} {e : Nat × DS} (h : K[i]? = some e) : adD K i = some e.1 := by
  simp only [adD, h, Option.map_some]
theorem adD_set {K : List (Nat × DS)} {i : Nat} {e : Nat × DS} (h : K[i]? = some e) (x : DS) : adD K = adD (K.set i (e.1, x)) := by
  obtain ⟨hi, -⟩ := List.getElem?_eq_some_iff.mp h
  funext j
  by_cases q : j = i
  · subst q
    rw [adD_at h, adD_at (List.getElem?_set_self hi)]
  · simp only [adD, List.getElem?_set_ne (Ne.symm q)]
theorem adD_app {K : List (Nat × DS)} {q : Nat} {x : DS} : va_up (adD K) K.length (some q) = adD (K ++ [(q, x)]) := by
  funext j
  by_cases e : j = K.length
  · subst e
    simp [va_up, adD]
  · by_cases e2 : j < K.length
    · simp [va_up, adD, e, List.getElem?_append_left e2]
    · have h1 : K[j]? = none := List.getElem?_eq_none (by omega)
      have h2 : (K ++ [(q, x)])[j]? = none := List.getElem?_eq_none (by rw [List.length_append, List.length_singleton]; omega)
      simp [va_up, adD, e, h1, h2]
abbrev flO (o : Nat) (F : Nat → Nat) (n ck : Nat) : sA := pt o (.inr (9, [.ref (F 0), .ref (F 1), .ref (F 2), .ref (F 3), .ref (F 4), .int (nI n), .ref (F 6), .ref (F 7), .int (nI ck)]))
abbrev ar2 (a : Nat) (K : List (Nat × DS)) : sA := pt a (.inl (2, 6, .inr (.inr (.inr (.inr (adD K))))))
def flo (o : Nat) (g : GS) (z : HD) : sA := fun h => ∃ (F : Nat → Nat) (DL : List (Nat × DS)) (hr cm : List Nat), DL.map (·.2) = g.2.2.1 ∧ DL.length ≤ 6 ∧ stars [flO o F DL.length g.2.2.2.2.2, row (F 0) 400 g.1, row (F 1) 253 g.2.1, row (F 2) 253 hr, row (F 3) 253 cm, ar2 (F 4) DL, wire (F 6) g.2.2.2.1.1 g.2.2.2.1.2.1 g.2.2.2.1.2.2, mst (F 7) g.2.2.2.2.1 z, lst dve DL] h
theorem flo_O {o : Nat} {g : GS} {z : HD} : isO (flo o g z) o 9 := by
  rintro h ⟨F, DL, hr, cm, -, -, k⟩
  exact ⟨_, stars_at _ 0 k rfl⟩
theorem flo_o {o : Nat} {g : GS} {z : HD} {X : List sA} {h : eH} (k : stars (flo o g z :: X) h) : ∃ (F : Nat → Nat) (DL : List (Nat × DS)) (hr cm : List Nat), DL.map (·.2) = g.2.2.1 ∧ DL.length ≤ 6 ∧ stars ([flO o F DL.length g.2.2.2.2.2, row (F 0) 400 g.1, row (F 1) 253 g.2.1, row (F 2) 253 hr, row (F 3) 253 cm, ar2 (F 4) DL, wire (F 6) g.2.2.2.1.1 g.2.2.2.1.2.1 g.2.2.2.1.2.2, mst (F 7) g.2.2.2.2.1 z, lst dve DL] ++ X) h := by
  obtain ⟨h1, h2, hu, hj, ⟨F, DL, hr, cm, p1, p2, k⟩, q⟩ := k
  exact ⟨F, DL, hr, cm, p1, p2, (stars_app _ X).mpr ⟨h1, h2, hu, hj, k, q⟩⟩
theorem flo_c {o : Nat} {g : GS} {z : HD} {F : Nat → Nat} {DL : List (Nat × DS)} {hr cm : List Nat} {X : List sA} {h : eH} (p1 : DL.map (·.2) = g.2.2.1) (p2 : DL.length ≤ 6) (k : stars ([flO o F DL.length g.2.2.2.2.2, row (F 0) 400 g.1, row (F 1) 253 g.2.1, row (F 2) 253 hr, row (F 3) 253 cm, ar2 (F 4) DL, wire (F 6) g.2.2.2.1.1 g.2.2.2.1.2.1 g.2.2.2.1.2.2, mst (F 7) g.2.2.2.2.1 z, lst dve DL] ++ X) h) : stars (flo o g z :: X) h := stars_close k (fun h' k' => ⟨F, DL, hr, cm, p1, p2, k'⟩)
theorem dev_at {K : List (Nat × DS)} {i : Nat} {e : Nat × DS} {X : List sA} {h : eH} (hx : K[i]? = some e) (k : stars (lst dve K :: X) h) : stars (dev e.1 e.2 :: lst dve (K.eraseIdx i) :: X) h := lst_o i hx k
/-- a device has changed -/
theorem flo_cd {o i d ck : Nat} {tp an fr : List Nat} {D : List DS} {wv : Nat → Nat} {hs : List (Nat × Nat)} {M : MS} {z : HD} {F : Nat → Nat} {DL : List (Nat × DS)} {hr cm : List Nat} {s0 : DS} {X : List sA} {h : eH} (he : DL[i]? = some (d, s0)) (s1 : DS) (p1 : DL.map (·.2) = D) (p2 : DL.length ≤ 6) (k : stars (dev d s1 :: lst dve (DL.eraseIdx i) :: flO o F DL.length ck :: row (F 0) 400 tp :: row (F 1) 253 an :: row (F 2) 253 hr :: row (F 3) 253 cm :: ar2 (F 4) DL :: wire (F 6) fr wv hs :: mst (F 7) M z :: X) h) : stars (flo o (tp, an, D.set i s1, (fr, wv, hs), M, ck) z :: X) h := by
  have hi := (List.getElem?_eq_some_iff.mp he).1
  have k1 := lst_c (f := dve) (x := (d, s1)) i hi k
  rw [show ar2 (F 4) DL = ar2 (F 4) (DL.set i (d, s1)) by unfold ar2; rw [show adD DL = adD (DL.set i (d, s1)) from adD_set he s1], ← List.length_set (as := DL) (i := i) (a := (d, s1))] at k1
  refine flo_c (F := F) (DL := DL.set i (d, s1)) (hr := hr) (cm := cm) (by rw [List.map_set, p1]) (by rw [List.length_set]; exact p2) ?_
  have k2 := (stars_app [lst dve (DL.set i (d, s1)), flO o F (DL.set i (d, s1)).length ck, row (F 0) 400 tp, row (F 1) 253 an, row (F 2) 253 hr, row (F 3) 253 cm, ar2 (F 4) (DL.set i (d, s1)), wire (F 6) fr wv hs, mst (F 7) M z] X).mp k1
  exact (stars_app _ X).mpr (star_mono k2 (fun _ y => stars_ixn y 9 rfl [1, 2, 3, 4, 5, 6, 7, 8, 0] (by decide) rfl) (fun _ y => y))
/-! places of devices, numbers from outside -/
def dIn (n : Nat) (d : Int32) : Bool := !(decide (d < 0) || decide (nI n ≤ d))
theorem dv_ix (d : Int32) (n : Nat) (hn : n < 2 ^ 31) : dIn n d = false ∨ ∃ i, i < n ∧ d = nI i ∧ dIn n d = true := by
  rcases pk_ix d hn with h | h | ⟨j, hj, rfl⟩
  · exact Or.inl (by simp [dIn, h])
  · exact Or.inl (by simp [dIn, h])
  · refine Or.inr ⟨j, hj, rfl, ?_⟩
    have h1 : ¬ nI j < 0 := nI_pos (by omega)
    have h2 : ¬ nI n ≤ nI j := fun z => absurd (j_le_t hn (by omega) z) (by omega)
    simp [dIn, h1, h2]
theorem dIn_f {n : Nat} {d : Int32} (h : dIn n d = false) : d < 0 ∨ nI n ≤ d := by
  simp only [dIn, Bool.not_eq_false', Bool.or_eq_true, decide_eq_true_eq] at h
  exact h
theorem inI_nat {x : Int32} {a b : Nat} (hb : b < 2 ^ 31) (ha : a < 2 ^ 31) (h : inI x (nI a) (nI b) = true) : ∃ n, x = nI n ∧ a ≤ n ∧ n ≤ b := by
  simp only [inI, Bool.and_eq_true, decide_eq_true_eq] at h
  have h0 : ¬ x < 0 := fun z => nI_pos ha (Int32.lt_of_le_of_lt h.1 z)
  obtain ⟨j, hj, rfl⟩ := nI_of h0
  exact ⟨j, rfl, j_le_t ha hj h.1, j_le_t hj hb h.2⟩
/-! what a state must keep -/
def ds0 : DS := (fun _ => 0, fun _ => 0, fun _ => 0, fun _ => 0, fun _ => [], fun _ => [], fun _ => false)
abbrev gD (g : GS) (i : Nat) : DS := g.2.2.1.getD i ds0
abbrev stD (g : GS) (i : Nat) (s : DS) : GS := (g.1, g.2.1, g.2.2.1.set i s, g.2.2.2)
theorem gD_at {D : List DS} {DL : List (Nat × DS)} {i : Nat} {e : Nat × DS} (h : DL.map (·.2) = D) (he : DL[i]? = some e) : D.getD i ds0 = e.2 := by
  subst h
  simp [List.getD, he]
theorem gD_len {D : List DS} {DL : List (Nat × DS)} (h : DL.map (·.2) = D) : D.length = DL.length := by rw [← h, List.length_map]
theorem gD_mem {D : List DS} {DL : List (Nat × DS)} {i : Nat} {e : Nat × DS} (h : DL.map (·.2) = D) (he : DL[i]? = some e) : e.2 ∈ D := by
  rw [← h]
  exact List.mem_map_of_mem (List.mem_of_getElem? he)
