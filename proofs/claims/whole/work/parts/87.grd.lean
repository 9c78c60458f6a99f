/-! arrays of arrays: grd a n rm C: an array of n int arrays of rm cells; the first cells of the i-th are C i -/
def iaE (rm : Nat) (e : Nat × List Nat) : sA := iar e.1 rm e.2
def adP (BL : List (Nat × List Nat)) : Nat → Option Nat := fun i => BL[i]?.map (·.1)
theorem adP_at {BL : List (Nat × List Nat)} {i : Nat} {e : Nat × List Nat} (h : BL[i]? = some e) : adP BL i = some e.1 := by
  simp only [adP, h, Option.map_some]
theorem adP_set {BL : List (Nat × List Nat)} {i : Nat} {e : Nat × List Nat} (h : BL[i]? = some e) (r : List Nat) : adP BL = adP (BL.set i (e.1, r)) := by
  obtain ⟨hi, -⟩ := List.getElem?_eq_some_iff.mp h
  funext j
  by_cases q : j = i
  · subst q
    rw [adP_at h, adP_at (List.getElem?_set_self hi)]
  · simp only [adP, List.getElem?_set_ne (Ne.symm q)]
def gOK (n : Nat) (C : Nat → List Nat) (BL : List (Nat × List Nat)) : Prop := BL.length = n ∧ ∀ i e, BL[i]? = some e → e.2 = C i
def grd (a n rm : Nat) (C : Nat → List Nat) : sA := fun h => ∃ BL : List (Nat × List Nat), gOK n C BL ∧ stars [pt a (.inl (7, n, .inr (.inr (.inr (.inr (adP BL)))))), lst (iaE rm) BL] h
theorem grd_o {a n rm : Nat} {C : Nat → List Nat} {K : List sA} {h : eH} (k : stars (grd a n rm C :: K) h) : ∃ BL : List (Nat × List Nat), gOK n C BL ∧ stars (pt a (.inl (7, n, .inr (.inr (.inr (.inr (adP BL)))))) :: lst (iaE rm) BL :: K) h := by
  obtain ⟨h1, h2, hu, hj, ⟨BL, g, k⟩, q⟩ := k
  exact ⟨BL, g, (stars_app [_, _] K).mpr ⟨h1, h2, hu, hj, k, q⟩⟩
theorem grd_c {a n rm : Nat} {C : Nat → List Nat} {BL : List (Nat × List Nat)} {K : List sA} {h : eH} (g : gOK n C BL) (k : stars (pt a (.inl (7, n, .inr (.inr (.inr (.inr (adP BL)))))) :: lst (iaE rm) BL :: K) h) : stars (grd a n rm C :: K) h := stars_close (K := [_, _]) k (fun h' k' => ⟨BL, g, k'⟩)
theorem gOK_at {n i : Nat} {C : Nat → List Nat} {BL : List (Nat × List Nat)} (g : gOK n C BL) (hi : i < n) : ∃ b, BL[i]? = some (b, C i) := by
  have hl : i < BL.length := by rw [g.1]; exact hi
  have h1 := List.getElem?_eq_getElem hl
  refine ⟨BL[i].1, ?_⟩
  rw [h1, ← g.2 i _ h1]
theorem gOK_set {n i b : Nat} {C : Nat → List Nat} {BL : List (Nat × List Nat)} {r r0 : List Nat} (g : gOK n C BL) (hb : BL[i]? = some (b, r0)) : gOK n (upL C i r) (BL.set i (b, r)) := by
  refine ⟨by rw [List.length_set]; exact g.1, fun j e he => ?_⟩
  by_cases q : j = i
  · subst q
    have hi := (List.getElem?_eq_some_iff.mp hb).1
    rw [List.getElem?_set_self hi] at he
    cases he
    exact (if_pos rfl).symm
  · rw [List.getElem?_set_ne (Ne.symm q)] at he
    rw [g.2 j e he]
    exact (if_neg q).symm
section ER
variable {M : MD} {fr lo mc ms : Nat} {Q : Option Value → eH → Prop} {pc ce sl : Nat} {ls : List (Option Value)} {st : List Value} {h : eH}
theorem p_iald2 (np : Nat) {L : List sA} (hL : stars L h) (i : Nat) {rm k j : Nat} {BL : List (Nat × List Nat)} {e : Nat × List Nat} (hi : L[i]? = some (lst (iaE rm) BL)) (he : BL[j]? = some e) (hd : decode M.2.1 pc = .ok (.iaload, 1)) (hn : pc + 1 = np) (hk : k < e.2.length) (hb : rm < 2 ^ 31) (kk : EE M fr lo mc ms Q np ls (.int (nI (e.2.getD k 0)) :: st) h ce sl) : EE M fr lo mc ms Q pc ls (.int (nI k) :: .ref e.1 :: st) h ce sl := by
  obtain ⟨h1, ⟨f, ⟨hl, hf⟩, p⟩, q⟩ := lst_part L i hL hi he
  exact e_iald np (v := nI (e.2.getD k 0)) hd hn (q _ _ (pt_at p)) (vp_in_nI (by omega) (by omega)) (by rw [nI_clamp (by omega)]; exact hf k hk) kk
theorem p_iast2 (np : Nat) {L L' : List sA} (hL : stars L h) (i : Nat) {rm k j v : Nat} {BL : List (Nat × List Nat)} {e : Nat × List Nat} {r' : List Nat} (hi : L[i]? = some (lst (iaE rm) BL)) (he : BL[j]? = some e) (hd : decode M.2.1 pc = .ok (.iastore, 1)) (hn : pc + 1 = np) (hk : k < rm) (hb : rm < 2 ^ 31) (hr : r'.length ≤ rm ∧ ∀ q, q < r'.length → (q = k ∧ r'.getD q 0 = v) ∨ (q ≠ k ∧ q < e.2.length ∧ r'.getD q 0 = e.2.getD q 0)) (hL' : L.set i (lst (iaE rm) (BL.set j (e.1, r'))) = L') (kk : ∀ h' : eH, stars L' h' → EE M fr lo mc ms Q np ls st h' ce sl) : EE M fr lo mc ms Q pc ls (.int (nI v) :: .int (nI k) :: .ref e.1 :: st) h ce sl := by
  have hil : i < L.length := (List.getElem?_eq_some_iff.mp hi).1
  have k1 := lst_o j he (stars_perm (ei_perm L i hi) hL)
  have hj : j < BL.length := (List.getElem?_eq_some_iff.mp he).1
  refine p_iastR np (L := iar e.1 rm e.2 :: lst (iaE rm) (BL.eraseIdx j) :: L.eraseIdx i) (L' := iar e.1 rm r' :: lst (iaE rm) (BL.eraseIdx j) :: L.eraseIdx i) k1 0 rfl hd hn hk hb hr rfl (fun h' k2 => kk h' ?_)
  have k3 := lst_c (f := iaE rm) (x := (e.1, r')) j hj k2
  have p := (ei_perm (L.set i (lst (iaE rm) (BL.set j (e.1, r')))) i (List.getElem?_set_self hil)).symm
  rw [List.eraseIdx_set_eq] at p
  rw [← hL']
  exact stars_perm p k3
end ER
