/-! what happens to devices -/
def poM (M : List (Nat × List Nat)) (x t : Nat) : List (Nat × List Nat) := match ixM M (nI t) with
  | none => M
  | some i => stM M i (lat 40 (rwM M i) x)
theorem po_eq {K : List (Nat × Nat)} {C : Nat → List Nat} (hn : (K.map (·.2)).Nodup) (x t : Nat) : K.map (fun e => (e.1, poC K C x t e.2)) = poM (K.map (fun e => (e.1, C e.2))) x t := by
  unfold poC poM
  rcases lk_ix C (nI t) K with ⟨h1, h2⟩ | ⟨i, h1, h2, h3⟩
  · rw [h1, h2]
  · rw [h1, h3]
    simp only [stM, rwM, keM]
    rw [mp_at h2, mp_up K hn h2]
def aoM (M : List (Nat × List Nat)) (bf : Nat → Nat) (bv : Nat → List Nat) (kd a b c : Nat) : List (Nat × List Nat) := if 5 < kd ∧ valK bf bv 0 c = nI 1 ∧ hasK bf bv 3 a = true then poM M (natK bf bv 3 a) b else M
def arM (bf : Nat → Nat) (ru : List Nat) (bv : Nat → List Nat) (M : List (Nat × List Nat)) : Nat → List (Nat × List Nat)
  | 0 => M
  | n + 1 => aoM (arM bf ru bv M n) bf (arV bf ru bv n) (ru.getD (4 * n) 0) (ru.getD (4 * n + 1) 0) (ru.getD (4 * n + 2) 0) (ru.getD (4 * n + 3) 0)
theorem ar_eq {K : List (Nat × Nat)} {C : Nat → List Nat} {bf : Nat → Nat} {ru : List Nat} {bv : Nat → List Nat} (hn : (K.map (·.2)).Nodup) : ∀ n, K.map (fun e => (e.1, arC K bf ru bv C n e.2)) = arM bf ru bv (K.map (fun e => (e.1, C e.2))) n
  | 0 => rfl
  | n + 1 => by
    have ih := ar_eq (C := C) (bf := bf) (ru := ru) (bv := bv) hn n
    simp only [arC, arM, aoC, aoM]
    split
    · rw [po_eq hn, ih]
    · exact ih
/-- rules applied -/
def arD (s : DS) : DS := (s.1, s.2.1, s.2.2.1, s.2.2.2.1, fun k => if k < 4 then arV s.2.1 (s.2.2.2.2.1 4) s.2.2.2.2.1 ((s.2.2.2.2.1 4).length / 4) k else s.2.2.2.2.1 k, upM s.2.2.2.2.2.1 1 (arM s.2.1 (s.2.2.2.2.1 4) s.2.2.2.2.1 (s.2.2.2.2.2.1 1) ((s.2.2.2.2.1 4).length / 4)), s.2.2.2.2.2.2)
/-- a lag shortened -/
def slD (s : DS) : DS := if 0 < s.1 17 then (upN s.1 17 (s.1 17 - 1), s.2) else s
/-- a byte heard -/
def heD (b : Nat) (s : DS) : DS := (upN s.1 20 0, s.2.1, s.2.2.1, s.2.2.2.1, upL s.2.2.2.2.1 6 (hrR (s.2.2.2.2.1 6) b), s.2.2.2.2.2.1, upB (upB s.2.2.2.2.2.2 1 (hrS (s.2.2.2.2.1 6) (s.1 20) (s.2.2.2.2.2.2 1))) 2 (hrO (s.2.2.2.2.1 6) (s.2.2.2.2.2.2 2)))
/-- a frame counted -/
def cfD (s : DS) : DS := (s.1, s.2.1, s.2.2.1, cfC s.2.2.2.1 (s.1 1) (s.2.2.2.2.1 6) (s.2.2.2.2.2.2 1) (s.2.2.2.2.2.2 2), upL s.2.2.2.2.1 5 (cfL (s.2.2.2.2.1 5) (s.1 1) (s.2.2.2.2.2.2 0) (s.2.2.2.2.1 6) (s.2.2.2.2.2.2 1) (s.2.2.2.2.2.2 2)), s.2.2.2.2.2)
/-- a reply kept -/
def krD (s : DS) (p : List Nat) (code : Nat) : DS := (krV s.1 p, s.2.1, s.2.2.1, krC s.2.2.2.1 p code, upL (upL s.2.2.2.2.1 5 (krL (s.2.2.2.2.1 5) p code)) 7 (krR (s.2.2.2.2.1 7) p), s.2.2.2.2.2)
/-- the PDU that the ear has -/
def eaP (s : DS) : List Nat := pf (s.2.2.2.2.1 6) 1 ((s.2.2.2.2.1 6).length - 3)
/-- is it served, is it answered -/
def tmV (s : DS) : Bool := if s.2.2.2.2.2.2 0 then (!decide ((s.2.2.2.2.1 6).getD 0 0 = 0) && (decide (s.1 18 = 0) && rsF (eaP s))) else if (s.2.2.2.2.1 6).getD 0 0 = 0 then faF ((eaP s).getD 0 0) else true
def tmR (s : DS) : Bool := !s.2.2.2.2.2.2 0 && !decide ((s.2.2.2.2.1 6).getD 0 0 = 0)
/-- a message taken -/
def tmD (s : DS) : DS := krD (if tmV s then svS s (eaP s) else s) (if tmR s then svA s (eaP s) else []) (if tmR s then svC s (eaP s) else 0)
/-- the ear forgets -/
def fgD (s : DS) : DS := (s.1, s.2.1, s.2.2.1, s.2.2.2.1, upL s.2.2.2.2.1 6 [], s.2.2.2.2.2.1, upB (upB s.2.2.2.2.2.2 1 false) 2 false)
/-- a tick of silence -/
def siD (s : DS) : DS := if s.1 20 + 1 = 14 ∧ 0 < (s.2.2.2.2.1 6).length then fgD (if cfB (s.1 1) (s.2.2.2.2.1 6) (s.2.2.2.2.2.2 1) then tmD (cfD (upN s.1 20 (s.1 20 + 1), s.2)) else cfD (upN s.1 20 (s.1 20 + 1), s.2)) else (upN s.1 20 (s.1 20 + 1), s.2)
/-- one device behind the other -/
def dvX (f : Nat → DS → DS) : Nat → List DS → List DS
  | 0, D => D
  | i + 1, D => (dvX f i D).set i (f i ((dvX f i D).getD i ds0))
theorem dvX_len {f : Nat → DS → DS} {D : List DS} : ∀ i, (dvX f i D).length = D.length
  | 0 => rfl
  | i + 1 => by rw [dvX, List.length_set, dvX_len i]
theorem dvX_get {f : Nat → DS → DS} {D : List DS} : ∀ i j, i ≤ j → (dvX f i D)[j]? = D[j]?
  | 0, j, _ => rfl
  | i + 1, j, h => by rw [dvX, List.getElem?_set_ne (by omega), dvX_get i j (by omega)]
theorem dvX_mem {f : Nat → DS → DS} {D : List DS} {P : DS → Prop} (h : ∀ i s, s ∈ D → P s → P (f i s)) (hD : ∀ s ∈ D, P s) : ∀ i, i ≤ D.length → ∀ s ∈ dvX f i D, P s
  | 0, _ => hD
  | i + 1, hi => by
    intro s hs
    rw [dvX] at hs
    rcases List.mem_or_eq_of_mem_set hs with z | z
    · exact dvX_mem h hD i (by omega) s z
    · subst z
      have e : (dvX f i D).getD i ds0 = D[i] := by
        rw [List.getD, dvX_get i i (Nat.le_refl _), List.getElem?_eq_getElem (by omega)]
        rfl
      rw [e]
      exact h i _ (List.getElem_mem _) (hD _ (List.getElem_mem _))
theorem dv_in {f : Nat → DS → DS} {D : List DS} {DL : List (Nat × DS)} {i d : Nat} {s : DS} (h : DL.map (·.2) = dvX f i D) (he : DL[i]? = some (d, s)) : s ∈ D := by
  have h1 : (DL.map (·.2))[i]? = some s := by rw [List.getElem?_map, he]; rfl
  rw [h, dvX_get i i (Nat.le_refl _)] at h1
  exact List.mem_of_getElem? h1
theorem dv_set {f : Nat → DS → DS} {D : List DS} {DL : List (Nat × DS)} {i d : Nat} {s s1 : DS} (h : DL.map (·.2) = dvX f i D) (he : DL[i]? = some (d, s)) (hs : f i s = s1) : (DL.set i (d, s1)).map (·.2) = dvX f (i + 1) D := by
  rw [List.map_set, h, dvX, ← h, gD_at rfl he, hs]
theorem arV_4 {bf : Nat → Nat} {ru : List Nat} {bv : Nat → List Nat} {k : Nat} (hk : k < 4) {n : Nat} : (fun j => if j < 4 then arV bf ru bv n j else bv j) k = arV bf ru bv n k := if_pos hk
