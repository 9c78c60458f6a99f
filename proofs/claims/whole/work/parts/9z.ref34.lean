/-! the reference: a tick of sending, all of it -/
def rwO (w wv : Nat → Nat) (lt lf hn fl : Nat) (v : Nat → Nat) : Nat → Nat := (upN (upN (upN (upN (upN (upN (upN (upN (upN (upN (upN (upN w 22 fl) 24 (wv 3)) 26 lt) 27 lf) 28 (wv 6)) 29 (wv 8)) 30 (wv 9)) 33 hn) 7 (v 1)) 8 (v 2)) 19 (wv 2)) 20 (wv 1))
def soM7 (u : Nat → Nat) (fr : List Nat) (M : MS) : MS := if ad2R u = 2 then spM (u 1) (ad2V u fr 7) M else M
def soM (u : Nat → Nat) (fr : List Nat) (M : MS) : MS := if u 1 = 1 ∧ ad2V u fr 1 = 0 then swM (soM7 u fr M) else soM7 u fr M
def soD (u : Nat → Nat) (fr : List Nat) (n : Nat) (D : List DS) : List DS := if ad2R u = 2 then dvX (fun i s => if u 1 = 2 + i then s else heD (ad2V u fr 7) s) n D else D
abbrev soK (m : Nat) (F w u : Nat → Nat) (bg : Bool) (lt lf hn : Nat) (fr : List Nat) (M : MS) (DL : List (Nat × DS)) (X1 X2 : sA) : List sA := [rmo m F (rwO w u lt lf hn fr.length M.1) bg, ar6 (F 1) DL, lst rdve DL, rst (F 6) M.2.2.2.2.1 (M.1 20) (M.2.2.2.2.2 1) (M.2.2.2.2.2 2), iar (F 21) 260 fr, X1, X2]
abbrev soQ (m : Nat) (F w u : Nat → Nat) (hn : Nat) (fr : List Nat) (M : MS) (D : List DS) (X1 X2 : sA) (x : Option Value) (K : List sA) : Prop := x = some (.int (bI (decide (¬ ad2R u = 0)))) ∧ ∃ lt lf DL, (ad2V u fr 5 ≠ 0 → lt = ad2V u fr 4 ∧ lf = ad2V u fr 5) ∧ DL.length = 6 ∧ DL.map (·.2) = soD u fr (w 2) D ∧ K = soK m F w (ad2V u fr) (decide (ad2V u fr 5 ≠ 0)) lt lf hn fr (soM u fr M) DL X1 X2
set_option maxRecDepth 20000 in
set_option maxHeartbeats 2000000 in
theorem g_soU {m hn : Nat} {F w u : Nat → Nat} {fr : List Nat} {M : MS} {DL : List (Nat × DS)} {X1 X2 : sA} {h : eH} (hfr : fr.length ≤ 260) (hat : u 3 < fr.length) (hm9 : u 6 ≤ 340) (hw : u 1 < 1000) (hw0 : ¬ u 1 = 0) (hlt : u 4 < 1000) (hlf : 1 ≤ u 5 ∧ u 5 ≤ 4) (hq : M.1 20 < 1000000) (hby : ∀ x ∈ fr, x < 256) (hl9 : DL.length = 6) (h6 : w 2 ≤ 6) (hok9 : ∀ i s, i < w 2 → (DL.map (·.2))[i]? = some s → okD s ∧ okE s ∧ s.1 20 < 1000000) (hL : stars (soK m F w u true (u 4) (u 5) hn fr M DL X1 X2) h) : EE mX15_sendsOn 2 60 0 0 (fun x h => ∃ K, soQ m F w u hn fr M (DL.map (·.2)) X1 X2 x K ∧ stars K h) 65 [some (.ref m), none, none] [] h 0 0 := by
  obtain ⟨v, RQ, RS, SC, er, mb⟩ := M
  refine g_so65 (at9 := u 3) (lt := u 4) (lf := u 5) (hm := u 6) (bb := u 8) (db := u 9) (hn := hn) (dg := v 1) (wt := v 2) (id9 := u 2) (who := u 1) (qt := v 20) (er := er) (sp := mb 1) (ov := mb 2) hfr hat hm9 hw hlt hlf hq hby hl9 h6 hok9 (fun z h hL => ?_) (fun z1 z2 h hL => ?_) (fun z1 z2 DL9 h hl8 hd9 hL => ?_) hL
  · have e1 : ad2V u fr = upN u 4 (u 4 - 1) := if_pos z
    have e2 : ad2R u = 0 := if_pos z
    have e3 : soM u fr (v, RQ, RS, SC, er, mb) = (v, RQ, RS, SC, er, mb) := by
      rw [soM, if_neg (fun y => hw0 (by have y2 := y.2; rw [e1] at y2; exact y2)), soM7, e2]; rfl
    refine ⟨_, ⟨by rw [e2]; rfl, u 4 - 1, u 5, DL, fun _ => by rw [e1]; exact ⟨rfl, rfl⟩, hl9, by rw [soD, e2]; rfl, rfl⟩, ?_⟩
    rw [e3, e1, show decide (upN u 4 (u 4 - 1) 5 ≠ 0) = true from decide_eq_true (show u 5 ≠ 0 by omega)]
    exact hL
  · have e1 : ad2V u fr = upN u 5 (u 5 - 1) := (if_neg (show ¬ 0 < u 4 by omega)).trans (if_neg z2)
    have e2 : ad2R u = if u 6 = 256 then 0 else 1 := by rw [ad2R, if_neg (show ¬ 0 < u 4 by omega), if_neg z2]
    have e4 : ¬ ad2R u = 2 := by rw [e2]; split <;> decide
    have e5 : decide (¬ u 6 = 256) = decide (¬ ad2R u = 0) := by rw [e2]; by_cases y : u 6 = 256 <;> simp [y]
    have e3 : soM u fr (v, RQ, RS, SC, er, mb) = (v, RQ, RS, SC, er, mb) := by
      rw [soM, if_neg (fun y => hw0 (by have y2 := y.2; rw [e1] at y2; exact y2)), soM7, if_neg e4]
    refine ⟨_, ⟨by rw [e5], u 4, u 5 - 1, DL, fun _ => by rw [e1]; exact ⟨rfl, rfl⟩, hl9, by rw [soD, if_neg e4], rfl⟩, ?_⟩
    rw [e3, e1, show decide (upN u 5 (u 5 - 1) 5 ≠ 0) = true from decide_eq_true (show u 5 - 1 ≠ 0 by omega)]
    exact hL
  · have e1 : ad2V u fr = fnB (upN u 5 (u 5 - 1)) fr := (if_neg (show ¬ 0 < u 4 by omega)).trans (if_pos z2)
    have e2 : ad2R u = if u 6 = 256 then 0 else 2 := by rw [ad2R, if_neg (show ¬ 0 < u 4 by omega)]; by_cases y : u 6 = 256 <;> simp [y, z2]
    have e7 : ad2V u fr 7 = (if u 6 < 256 then fr.getD (u 3) 0 ^^^ u 6 else fr.getD (u 3) 0) := by rw [e1, fnB]; split <;> rfl
    have e55 : ad2V u fr 5 = u 5 - 1 := by rw [e1, fnB_k (by decide)]; rfl
    have e5 : decide (¬ u 6 = 256) = decide (¬ ad2R u = 0) := by rw [e2]; by_cases y : u 6 = 256 <;> simp [y]
    refine ⟨_, ⟨by rw [e5], u 4, u 5 - 1, DL9, fun c => absurd c (by rw [e55]; omega), hl8, ?_, rfl⟩, ?_⟩
    · rw [hd9, soD, e2, e7]; by_cases y : u 6 = 256 <;> simp [y]
    · rw [show decide (ad2V u fr 5 ≠ 0) = false from decide_eq_false (by rw [e55]; omega)]
      by_cases en : u 3 + 1 = fr.length
      · by_cases y : u 6 = 256
        · by_cases o : u 1 = 1
          · have e9 : ad2V u fr = (upN (upN (upN (upN (upN (upN u 5 (u 5 - 1)) 7 (if u 6 < 256 then fr.getD (u 3) 0 ^^^ u 6 else fr.getD (u 3) 0)) 9 (u 9 + 1)) 3 (u 3 + 1)) 1 0) 2 0) := e1.trans (if_pos (show fr.length ≤ u 3 + 1 by omega))
            have e8 : ad2R u = 0 := e2.trans (if_pos y)
            have e6 : soM7 u fr (v, RQ, RS, SC, er, mb) = (v, RQ, RS, SC, er, mb) := if_neg (by rw [e8]; decide)
            have e10 : soM u fr (v, RQ, RS, SC, er, mb) = (swM (v, RQ, RS, SC, er, mb)) := (if_pos ⟨o, by rw [e9]; rfl⟩).trans (by rw [e6])
            rw [if_pos (show u 3 + 1 = fr.length ∧ u 1 = 1 from ⟨en, o⟩), if_pos (show u 3 + 1 = fr.length ∧ u 1 = 1 from ⟨en, o⟩), if_pos en, if_pos en, if_pos (show u 6 = 256 ∨ u 1 = 1 from Or.inl y)] at hL
            rw [e10, e9]
            exact hL
          · have e9 : ad2V u fr = (upN (upN (upN (upN (upN (upN u 5 (u 5 - 1)) 7 (if u 6 < 256 then fr.getD (u 3) 0 ^^^ u 6 else fr.getD (u 3) 0)) 9 (u 9 + 1)) 3 (u 3 + 1)) 1 0) 2 0) := e1.trans (if_pos (show fr.length ≤ u 3 + 1 by omega))
            have e8 : ad2R u = 0 := e2.trans (if_pos y)
            have e6 : soM7 u fr (v, RQ, RS, SC, er, mb) = (v, RQ, RS, SC, er, mb) := if_neg (by rw [e8]; decide)
            have e10 : soM u fr (v, RQ, RS, SC, er, mb) = (v, RQ, RS, SC, er, mb) := (if_neg (fun c => o c.1)).trans e6
            rw [if_neg (show ¬ (u 3 + 1 = fr.length ∧ u 1 = 1) from fun c => o c.2), if_neg (show ¬ (u 3 + 1 = fr.length ∧ u 1 = 1) from fun c => o c.2), if_pos en, if_pos en, if_pos (show u 6 = 256 ∨ u 1 = 1 from Or.inl y)] at hL
            rw [e10, e9]
            exact hL
        · by_cases o : u 1 = 1
          · have e9 : ad2V u fr = (upN (upN (upN (upN (upN (upN u 5 (u 5 - 1)) 7 (if u 6 < 256 then fr.getD (u 3) 0 ^^^ u 6 else fr.getD (u 3) 0)) 9 (u 9 + 1)) 3 (u 3 + 1)) 1 0) 2 0) := e1.trans (if_pos (show fr.length ≤ u 3 + 1 by omega))
            have e8 : ad2R u = 2 := e2.trans (if_neg y)
            have e6 : soM7 u fr (v, RQ, RS, SC, er, mb) = (v, RQ, RS, SC, er, mb) := (if_pos e8).trans (by rw [e7, spM, if_pos o])
            have e10 : soM u fr (v, RQ, RS, SC, er, mb) = (swM (v, RQ, RS, SC, er, mb)) := (if_pos ⟨o, by rw [e9]; rfl⟩).trans (by rw [e6])
            rw [if_pos (show u 3 + 1 = fr.length ∧ u 1 = 1 from ⟨en, o⟩), if_pos (show u 3 + 1 = fr.length ∧ u 1 = 1 from ⟨en, o⟩), if_pos en, if_pos en, if_pos (show u 6 = 256 ∨ u 1 = 1 from Or.inr o)] at hL
            rw [e10, e9]
            exact hL
          · have e9 : ad2V u fr = (upN (upN (upN (upN (upN (upN u 5 (u 5 - 1)) 7 (if u 6 < 256 then fr.getD (u 3) 0 ^^^ u 6 else fr.getD (u 3) 0)) 9 (u 9 + 1)) 3 (u 3 + 1)) 1 0) 2 0) := e1.trans (if_pos (show fr.length ≤ u 3 + 1 by omega))
            have e8 : ad2R u = 2 := e2.trans (if_neg y)
            have e6 : soM7 u fr (v, RQ, RS, SC, er, mb) = (heM (if u 6 < 256 then fr.getD (u 3) 0 ^^^ u 6 else fr.getD (u 3) 0) (v, RQ, RS, SC, er, mb)) := (if_pos e8).trans (by rw [e7, spM, if_neg o])
            have e10 : soM u fr (v, RQ, RS, SC, er, mb) = (heM (if u 6 < 256 then fr.getD (u 3) 0 ^^^ u 6 else fr.getD (u 3) 0) (v, RQ, RS, SC, er, mb)) := (if_neg (fun c => o c.1)).trans e6
            rw [if_neg (show ¬ (u 3 + 1 = fr.length ∧ u 1 = 1) from fun c => o c.2), if_neg (show ¬ (u 3 + 1 = fr.length ∧ u 1 = 1) from fun c => o c.2), if_pos en, if_pos en, if_neg (show ¬ (u 6 = 256 ∨ u 1 = 1) from fun c => c.elim y o)] at hL
            rw [e10, e9]
            exact hL
      · by_cases y : u 6 = 256
        · by_cases o : u 1 = 1
          · have e9 : ad2V u fr = (upN (upN (upN (upN u 5 (u 5 - 1)) 7 (if u 6 < 256 then fr.getD (u 3) 0 ^^^ u 6 else fr.getD (u 3) 0)) 9 (u 9 + 1)) 3 (u 3 + 1)) := e1.trans (if_neg (show ¬ fr.length ≤ u 3 + 1 by omega))
            have e8 : ad2R u = 0 := e2.trans (if_pos y)
            have e6 : soM7 u fr (v, RQ, RS, SC, er, mb) = (v, RQ, RS, SC, er, mb) := if_neg (by rw [e8]; decide)
            have e10 : soM u fr (v, RQ, RS, SC, er, mb) = (v, RQ, RS, SC, er, mb) := (if_neg (fun c => hw0 (by have c2 := c.2; rw [e9] at c2; exact c2))).trans e6
            rw [if_neg (show ¬ (u 3 + 1 = fr.length ∧ u 1 = 1) from fun c => en c.1), if_neg (show ¬ (u 3 + 1 = fr.length ∧ u 1 = 1) from fun c => en c.1), if_neg en, if_neg en, if_pos (show u 6 = 256 ∨ u 1 = 1 from Or.inl y)] at hL
            rw [e10, e9]
            exact hL
          · have e9 : ad2V u fr = (upN (upN (upN (upN u 5 (u 5 - 1)) 7 (if u 6 < 256 then fr.getD (u 3) 0 ^^^ u 6 else fr.getD (u 3) 0)) 9 (u 9 + 1)) 3 (u 3 + 1)) := e1.trans (if_neg (show ¬ fr.length ≤ u 3 + 1 by omega))
            have e8 : ad2R u = 0 := e2.trans (if_pos y)
            have e6 : soM7 u fr (v, RQ, RS, SC, er, mb) = (v, RQ, RS, SC, er, mb) := if_neg (by rw [e8]; decide)
            have e10 : soM u fr (v, RQ, RS, SC, er, mb) = (v, RQ, RS, SC, er, mb) := (if_neg (fun c => hw0 (by have c2 := c.2; rw [e9] at c2; exact c2))).trans e6
            rw [if_neg (show ¬ (u 3 + 1 = fr.length ∧ u 1 = 1) from fun c => o c.2), if_neg (show ¬ (u 3 + 1 = fr.length ∧ u 1 = 1) from fun c => o c.2), if_neg en, if_neg en, if_pos (show u 6 = 256 ∨ u 1 = 1 from Or.inl y)] at hL
            rw [e10, e9]
            exact hL
        · by_cases o : u 1 = 1
          · have e9 : ad2V u fr = (upN (upN (upN (upN u 5 (u 5 - 1)) 7 (if u 6 < 256 then fr.getD (u 3) 0 ^^^ u 6 else fr.getD (u 3) 0)) 9 (u 9 + 1)) 3 (u 3 + 1)) := e1.trans (if_neg (show ¬ fr.length ≤ u 3 + 1 by omega))
            have e8 : ad2R u = 2 := e2.trans (if_neg y)
            have e6 : soM7 u fr (v, RQ, RS, SC, er, mb) = (v, RQ, RS, SC, er, mb) := (if_pos e8).trans (by rw [e7, spM, if_pos o])
            have e10 : soM u fr (v, RQ, RS, SC, er, mb) = (v, RQ, RS, SC, er, mb) := (if_neg (fun c => hw0 (by have c2 := c.2; rw [e9] at c2; exact c2))).trans e6
            rw [if_neg (show ¬ (u 3 + 1 = fr.length ∧ u 1 = 1) from fun c => en c.1), if_neg (show ¬ (u 3 + 1 = fr.length ∧ u 1 = 1) from fun c => en c.1), if_neg en, if_neg en, if_pos (show u 6 = 256 ∨ u 1 = 1 from Or.inr o)] at hL
            rw [e10, e9]
            exact hL
          · have e9 : ad2V u fr = (upN (upN (upN (upN u 5 (u 5 - 1)) 7 (if u 6 < 256 then fr.getD (u 3) 0 ^^^ u 6 else fr.getD (u 3) 0)) 9 (u 9 + 1)) 3 (u 3 + 1)) := e1.trans (if_neg (show ¬ fr.length ≤ u 3 + 1 by omega))
            have e8 : ad2R u = 2 := e2.trans (if_neg y)
            have e6 : soM7 u fr (v, RQ, RS, SC, er, mb) = (heM (if u 6 < 256 then fr.getD (u 3) 0 ^^^ u 6 else fr.getD (u 3) 0) (v, RQ, RS, SC, er, mb)) := (if_pos e8).trans (by rw [e7, spM, if_neg o])
            have e10 : soM u fr (v, RQ, RS, SC, er, mb) = (heM (if u 6 < 256 then fr.getD (u 3) 0 ^^^ u 6 else fr.getD (u 3) 0) (v, RQ, RS, SC, er, mb)) := (if_neg (fun c => hw0 (by have c2 := c.2; rw [e9] at c2; exact c2))).trans e6
            rw [if_neg (show ¬ (u 3 + 1 = fr.length ∧ u 1 = 1) from fun c => o c.2), if_neg (show ¬ (u 3 + 1 = fr.length ∧ u 1 = 1) from fun c => o c.2), if_neg en, if_neg en, if_neg (show ¬ (u 6 = 256 ∨ u 1 = 1) from fun c => c.elim y o)] at hL
            rw [e10, e9]
            exact hL
