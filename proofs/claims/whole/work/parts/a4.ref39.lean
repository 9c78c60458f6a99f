/-! the reference: begins, over the whole state -/
set_option maxRecDepth 20000 in
set_option maxHeartbeats 2000000 in
theorem k_X15_begins2 {m dg fc : Nat} {F w : Nat → Nat} {bg : Bool} {fr0 : List Nat} {E : List EN} {DL : List (Nat × DS)} (hz : ¬ (dg = 0 ∧ 0 < E.length)) (hdg : dg < 2 ^ 31) (hE : E.length ≤ 16) (hl9 : DL.length = 6) (h6 : w 2 ≤ 6) (hok9 : ∀ i s, i < w 2 → (DL.map (·.2))[i]? = some s → okD s ∧ okE s ∧ s.1 20 < 1000000) : CA mX15_begins [.ref m] [pt m (.inr (13, moF F (upN (upN w 7 dg) 23 fc) bg)), iar (F 21) 260 fr0, pt (F 1) (.inl (6, 6, .inr (.inr (.inr (.inr (adD DL)))))), lst rdve DL, rrw (F 12) 16 3 E] (fun x9 K => x9 = none ∧ (((∀ j t, j < w 2 → (DL.map (·.2))[j]? = some t → rdy t = false) ∧ K = [pt m (.inr (13, moF F (upN (upN w 7 dg) 23 fc) bg)), iar (F 21) 260 fr0, pt (F 1) (.inl (6, 6, .inr (.inr (.inr (.inr (adD DL)))))), lst rdve DL, rrw (F 12) 16 3 E]) ∨ (∃ i d s, i < w 2 ∧ DL[i]? = some (d, s) ∧ rdy s = true ∧ (∀ j t, j < i → (DL.map (·.2))[j]? = some t → rdy t = false) ∧ K = [rmo m F (upN (upN (upN (upN (upN (upN (upN w 7 dg) 23 fc) 23 fc) 20 (2 + i)) 22 ((dL s 7).length + 3)) 24 0) 23 (fc + 1)) false, iar (F 21) 260 (mkF (s.1 1) (dL s 7)), pt (F 1) (.inl (6, 6, .inr (.inr (.inr (.inr (adD (DL.set i (d, (clR s))))))))), lst rdve (DL.set i (d, (clR s))), rrw (F 12) 16 3 E]))) 2 60 0 0 := by
  refine CA.mk 2 (ls := [some (.ref m), none, none]) rfl rfl (Nat.le_of_ble_eq_true rfl) rfl (fun h hL => ?_)
  refine e_aload_n 1 dX15_begins_0 rfl rfl ?_
  refine e_get 4 (v := (.int (nI dg))) dX15_begins_1 rfl fl_X15_306_13 (stars_at _ 0 hL rfl) rfl ?_
  refine e_if_ne 72 7 dX15_begins_4 rfl rfl (fun c4 => ?_) (fun c4 => ?_)
  · have k4 := j_ne0_t (a := dg) (by omega) c4
    refine e_iconst 73 (v := (nI 0)) dX15_begins_72 rfl (by decide) ?_
    refine e_istore_n 74 (ls' := [some (.ref m), some (.int (nI 0)), none]) dX15_begins_73 rfl (by decide) rfl ?_
    exact l_beg (w := upN w 7 dg) (fc := fc) (X1 := rrw (F 12) 16 3 E) hl9 (by exact h6) (by exact hok9) (fun hn h hL => ⟨_, ⟨rfl, Or.inl ⟨hn, rfl⟩⟩, hL⟩) (fun i d s h hi he hr hn hL => ⟨_, ⟨rfl, Or.inr ⟨i, d, s, hi, he, hr, hn, rfl⟩⟩, hL⟩) _ 0 h (Nat.lt_succ_self _) (Nat.zero_le _) (fun j t hj => absurd hj (Nat.not_lt_zero j)) hL
  · have k4 := j_ne0_f (a := dg) (by omega) c4
    refine e_aload_n 8 dX15_begins_7 rfl rfl ?_
    refine e_get 11 (v := (.ref (F 12))) dX15_begins_8 rfl fl_X15_44_13 (stars_at _ 0 hL rfl) rfl ?_
    obtain ⟨A11, u11_0, u11_1, u11_2, u11_3, u11_4⟩ := rrw_V _ 4 hL rfl
    refine e_get 14 (v := (.int (nI E.length))) dX15_begins_11 rfl fl_X15_298_11 u11_0 rfl ?_
    refine e_if_le 72 17 dX15_begins_14 rfl rfl (fun c14 => ?_) (fun c14 => ?_)
    · have k14 := j_le0_t (a := E.length) (by omega) c14
      refine e_iconst 73 (v := (nI 0)) dX15_begins_72 rfl (by decide) ?_
      refine e_istore_n 74 (ls' := [some (.ref m), some (.int (nI 0)), none]) dX15_begins_73 rfl (by decide) rfl ?_
      exact l_beg (w := upN w 7 dg) (fc := fc) (X1 := rrw (F 12) 16 3 E) hl9 (by exact h6) (by exact hok9) (fun hn h hL => ⟨_, ⟨rfl, Or.inl ⟨hn, rfl⟩⟩, hL⟩) (fun i d s h hi he hr hn hL => ⟨_, ⟨rfl, Or.inr ⟨i, d, s, hi, he, hr, hn, rfl⟩⟩, hL⟩) _ 0 h (Nat.lt_succ_self _) (Nat.zero_le _) (fun j t hj => absurd hj (Nat.not_lt_zero j)) hL
    · have k14 := j_le0_f (a := E.length) (by omega) c14
      exact absurd (show dg = 0 ∧ 0 < E.length from ⟨by omega, by omega⟩) hz
def oW (w wv : Nat → Nat) (lt lf hn fl ck : Nat) (v : Nat → Nat) : Nat → Nat := upN (upN (rwO (rmM w v) wv lt lf hn fl v) 18 ck) 23 (wv 10)
theorem mkF_l3 {ad : Nat} {p : List Nat} : (mkF ad p).length = p.length + 3 := by simp [mkF]
theorem fx_none {D : List DS} (h : ∀ j t, j < D.length → D[j]? = some t → rdy t = false) : D.findIdx? rdy = none := by
  rw [List.findIdx?_eq_none_iff]
  intro t ht
  obtain ⟨j, hj, e⟩ := List.getElem_of_mem ht
  exact h j t hj (by rw [List.getElem?_eq_getElem hj, e])
theorem fx_some {D : List DS} {i : Nat} {s : DS} (hi : D[i]? = some s) (hr : rdy s = true) (h : ∀ j t, j < i → D[j]? = some t → rdy t = false) : D.findIdx? rdy = some i := by
  obtain ⟨hl, e⟩ := List.getElem?_eq_some_iff.mp hi
  rw [List.findIdx?_eq_some_iff_getElem]
  refine ⟨hl, by rw [e]; exact hr, fun j hj => ?_⟩
  rw [h j _ hj (List.getElem?_eq_getElem (by omega))]
  decide
set_option maxRecDepth 20000 in
set_option maxHeartbeats 2000000 in
theorem K_begins {m ck lt lf : Nat} {F w wv B : Nat → Nat} {fr tp an : List Nat} {D P : List DS} {hs : List (Nat × Nat)} {M : MS} {DL : List (Nat × DS)} (hD : DL.map (·.2) = D ++ P) (hl9 : DL.length = 6) (hn : w 2 = D.length) (h6 : D.length ≤ 6) (hok9 : ∀ s ∈ D, okD s ∧ okE s ∧ s.1 20 < 1000000) (hM : okMS B M) : CA mX15_begins [.ref m] [rmo m F (oW w wv lt lf hs.length fr.length ck M.1) (decide (wv 5 ≠ 0)), iar (F 21) 260 fr, ar6 (F 1) DL, lst rdve DL, rrw (F 12) 16 3 (M.2.1.map rqE)] (fun x K => x = none ∧ ∃ DL9, DL9.length = 6 ∧ DL9.map (·.2) = (bgG (tp, an, D, (fr, wv, hs), M, ck)).2.2.1 ++ P ∧ K = [rmo m F (oW w (bgG (tp, an, D, (fr, wv, hs), M, ck)).2.2.2.1.2.1 lt lf hs.length (bgG (tp, an, D, (fr, wv, hs), M, ck)).2.2.2.1.1.length ck (bgG (tp, an, D, (fr, wv, hs), M, ck)).2.2.2.2.1.1) (decide ((bgG (tp, an, D, (fr, wv, hs), M, ck)).2.2.2.1.2.1 5 ≠ 0)), iar (F 21) 260 (bgG (tp, an, D, (fr, wv, hs), M, ck)).2.2.2.1.1, ar6 (F 1) DL9, lst rdve DL9, rrw (F 12) 16 3 ((bgG (tp, an, D, (fr, wv, hs), M, ck)).2.2.2.2.1.2.1.map rqE)]) 2 60 0 0 := by
  obtain ⟨v, RQ, RS, SC, er, mb⟩ := M
  have h1 : v 1 ≤ 2 := hM.1.1
  have l16 : RQ.length ≤ 16 := hM.2.2.2.2.2.1
  by_cases z : v 1 = 0 ∧ 0 < RQ.length
  · match RQ, hM, l16, z with
    | [], _, _, z => exact absurd z.2 (Nat.lt_irrefl 0)
    | (q, nu, ad, at9) :: R, hM, l16, z =>
      obtain ⟨q1, q2, q3, q4, q5⟩ := hM.2.1 _ (List.mem_cons_self ..)
      have q4' : ad < 248 := q4
      have e9 : bgG (tp, an, D, (fr, wv, hs), (v, (q, nu, ad, at9) :: R, RS, SC, er, mb), ck) = (tp, an, D, stW (fr, wv, hs) 1 ad q, atM (v, (q, nu, ad, at9) :: R, RS, SC, er, mb), ck) := if_pos z
      refine CA.pre (L := [rmo m F (upN (upN (oW w wv lt lf hs.length fr.length ck v) 7 0) 23 (wv 10)) (decide (wv 5 ≠ 0)), rrw (F 12) 16 3 ((q, [ad, nu, at9]) :: R.map rqE), iar (F 21) 260 fr] ++ [ar6 (F 1) DL, lst rdve DL]) (CA.to (CA.frame [ar6 (F 1) DL, lst rdve DL] (k_X15_begins1 (w := oW w wv lt lf hs.length fr.length ck v) (fc := wv 10) (T := R.map rqE) (by rw [List.length_map]; rw [List.length_cons] at l16; omega) q1 q2.2 (by omega))) ?_) (fun h hL => ?_)
      · rintro r K h ⟨K1, ⟨x1, x2⟩, x3⟩ hK
        subst x2
        subst x3
        rw [e9]
        refine ⟨_, ⟨x1, DL, hl9, hD, rfl⟩, ?_⟩
        have hK2 : stars [rmo m F (upN (upN (upN (upN (upN (upN (upN (upN (oW w wv lt lf hs.length fr.length ck v) 7 0) 23 (wv 10)) 7 1) 23 (wv 10)) 20 1) 22 (q.length + 3)) 24 0) 23 (wv 10 + 1)) false, iar (F 21) 260 (mkF ad q), ar6 (F 1) DL, lst rdve DL, rrw (F 12) 16 3 ((q, [ad, nu, at9 + 1]) :: R.map rqE)] h := stars_ixn hK 5 rfl [0, 2, 3, 4, 1] (by decide) rfl
        rw [show (stW (fr, wv, hs) 1 ad q).1.length = q.length + 3 from mkF_l3]
        exact hK2
      · have e7 : v 1 = 0 := z.1
        have e10 : moF F (oW w wv lt lf hs.length fr.length ck v) (decide (wv 5 ≠ 0)) = moF F (upN (upN (oW w wv lt lf hs.length fr.length ck v) 7 (v 1)) 23 (wv 10)) (decide (wv 5 ≠ 0)) := rfl
        rw [e7] at e10
        have hL3 : stars [pt m (.inr (13, moF F (oW w wv lt lf hs.length fr.length ck v) (decide (wv 5 ≠ 0)))), rrw (F 12) 16 3 (((q, nu, ad, at9) :: R).map rqE), iar (F 21) 260 fr, ar6 (F 1) DL, lst rdve DL] h := stars_ixn hL 5 rfl [0, 4, 1, 2, 3] (by decide) rfl
        rw [e10] at hL3
        exact hL3
  · have eb : bgG (tp, an, D, (fr, wv, hs), (v, RQ, RS, SC, er, mb), ck) = bgD (tp, an, D, (fr, wv, hs), (v, RQ, RS, SC, er, mb), ck) := if_neg z
    have hat : ∀ j t, j < D.length → (D[j]? = some t ↔ (DL.map (·.2))[j]? = some t) := fun j t hj => by rw [hD, List.getElem?_append_left hj]
    refine CA.to (k_X15_begins2 (w := oW w wv lt lf hs.length fr.length ck v) (dg := v 1) (fc := wv 10) (E := RQ.map rqE) (fr0 := fr) (DL := DL) (by rw [List.length_map]; exact z) (by omega) (by rw [List.length_map]; exact l16) hl9 (show w 2 ≤ 6 by omega) (fun i s (hi : i < w 2) hs9 => hok9 s (List.mem_of_getElem? ((hat i s (by omega)).mpr hs9)))) ?_
    rintro r K h ⟨x1, x2⟩ hK
    rw [eb]
    rcases x2 with ⟨hno, x2⟩ | ⟨i, d, s, hi, he, hr, hno, x2⟩
    · subst x2
      have e9 : bgD (tp, an, D, (fr, wv, hs), (v, RQ, RS, SC, er, mb), ck) = (tp, an, D, (fr, wv, hs), (v, RQ, RS, SC, er, mb), ck) := by
        have : D.findIdx? rdy = none := fx_none (fun j t hj ht => hno j t (show j < w 2 by omega) ((hat j t hj).mp ht))
        simp only [bgD, this]
      rw [e9]
      exact ⟨_, ⟨x1, DL, hl9, hD, rfl⟩, hK⟩
    · subst x2
      have hi2 : i < D.length := by have : i < w 2 := hi; omega
      have hs2 : (DL.map (·.2))[i]? = some s := by rw [List.getElem?_map, he]; rfl
      have hs3 := (hat i s hi2).mpr hs2
      have hfx : D.findIdx? rdy = some i := fx_some hs3 hr (fun j t hj ht => hno j t hj ((hat j t (by omega)).mp ht))
      have hgd : gD (tp, an, D, (fr, wv, hs), (v, RQ, RS, SC, er, mb), ck) i = s := by
        show D.getD i ds0 = s
        rw [List.getD, hs3]; rfl
      have e9 : bgD (tp, an, D, (fr, wv, hs), (v, RQ, RS, SC, er, mb), ck) = (tp, an, D.set i (clR s), stW (fr, wv, hs) (2 + i) (s.1 1) (s.2.2.2.2.1 7), (v, RQ, RS, SC, er, mb), ck) := by
        simp only [bgD, hfx]
        rw [hgd]
      rw [e9]
      refine ⟨_, ⟨x1, DL.set i (d, clR s), by rw [List.length_set]; exact hl9, ?_, rfl⟩, ?_⟩
      · show (DL.set i (d, clR s)).map (·.2) = D.set i (clR s) ++ P
        rw [List.map_set, hD, List.set_append_left _ _ hi2]
      · rw [show (stW (fr, wv, hs) (2 + i) (s.1 1) (s.2.2.2.2.1 7)).1.length = (dL s 7).length + 3 from mkF_l3]
        exact hK
