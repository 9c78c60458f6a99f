/-! every public method keeps the bounds -/
theorem bnd_m {t : Nat} : ∀ k, bnd t k ≤ bnd (t + 1) k := by
  intro k
  unfold bnd
  (repeat' split) <;> omega
theorem ov_up {t : Nat} {g : GS} (h : okV (bnd t) g) : okV (bnd (t + 1)) g := ov_m bnd_m h
theorem ov_tape {B : Nat → Nat} {g : GS} {tp : List Nat} (h : okV B g) (ht : ∀ x ∈ tp, x < 256) : okV B (tp, g.2) := ⟨⟨ht, h.1.2⟩, h.2⟩
theorem f4_lt {x : Int32} : ∀ y ∈ f4 x, y < 256 := app_lt w2_lt w2_lt
theorem ov_fd {t : Nat} {g : GS} {a b c d e : Int32} (h : okV (bnd t) g) : okV (bnd (t + 1)) (fdG g a b c d e) := by
  unfold fdG
  split
  · exact ov_tape (ov_up h) (app_lt (app_lt (app_lt (app_lt (app_lt h.1.1 f4_lt) f4_lt) f4_lt) f4_lt) f4_lt)
  · exact ov_up h
theorem ov_en {t : Nat} {g : GS} {x : Int32} (h : okV (bnd t) g) : okV (bnd (t + 1)) (enG g x) := by
  unfold enG
  split
  · exact ov_tape (ov_up h) (fun y hy => h.1.1 y (List.mem_of_mem_take hy))
  · exact ov_up h
theorem inI_cl {x : Int32} {a b : Nat} (hb : b < 2 ^ 31) (ha : a < 2 ^ 31) (h : inI x (nI a) (nI b) = true) : a ≤ x.toNatClampNeg ∧ x.toNatClampNeg ≤ b := by
  obtain ⟨n, rfl, h1, h2⟩ := inI_nat hb ha h
  rw [nI_clamp (by omega)]
  exact ⟨h1, h2⟩
theorem dIn_cl {n : Nat} {x : Int32} (hn : n < 2 ^ 31) (h : dIn n x = true) : x.toNatClampNeg < n := by
  rcases dv_ix x n hn with z | ⟨i, hi, rfl, -⟩
  · rw [h] at z; cases z
  · rw [nI_clamp (by omega)]; exact hi
/-- a device changed -/
theorem ov_dev {t i : Nat} {g : GS} {s : DS} (h : okV (bnd t) g) (hd : okD s) (he : okE s) (h20 : s.1 20 ≤ t) : okV (bnd (t + 1)) (stD g i s) := by
  have hu := ov_up h
  refine ⟨⟨hu.1.1, ?_, hu.1.2.2.1, hu.1.2.2.2.1, hu.1.2.2.2.2.1, ?_⟩, ?_⟩
  · intro s9 hs
    rcases List.mem_or_eq_of_mem_set hs with z | z
    · exact hu.1.2.1 s9 z
    · subst z
      exact ⟨hd, Nat.le_trans h20 (by show t ≤ bnd (t + 1) 1; show t ≤ t + 1; omega)⟩
  · show (g.2.2.1.set i s).length ≤ 6
    rw [List.length_set]; exact hu.1.2.2.2.2.2
  · intro s9 hs
    rcases List.mem_or_eq_of_mem_set hs with z | z
    · exact hu.2 s9 z
    · subst z; exact he
theorem gD_ok {t i : Nat} {g : GS} (h : okV (bnd t) g) (hi : i < g.2.2.1.length) : okD (gD g i) ∧ okE (gD g i) ∧ (gD g i).1 20 ≤ t := by
  have e : gD g i ∈ g.2.2.1 := by
    simp only [gD, List.getD, List.getElem?_eq_getElem hi, Option.getD_some]
    exact List.getElem_mem hi
  exact ⟨(h.1.2.1 _ e).1, h.2 _ e, (h.1.2.1 _ e).2⟩
theorem len6 {t : Nat} {g : GS} (h : okV (bnd t) g) : g.2.2.1.length < 2 ^ 31 := by
  have := h.1.2.2.2.2.2
  omega
theorem ok_dsN {n a l : Nat} (hn : n < 6) (ha : a < 248) (hl : l ≤ 2000) : okD (dsN n a l) ∧ okE (dsN n a l) := by
  have e0 : ∀ B : Nat, ∀ x ∈ ([] : List Nat), x < B := fun B x hx => by cases hx
  have eM : ∀ B : Nat, okM B [] := fun B e he => by cases he
  have eS : ∀ a b c, shO a b c [] := fun a b c => ⟨Nat.zero_le _, (fun e he => by cases he), List.nodup_nil⟩
  constructor
  · refine ⟨Nat.zero_le _, fun i => (by decide : 0 < 200000), fun i => (by decide : 0 < 65536), fun k => e0 _, fun k => eM _, ⟨rfl, fun n hn => absurd hn (Nat.not_lt_zero _)⟩, (by decide : 0 < 100), e0 _, e0 _, e0 _, eM _, (fun e he => by cases he), hn, ha, hl, Nat.zero_le _⟩
  · refine ⟨fun k hk => ⟨Nat.zero_le _, (by decide : 0 + 0 ≤ 65536)⟩, ⟨e0 _, e0 _⟩, ⟨Nat.zero_le _, Nat.zero_le _, Nat.zero_le _, Nat.zero_le _, fun _ => rfl⟩, ⟨eS _ _ _, eS _ _ _, eS _ _ _⟩, fun i hi => absurd hi (Nat.not_lt_zero i)⟩
theorem ov_dv {t : Nat} {g : GS} {a l : Int32} (h : okV (bnd t) g) (ht : 14 ≤ t) : okV (bnd (t + 1)) (dvG g a l) := by
  unfold dvG
  split
  · rename_i hc
    simp only [dvC, Bool.and_eq_true, decide_eq_true_eq] at hc
    obtain ⟨c1, c2, c3, -⟩ := hc
    have a1 := inI_cl (by decide) (by decide) c2
    have a2 := inI_cl (by decide) (by decide) c3
    have hk := ok_dsN (n := g.2.2.1.length) (a := a.toNatClampNeg) (l := l.toNatClampNeg) c1 (by omega) a2.2
    have hu := ov_up h
    refine ⟨⟨hu.1.1, ?_, hu.1.2.2.1, hu.1.2.2.2.1, hu.1.2.2.2.2.1, ?_⟩, ?_⟩
    · intro s hs
      rcases List.mem_append.mp hs with z | z
      · exact hu.1.2.1 s z
      · rw [List.mem_singleton.mp z]
        exact ⟨hk.1, by show 14 ≤ t + 1; omega⟩
    · show (g.2.2.1 ++ [_]).length ≤ 6
      rw [List.length_append, List.length_singleton]; omega
    · intro s hs
      rcases List.mem_append.mp hs with z | z
      · exact hu.2 s z
      · rw [List.mem_singleton.mp z]; exact hk.2
  · exact ov_up h
theorem rep_lt {n B : Nat} (hB : 0 < B) : ∀ x ∈ List.replicate n 0, x < B := fun x hx => by rw [List.eq_of_mem_replicate hx]; exact hB
theorem ov_bk {t : Nat} {g : GS} {d k fr n : Int32} (h : okV (bnd t) g) : okV (bnd (t + 1)) (bkG g d k fr n) := by
  unfold bkG
  split
  · rename_i hc
    simp only [bkC, Bool.and_eq_true, decide_eq_true_eq] at hc
    obtain ⟨c1, c2, c3, c4, c5⟩ := hc
    have hi := dIn_cl (len6 h) c1
    have hk := dIn_cl (by decide) c2
    have a3 := inI_cl (by decide) (by decide) c3
    have a4 := inI_cl (by decide) (by decide) c4
    obtain ⟨od, oe, o20⟩ := gD_ok h hi
    generalize gD g d.toNatClampNeg = s at od oe o20
    obtain ⟨v, bf, lm, ct, L, S, B⟩ := s
    generalize k.toNatClampNeg = kn at hk
    generalize fr.toNatClampNeg = fn at a3 c5
    generalize n.toNatClampNeg = nn at a4 c5
    refine ov_dev h ?_ ?_ o20
    · obtain ⟨h8, hb, hct, hLs, hSs, hru, h18, hlo9, her9, hrp9, hT9, hK9, hv0, hv1, hv2, hv17⟩ := od
      have e : ∀ j, 4 ≤ j → upL L kn (List.replicate nn 0) j = L j := fun j hj => if_neg (by omega)
      refine ⟨h8, hb, hct, upL_lt hLs (rep_lt (by decide)), hSs, ?_, h18, ?_, ?_, ?_, hT9, hK9, hv0, hv1, hv2, hv17⟩
      · show okR (upL L kn (List.replicate nn 0) 4)
        rw [e 4 (by decide)]; exact hru
      · show ∀ x ∈ upL L kn (List.replicate nn 0) 5, x < 256
        rw [e 5 (by decide)]; exact hlo9
      · show ∀ x ∈ upL L kn (List.replicate nn 0) 6, x < 256
        rw [e 6 (by decide)]; exact her9
      · show ∀ x ∈ upL L kn (List.replicate nn 0) 7, x < 256
        rw [e 7 (by decide)]; exact hrp9
    · obtain ⟨e1, e2, e3, e4, eL⟩ := oe
      have e : ∀ j, 4 ≤ j → upL L kn (List.replicate nn 0) j = L j := fun j hj => if_neg (by omega)
      have hb : ∀ j, (∀ x ∈ L j, x < 2) → ∀ x ∈ upL L kn (List.replicate nn 0) j, x < 2 := by
        intro j hj
        unfold upL
        split
        · exact rep_lt (by decide)
        · exact hj
      refine ⟨fun j hj => ?_, ⟨hb 0 e2.1, hb 1 e2.2⟩, ?_, e4, eL⟩
      · show (upL L kn (List.replicate nn 0) j).length ≤ 400 ∧ upN bf kn fn j + (upL L kn (List.replicate nn 0) j).length ≤ 65536
        unfold upL upN
        split
        · rw [List.length_replicate]; exact ⟨a4.2, c5⟩
        · exact e1 j hj
      · show (upL L kn (List.replicate nn 0) 4).length ≤ 48 ∧ (upL L kn (List.replicate nn 0) 5).length ≤ 64 ∧ (upL L kn (List.replicate nn 0) 6).length ≤ 256 ∧ (upL L kn (List.replicate nn 0) 7).length ≤ 253 ∧ ((upL L kn (List.replicate nn 0) 7).length = 0 → v 17 = 0)
        rw [e 4 (by decide), e 5 (by decide), e 6 (by decide), e 7 (by decide)]
        exact e3
  · exact ov_up h
theorem ov_pt {t : Nat} {g : GS} {d k a x : Int32} (h : okV (bnd t) g) : okV (bnd (t + 1)) (ptG g d k a x) := by
  unfold ptG
  split
  · rename_i hc
    simp only [ptC, Bool.and_eq_true] at hc
    obtain ⟨c1, c2, -⟩ := hc
    have hi := dIn_cl (len6 h) c1
    have hk := dIn_cl (by decide) c2
    obtain ⟨od, oe, o20⟩ := gD_ok h hi
    generalize gD g d.toNatClampNeg = s at od oe o20
    obtain ⟨v, bf, lm, ct, L, S, B⟩ := s
    generalize k.toNatClampNeg = kn at hk
    have hm : mkD kn < 65536 := by unfold mkD; split <;> decide
    refine ov_dev h ?_ ?_ o20
    · obtain ⟨h8, hb, hct, hLs, hSs, hru, h18, hlo9, her9, hrp9, hT9, hK9, hv0, hv1, hv2, hv17⟩ := od
      have e : ∀ j r, 4 ≤ j → upL L kn r j = L j := fun j r hj => if_neg (by omega)
      refine ⟨h8, hb, hct, upL_lt hLs (wrI_lt hm (hLs kn)), hSs, ?_, h18, ?_, ?_, ?_, hT9, hK9, hv0, hv1, hv2, hv17⟩
      · show okR (upL L kn _ 4)
        rw [e 4 _ (by decide)]; exact hru
      · show ∀ x ∈ upL L kn _ 5, x < 256
        rw [e 5 _ (by decide)]; exact hlo9
      · show ∀ x ∈ upL L kn _ 6, x < 256
        rw [e 6 _ (by decide)]; exact her9
      · show ∀ x ∈ upL L kn _ 7, x < 256
        rw [e 7 _ (by decide)]; exact hrp9
    · obtain ⟨e1, e2, e3, e4, eL⟩ := oe
      have e : ∀ j r, 4 ≤ j → upL L kn r j = L j := fun j r hj => if_neg (by omega)
      have hb : ∀ j, j < 2 → (∀ x ∈ L j, x < 2) → ∀ y ∈ upL L kn (wrI (mkD kn) (bf kn) (L kn) a x) j, y < 2 := by
        intro j hj2 hj
        unfold upL
        split
        · rename_i z; subst z
          rw [show mkD j = 1 from if_pos hj2]
          exact wrI_b hj
        · exact hj
      refine ⟨fun j hj => ?_, ⟨hb 0 (by decide) e2.1, hb 1 (by decide) e2.2⟩, ?_, e4, eL⟩
      · show (upL L kn (wrI (mkD kn) (bf kn) (L kn) a x) j).length ≤ 400 ∧ bf j + (upL L kn (wrI (mkD kn) (bf kn) (L kn) a x) j).length ≤ 65536
        unfold upL
        split
        · rename_i z; subst z; rw [wrI_len]; exact e1 j hj
        · exact e1 j hj
      · show (upL L kn _ 4).length ≤ 48 ∧ (upL L kn _ 5).length ≤ 64 ∧ (upL L kn _ 6).length ≤ 256 ∧ (upL L kn _ 7).length ≤ 253 ∧ ((upL L kn _ 7).length = 0 → v 17 = 0)
        rw [e 4 _ (by decide), e 5 _ (by decide), e 6 _ (by decide), e 7 _ (by decide)]
        exact e3
  · exact ov_up h
theorem ov_bu {t : Nat} {g : GS} {d n : Int32} (h : okV (bnd t) g) : okV (bnd (t + 1)) (buG g d n) := by
  unfold buG
  split
  · rename_i hc
    simp only [buC, Bool.and_eq_true] at hc
    have hi := dIn_cl (len6 h) hc.1
    have a2 := inI_cl (by decide) (by decide) hc.2
    obtain ⟨od, oe, o20⟩ := gD_ok h hi
    refine ov_dev h ?_ oe o20
    obtain ⟨h8, hb, hct, hLs, hSs, hru, h18, r⟩ := od
    exact ⟨h8, hb, hct, hLs, hSs, hru, (show n.toNatClampNeg < 100 by omega), r⟩
  · exact ov_up h
theorem ov_lm {t : Nat} {g : GS} {d fr n lo hi : Int32} (h : okV (bnd t) g) : okV (bnd (t + 1)) (lmG g d fr n lo hi) := by
  unfold lmG
  split
  · rename_i hc
    simp only [lmC, Bool.and_eq_true, decide_eq_true_eq] at hc
    obtain ⟨c1, c2, c3, c4, c5, c6, c7⟩ := hc
    have hdi := dIn_cl (len6 h) c1
    have a2 := inI_cl (by decide) (by decide) c2
    have a3 := inI_cl (by decide) (by decide) c3
    have a5 := inI_cl (by decide) (by decide) c5
    have a6 : hi.toNatClampNeg ≤ 65535 := by
      obtain ⟨m, rfl, m1, m2⟩ := inI_nat (by decide) (by decide) c5
      exact (inI_cl (a := m) (by decide) (by omega) c6).2
    obtain ⟨od, oe, o20⟩ := gD_ok h hdi
    generalize gD g d.toNatClampNeg = s at od oe o20 c7
    obtain ⟨v, bf, lm, ct, L, S, B⟩ := s
    generalize fr.toNatClampNeg = fn at a2 c4
    generalize n.toNatClampNeg = nn at a3 c4
    generalize lo.toNatClampNeg = ln at a5
    generalize hi.toNatClampNeg = hn at a6
    simp only at c7 o20
    refine ov_dev h ?_ ?_ o20
    · obtain ⟨h8, hb, r⟩ := od
      refine ⟨?_, ?_, r⟩
      · show v 8 + 1 ≤ 8
        omega
      · intro i
        show lmA lm (v 8) fn nn ln hn i < 200000
        unfold lmA upN
        have := hb i
        (repeat' split) <;> omega
    · obtain ⟨e1, e2, e3, e4, eL⟩ := oe
      refine ⟨e1, e2, e3, e4, ?_⟩
      intro i hi9
      have hi8 : i < v 8 + 1 := hi9
      show lmA lm (v 8) fn nn ln hn (4 * i) ≤ lmA lm (v 8) fn nn ln hn (4 * i + 1) ∧ lmA lm (v 8) fn nn ln hn (4 * i + 1) < 65536 ∧ lmA lm (v 8) fn nn ln hn (4 * i + 2) < 65536 ∧ lmA lm (v 8) fn nn ln hn (4 * i + 3) < 65536
      rcases Nat.lt_or_ge i (v 8) with z | z
      · have q := eL i z
        have e : ∀ j, j < 4 * v 8 → lmA lm (v 8) fn nn ln hn j = lm j := by
          intro j hj
          unfold lmA upN
          rw [if_neg (by omega), if_neg (by omega), if_neg (by omega), if_neg (by omega)]
        rw [e _ (by omega), e _ (by omega), e _ (by omega), e _ (by omega)]
        exact q
      · have z9 : i = v 8 := by omega
        subst z9
        have e0 : lmA lm (v 8) fn nn ln hn (4 * v 8) = fn := by
          unfold lmA upN
          rw [if_neg (by omega), if_neg (by omega), if_neg (by omega), if_pos (by omega)]
        have e1 : lmA lm (v 8) fn nn ln hn (4 * v 8 + 1) = fn + nn - 1 := by
          unfold lmA upN
          rw [if_neg (by omega), if_neg (by omega), if_pos (by omega)]
        have e2 : lmA lm (v 8) fn nn ln hn (4 * v 8 + 2) = ln := by
          unfold lmA upN
          rw [if_neg (by omega), if_pos (by omega)]
        have e3 : lmA lm (v 8) fn nn ln hn (4 * v 8 + 3) = hn := by
          unfold lmA upN
          rw [if_pos (by omega)]
        rw [e0, e1, e2, e3]
        omega
  · exact ov_up h
