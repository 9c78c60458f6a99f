/-! texts of the reference: facts about sorted shelves -/
theorem set_perm {α : Type} {L : List α} {i : Nat} {x y : α} (h : L[i]? = some x) : (L.set i y).Perm (y :: L.eraseIdx i) := by
  have hi := (List.getElem?_eq_some_iff.mp h).1
  have p := ei_perm (L.set i y) i (List.getElem?_set_self hi)
  rw [List.eraseIdx_set_eq] at p
  exact p
theorem srt_uniq {l1 l2 : List (Nat × List Nat)} (h1 : (kys l1).Pairwise (· < ·)) (h2 : (kys l2).Pairwise (· < ·)) (p : l1.Perm l2) : l1 = l2 :=
  List.Perm.eq_of_pairwise (le := fun a b => a.1 < b.1) (fun a b _ _ x y => absurd (Nat.lt_trans x y) (Nat.lt_irrefl _)) (List.pairwise_map.mp h1) (List.pairwise_map.mp h2) p
theorem key_ix {M : List (Nat × List Nat)} {k i : Nat} (hb : ∀ e ∈ M, e.1 < 65536) (hk : k < 65536) (h : ixM M (nI k) = some i) : ∃ hi : i < M.length, M[i].1 = k := by
  have hi := ixM_lt h
  refine ⟨hi, ?_⟩
  rw [ixM, List.findIdx?_eq_some_iff_getElem] at h
  have e1 : nI M[i].1 = nI k := by simpa using h.2.1
  exact j_eq_t (Nat.lt_trans (hb _ (List.getElem_mem hi)) (by decide)) (Nat.lt_trans hk (by decide)) e1
theorem sort_st {M : List (Nat × List Nat)} {k i0 j : Nat} {r : List Nat} (hn : (M.map (·.1)).Nodup) (hb : ∀ e ∈ M, e.1 < 65536) (hk : k < 65536) (h1 : ixM M (nI k) = some i0) (h2 : ixM (sortT M) (nI k) = some j) : sortT (stM M i0 r) = stM (sortT M) j r := by
  have hb2 : ∀ e ∈ sortT M, e.1 < 65536 := fun e he => hb e ((sortT_perm M).mem_iff.mp he)
  obtain ⟨hi, e1⟩ := key_ix hb hk h1
  obtain ⟨hj, e2⟩ := key_ix hb2 hk h2
  have m2 : (sortT M)[j] ∈ M := (sortT_perm M).mem_iff.mp (List.getElem_mem hj)
  have e3 : M[i0] = (sortT M)[j] := key_inj hn (List.getElem_mem hi) m2 (e1.trans e2.symm)
  have hn2 : ((stM M i0 r).map (·.1)).Nodup := by
    have z := kys_st (M := M) (i := i0) (r := r)
    unfold kys at z
    rw [z]
    exact hn
  refine srt_uniq (sort_srt hn2) (by rw [kys_st]; exact sort_srt hn) ((sortT_perm _).trans ?_)
  have p1 : (stM M i0 r).Perm ((keM M i0, r) :: M.eraseIdx i0) := set_perm (List.getElem?_eq_getElem hi)
  have p2 : (stM (sortT M) j r).Perm ((keM (sortT M) j, r) :: (sortT M).eraseIdx j) := set_perm (List.getElem?_eq_getElem hj)
  have p3 : (M[i0] :: M.eraseIdx i0).Perm ((sortT M)[j] :: (sortT M).eraseIdx j) := (ei_perm M i0 (List.getElem?_eq_getElem hi)).symm.trans ((sortT_perm M).symm.trans (ei_perm _ j (List.getElem?_eq_getElem hj)))
  rw [e3] at p3
  have p4 := p3.cons_inv
  refine p1.trans (List.Perm.trans ?_ p2.symm)
  rw [keM_g hi, keM_g hj, e3]
  exact p4.cons _
theorem ins_at {k : Nat} {r : List Nat} : ∀ {T : List (Nat × List Nat)} {j : Nat}, j ≤ T.length → (∀ i, i < j → keM T i < k) → (∀ i, j ≤ i → i < T.length → k < keM T i) → insT (k, r) T = T.take j ++ (k, r) :: T.drop j
  | [], j, hj, _, _ => by
    have : j = 0 := by simpa using hj
    subst this
    rfl
  | x :: l, 0, _, _, h2 => by
    have z : k < x.1 := h2 0 (Nat.le_refl _) (Nat.succ_pos _)
    rw [insT, if_pos z]
    rfl
  | x :: l, j + 1, hj, h1, h2 => by
    have z : x.1 < k := h1 0 (Nat.succ_pos _)
    rw [insT, if_neg (show ¬ (k, r).1 < x.1 from Nat.not_lt_of_lt z)]
    rw [ins_at (T := l) (j := j) (Nat.le_of_succ_le_succ hj) (fun i hi => h1 (i + 1) (Nat.succ_lt_succ hi)) (fun i hi hl => h2 (i + 1) (Nat.succ_le_succ hi) (Nat.succ_lt_succ hl))]
    rfl
/-- what the arrays tell at a place -/
def sl9 (K Z : List Nat) (C : Nat → List Nat) (i : Nat) (e : Nat × List Nat) : Prop := K.getD i 0 = e.1 ∧ Z.getD i 0 = e.2.length ∧ (C i).take e.2.length = e.2
/-- the arrays tell T, but for a hole at j -/
def sh9 (T : List (Nat × List Nat)) (j : Nat) (K Z : List Nat) (C : Nat → List Nat) : Prop := K.length = 10 ∧ Z.length = 10 ∧ (∀ i, i < 10 → (C i).length = 40) ∧ (∀ i (h : i < T.length), i < j → sl9 K Z C i T[i]) ∧ (∀ i (h : i < T.length), j ≤ i → sl9 K Z C (i + 1) T[i])
theorem gD_set {r : List Nat} {i j x : Nat} (hj : j < r.length) : (r.set j x).getD i 0 = if i = j then x else r.getD i 0 := by
  simp only [List.getD]
  by_cases e : i = j
  · subst e
    rw [List.getElem?_set_self hj, if_pos rfl]
    rfl
  · rw [List.getElem?_set_ne (Ne.symm e), if_neg e]
theorem sh9_step {T : List (Nat × List Nat)} {j : Nat} {K Z : List Nat} {C : Nat → List Nat} (hj : 0 < j) (hT : j ≤ T.length) (h9 : T.length < 10) (h : sh9 T j K Z C) : sh9 T (j - 1) (K.set j (K.getD (j - 1) 0)) (Z.set j (Z.getD (j - 1) 0)) (upL C j (C (j - 1))) := by
  obtain ⟨hK, hZ, hC, h1, h2⟩ := h
  refine ⟨by rw [List.length_set]; exact hK, by rw [List.length_set]; exact hZ, fun i hi => ?_, fun i hi hij => ?_, fun i hi hij => ?_⟩
  · unfold upL
    split
    · exact hC _ (by omega)
    · exact hC i hi
  · have z := h1 i hi (by omega)
    exact ⟨by rw [gD_set (by omega), if_neg (by omega)]; exact z.1, by rw [gD_set (by omega), if_neg (by omega)]; exact z.2.1, by rw [upL_n (by omega)]; exact z.2.2⟩
  · by_cases e : i + 1 = j
    · have z := h1 i hi (by omega)
      have e2 : j - 1 = i := by omega
      rw [e2]
      exact ⟨by rw [gD_set (by omega), if_pos e]; exact z.1, by rw [gD_set (by omega), if_pos e]; exact z.2.1, by rw [e, upL_s]; exact z.2.2⟩
    · have z := h2 i hi (by omega)
      exact ⟨by rw [gD_set (by omega), if_neg (by omega)]; exact z.1, by rw [gD_set (by omega), if_neg (by omega)]; exact z.2.1, by rw [upL_n (by omega)]; exact z.2.2⟩
/-- the hole filled -/
theorem sh9_ins {T : List (Nat × List Nat)} {j k : Nat} {tp K Z : List Nat} {C : Nat → List Nat} {c : List Nat} (hT : j ≤ T.length) (h9 : T.length < 10) (h : sh9 T j K Z C) (hc : c.take tp.length = tp) (i : Nat) (hi : i < (T.take j ++ (k, tp) :: T.drop j).length) : sl9 (K.set j k) (Z.set j tp.length) (upL C j c) i (T.take j ++ (k, tp) :: T.drop j)[i] := by
  obtain ⟨hK, hZ, hC, h1, h2⟩ := h
  have hl : (T.take j).length = j := by rw [List.length_take]; omega
  rw [List.length_append, List.length_cons, List.length_drop, hl] at hi
  by_cases a : i < j
  · have z := h1 i (by omega) a
    rw [List.getElem_append_left (by rw [hl]; exact a), List.getElem_take]
    exact ⟨by rw [gD_set (by omega), if_neg (by omega)]; exact z.1, by rw [gD_set (by omega), if_neg (by omega)]; exact z.2.1, by rw [upL_n (by omega)]; exact z.2.2⟩
  · by_cases b : i = j
    · have e : (T.take j ++ (k, tp) :: T.drop j)[i]'(by rw [List.length_append, List.length_cons, List.length_drop, hl]; exact hi) = (k, tp) := by
        rw [List.getElem_append_right (by rw [hl]; omega)]
        simp only [hl, b, Nat.sub_self, List.getElem_cons_zero]
      rw [e]
      exact ⟨by rw [gD_set (by omega), if_pos b], by rw [gD_set (by omega), if_pos b], by rw [b, upL_s]; exact hc⟩
    · obtain ⟨q, rfl⟩ : ∃ q, i = q + 1 := ⟨i - 1, by omega⟩
      have e : (T.take j ++ (k, tp) :: T.drop j)[q + 1]'(by rw [List.length_append, List.length_cons, List.length_drop, hl]; exact hi) = T[q]'(by omega) := by
        have e0 : (T.take j ++ (k, tp) :: T.drop j)[q + 1]? = some (T[q]'(by omega)) := by
          rw [List.getElem?_append_right (by rw [hl]; omega), hl, show q + 1 - j = (q - j) + 1 by omega, List.getElem?_cons_succ, List.getElem?_drop, show j + (q - j) = q by omega, List.getElem?_eq_getElem (by omega)]
        exact (List.getElem?_eq_some_iff.mp e0).2
      rw [e]
      have z := h2 q (by omega) (by omega)
      exact ⟨by rw [gD_set (by omega), if_neg (by omega)]; exact z.1, by rw [gD_set (by omega), if_neg (by omega)]; exact z.2.1, by rw [upL_n (by omega)]; exact z.2.2⟩
/-- arrays whose every cell is known -/
theorem nI_any (x : Int32) : ∃ n, x = nI n := ⟨x.toBitVec.toNat, by
  apply Int32.toBitVec_inj.mp
  apply BitVec.eq_of_toNat_eq
  rw [pk_tn x.toBitVec.isLt]⟩
theorem full_ex {n : Nat} {f : Nat → Int32} {r : List Nat} (hl : r.length ≤ n) (hf : ∀ i, i < r.length → f i = nI (r.getD i 0)) : ∀ m, r.length + m ≤ n → ∃ q : List Nat, q.length = m ∧ ∀ i, i < (r ++ q).length → f i = nI ((r ++ q).getD i 0)
  | 0, _ => ⟨[], rfl, by rw [List.append_nil]; exact hf⟩
  | m + 1, h => by
    obtain ⟨q, hq, hg⟩ := full_ex hl hf m (by omega)
    obtain ⟨v, hv⟩ := nI_any (f (r.length + m))
    refine ⟨q ++ [v], by rw [List.length_append, hq]; rfl, fun i hi => ?_⟩
    rw [← List.append_assoc] at hi ⊢
    rw [List.length_append, List.length_append, hq] at hi
    have hi2 : i < r.length + m + 1 := hi
    by_cases e : i < r.length + m
    · rw [hg i (by rw [List.length_append, hq]; exact e)]
      simp only [List.getD]
      rw [List.getElem?_append_left (l₁ := r ++ q) (l₂ := [v]) (show i < (r ++ q).length by rw [List.length_append, hq]; exact e)]
    · have e2 : i = r.length + m := by omega
      rw [e2, hv]
      simp only [List.getD]
      rw [List.getElem?_append_right (by rw [List.length_append, hq]; exact Nat.le_refl _), List.length_append, hq, Nat.sub_self]
      rfl
theorem iar_full {a n : Nat} {r : List Nat} {X : List sA} {h : eH} (k : stars (iar a n r :: X) h) : ∃ q : List Nat, r.length + q.length = n ∧ stars (iar a n (r ++ q) :: X) h := by
  obtain ⟨f, ⟨hl, hf⟩, k⟩ := iar_raw k
  obtain ⟨q, hq, hg⟩ := full_ex hl hf (n - r.length) (by omega)
  exact ⟨q, by omega, iar_of ⟨by rw [List.length_append]; omega, hg⟩ k⟩
theorem iar_less {a n : Nat} {r q : List Nat} {X : List sA} {h : eH} (hl : q.length ≤ r.length) (e : ∀ i, i < q.length → r.getD i 0 = q.getD i 0) (k : stars (iar a n r :: X) h) : stars (iar a n q :: X) h := by
  obtain ⟨f, ⟨hl2, hf⟩, k⟩ := iar_raw k
  exact iar_of ⟨by omega, fun i hi => by rw [hf i (by omega), e i hi]⟩ k
theorem lst_full {rm : Nat} {BL : List (Nat × List Nat)} {X : List sA} {h : eH} (k : stars (lst (iaE rm) BL :: X) h) : ∀ m, m ≤ BL.length → ∃ BL' : List (Nat × List Nat), BL'.length = BL.length ∧ adP BL' = adP BL ∧ (∀ i e, i < m → BL[i]? = some e → ∃ e', BL'[i]? = some e' ∧ e'.2.length = rm ∧ e'.2.take e.2.length = e.2) ∧ (∀ i, m ≤ i → BL'[i]? = BL[i]?) ∧ stars (lst (iaE rm) BL' :: X) h
  | 0, _ => ⟨BL, rfl, rfl, fun i e hi => absurd hi (Nat.not_lt_zero i), fun i _ => rfl, k⟩
  | m + 1, hm => by
    obtain ⟨BL', l, a, f, g, k'⟩ := lst_full k m (by omega)
    obtain ⟨⟨b, r⟩, he⟩ : ∃ e, BL[m]? = some e := ⟨_, List.getElem?_eq_getElem (show m < BL.length by omega)⟩
    have he' : BL'[m]? = some (b, r) := (g m (Nat.le_refl _)).trans he
    obtain ⟨q, hq, k2⟩ := iar_full (show stars (iar b rm r :: lst (iaE rm) (BL'.eraseIdx m) :: X) h from lst_o m he' k')
    have k3 := lst_c (f := iaE rm) (x := (b, r ++ q)) m (by omega) k2
    refine ⟨BL'.set m (b, r ++ q), by rw [List.length_set]; exact l, by rw [← adP_set he' (r ++ q)]; exact a, fun i e hi hx => ?_, fun i hi => ?_, k3⟩
    · by_cases z : i = m
      · subst z
        rw [he] at hx
        cases hx
        exact ⟨(b, r ++ q), List.getElem?_set_self (by omega), by show (r ++ q).length = rm; rw [List.length_append]; exact hq, by show (r ++ q).take r.length = r; exact List.take_left⟩
      · obtain ⟨e', x1, x2⟩ := f i e (by omega) hx
        exact ⟨e', by rw [List.getElem?_set_ne (Ne.symm z)]; exact x1, x2⟩
    · rw [List.getElem?_set_ne (by omega)]
      exact g i (by omega)
theorem lst_less {rm : Nat} {BL : List (Nat × List Nat)} {T : Nat → List Nat} {X : List sA} {h : eH} (hT : ∀ i e, BL[i]? = some e → (T i).length ≤ e.2.length ∧ ∀ q, q < (T i).length → e.2.getD q 0 = (T i).getD q 0) (k : stars (lst (iaE rm) BL :: X) h) : ∀ m, m ≤ BL.length → ∃ BL' : List (Nat × List Nat), BL'.length = BL.length ∧ adP BL' = adP BL ∧ (∀ i e, i < m → BL'[i]? = some e → e.2 = T i) ∧ (∀ i, m ≤ i → BL'[i]? = BL[i]?) ∧ stars (lst (iaE rm) BL' :: X) h
  | 0, _ => ⟨BL, rfl, rfl, fun i e hi => absurd hi (Nat.not_lt_zero i), fun i _ => rfl, k⟩
  | m + 1, hm => by
    obtain ⟨BL', l, a, f, g, k'⟩ := lst_less hT k m (by omega)
    obtain ⟨⟨b, r⟩, he⟩ : ∃ e, BL[m]? = some e := ⟨_, List.getElem?_eq_getElem (show m < BL.length by omega)⟩
    have he' : BL'[m]? = some (b, r) := (g m (Nat.le_refl _)).trans he
    obtain ⟨t1, t2⟩ := hT m _ he
    have k2 := iar_less t1 t2 (show stars (iar b rm r :: lst (iaE rm) (BL'.eraseIdx m) :: X) h from lst_o m he' k')
    have k3 := lst_c (f := iaE rm) (x := (b, T m)) m (by omega) k2
    refine ⟨BL'.set m (b, T m), by rw [List.length_set]; exact l, by rw [← adP_set he' (T m)]; exact a, fun i e hi hx => ?_, fun i hi => ?_, k3⟩
    · by_cases z : i = m
      · subst z
        rw [List.getElem?_set_self (by omega)] at hx
        cases hx
        rfl
      · rw [List.getElem?_set_ne (Ne.symm z)] at hx
        exact f i e (by omega) hx
    · rw [List.getElem?_set_ne (by omega)]
      exact g i (by omega)
theorem grd_full {a n rm : Nat} {C : Nat → List Nat} {X : List sA} {h : eH} (k : stars (grd a n rm C :: X) h) : ∃ C' : Nat → List Nat, (∀ i, i < n → (C' i).length = rm ∧ (C' i).take (C i).length = C i) ∧ stars (grd a n rm C' :: X) h := by
  obtain ⟨BL, g, k⟩ := grd_o k
  obtain ⟨BL', l, e, f, -, k2⟩ := lst_full (stars_perm (List.Perm.swap _ _ _) k) BL.length (Nat.le_refl _)
  refine ⟨fun i => (BL'[i]?.getD (0, [])).2, fun i hi => ?_, ?_⟩
  · obtain ⟨b, hb⟩ := gOK_at g hi
    obtain ⟨e', x1, x2, x3⟩ := f i _ (List.getElem?_eq_some_iff.mp hb).1 hb
    show ((BL'[i]?.getD (0, [])).2).length = rm ∧ ((BL'[i]?.getD (0, [])).2).take (C i).length = C i
    rw [x1]
    exact ⟨x2, x3⟩
  · refine grd_c (BL := BL') ⟨l.trans g.1, fun i e9 he => ?_⟩ ?_
    · show e9.2 = (BL'[i]?.getD (0, [])).2
      rw [he]
      rfl
    · rw [e]
      exact stars_perm (List.Perm.swap _ _ _) k2
theorem grd_less {a n rm : Nat} {C C' : Nat → List Nat} {X : List sA} {h : eH} (hT : ∀ i, i < n → (C' i).length ≤ (C i).length ∧ ∀ q, q < (C' i).length → (C i).getD q 0 = (C' i).getD q 0) (k : stars (grd a n rm C :: X) h) : stars (grd a n rm C' :: X) h := by
  obtain ⟨BL, g, k⟩ := grd_o k
  obtain ⟨BL', l, e, f, -, k2⟩ := lst_less (T := C') (fun i e9 he => by
    have hi : i < n := by rw [← g.1]; exact (List.getElem?_eq_some_iff.mp he).1
    rw [g.2 i e9 he]
    exact hT i hi) (stars_perm (List.Perm.swap _ _ _) k) BL.length (Nat.le_refl _)
  refine grd_c (BL := BL') ⟨l.trans g.1, fun i e9 he => f i e9 (by rw [← l]; exact (List.getElem?_eq_some_iff.mp he).1) he⟩ ?_
  rw [e]
  exact stars_perm (List.Perm.swap _ _ _) k2
