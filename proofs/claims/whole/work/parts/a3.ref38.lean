/-! the reference: scans of the master -/
theorem rE_sc {SC : List SCE} {i : Nat} (hi : i < SC.length) : rE1 (SC.map scE) i = (SC.getD i ([], 0, 0, 0, none)).1 ∧ rE2 (SC.map scE) i = (scE (SC.getD i ([], 0, 0, 0, none))).2 := by
  have e : SC[i]? = some SC[i] := List.getElem?_eq_getElem hi
  constructor <;> simp only [rE1, rE2, List.getD, List.getElem?_map, e, Option.map_some, Option.getD_some] <;> rfl
theorem rqE_ok {B : Nat → Nat} {RQ : List RQE} (h : ∀ e ∈ RQ, okQ B e) (hB : B 5 < 2 ^ 30) : ∀ i, i < (RQ.map rqE).length → 2 ≤ (rE2 (RQ.map rqE) i).length ∧ (rE2 (RQ.map rqE) i).getD 1 0 < 2 ^ 31 := by
  intro i hi
  rw [List.length_map] at hi
  have e : rE2 (RQ.map rqE) i = (rqE RQ[i]).2 := by simp only [rE2, List.getD, List.getElem?_map, List.getElem?_eq_getElem hi, Option.map_some, Option.getD_some]
  rw [e]
  have q := (h _ (List.getElem_mem hi)).2.2.1
  exact ⟨Nat.le_of_ble_eq_true rfl, Nat.lt_of_le_of_lt (show RQ[i].2.1 ≤ B 5 from q) (by omega)⟩
theorem inR_none {RQ : List RQE} : inR RQ none = false := by
  rw [inR, List.any_eq_false]
  intro e _
  simp
theorem sc1_at {s : MS} {c i j : Nat} (h : j ≠ i) : (sc1S s c i).2.2.2.1[j]? = s.2.2.2.1[j]? := by
  unfold sc1S
  split
  · rfl
  · split <;> exact List.getElem?_set_ne (Ne.symm h)
theorem scS_at {c : Nat} {M : MS} : ∀ i j, i ≤ j → (scS c i M).2.2.2.1[j]? = M.2.2.2.1[j]?
  | 0, j, _ => rfl
  | i + 1, j, h => by rw [scS, sc1_at (by omega), scS_at i j (by omega)]
theorem scS_A {c i : Nat} {M : MS} : scA (scS c i M) i = scA M i := by
  simp only [scA, List.getD]
  rw [scS_at i i (Nat.le_refl _)]
set_option maxRecDepth 20000 in
theorem K_scan_n {m i c p9 ad ev tm : Nat} {F w v B : Nat → Nat} {bg : Bool} {p er : List Nat} {RQ : List RQE} {RS : List RSE} {SC : List SCE} {mb : Nat → Bool} (hM : okMS B (v, RQ, RS, SC, er, mb)) (hB : ∀ k, B k < 2 ^ 30) (hi : i < SC.length) (hc : c < 2 ^ 30) (hsc : scA (v, RQ, RS, SC, er, mb) i = (p, ev, ad, tm, none)) (ht : c ≤ tm) : CA mX15_scan [.ref m, .int (nI i)] [rmo m F (upN (upN w 18 c) 15 (v 9)) bg, rrw (F 12) 16 3 (RQ.map rqE), rrw (F 14) 8 4 (SC.map scE)] (fun x K => x = none ∧ K = [rmo m F (upN (upN w 18 c) 15 ((sc1S (v, RQ, RS, SC, er, mb) c i).1 9)) bg, rrw (F 12) 16 3 ((sc1S (v, RQ, RS, SC, er, mb) c i).2.1.map rqE), rrw (F 14) 8 4 ((sc1S (v, RQ, RS, SC, er, mb) c i).2.2.2.1.map scE)]) 2 70 0 0 := by
  have hg : SC.getD i ([], 0, 0, 0, none) = (p, ev, ad, tm, none) := hsc
  obtain ⟨r1, r2⟩ := rE_sc hi
  rw [hg] at r1 r2
  have hin : (p, ev, ad, tm, none) ∈ SC := by rw [← hsc]; exact scA_mem (M := (v, RQ, RS, SC, er, mb)) hi
  obtain ⟨c1, c2, c3, c4, c5, c6⟩ := hM.2.2.2.1 _ hin
  have c2' : 1 ≤ p.length ∧ p.length ≤ 253 := c2
  have c3' : 50 ≤ ev ∧ ev ≤ 30000 := c3
  have c5' : tm ≤ B 9 := c5
  have b9 := hB 9
  have b5 := hB 5
  have l16 : RQ.length ≤ 16 := hM.2.2.2.2.2.1
  have l8 : SC.length ≤ 8 := hM.2.2.2.2.2.2.2.1
  have e1 : ∀ f : Option Nat, (SC.map scE).set i (rE1 (SC.map scE) i, [ad, ev, tm + ev, oN f]) = (SC.set i (p, ev, ad, tm + ev, f)).map scE := fun f => by rw [List.map_set, r1]; rfl
  refine CA.to (k_X15_scan_n (E := RQ.map rqE) (G := SC.map scE) (nx := v 9) (c := c) (ad := ad) (ev := ev) (tm := tm) (w := w) (by rw [List.length_map]; exact hi) (by rw [List.length_map]; exact l8) (by rw [List.length_map]; exact l16) (by rw [r1]; exact c2'.2) r2 (by omega) (by omega) (by omega)) ?_
  rintro r K h ⟨x1, x2⟩ hK
  subst x2
  refine ⟨_, ⟨x1, rfl⟩, ?_⟩
  by_cases z : tm = c
  · rw [if_neg (fun y => y z)] at hK
    have hlt : ¬ c < (scA (v, RQ, RS, SC, er, mb) i).2.2.2.1 := by rw [hsc]; show ¬ c < tm; omega
    by_cases y : (RQ.map rqE).length = 16 ∨ False
    · rw [if_pos y] at hK
      have hno : ¬ (RQ.length < 16 ∧ inR RQ (scA (v, RQ, RS, SC, er, mb) i).2.2.2.2 = false) := by
        rw [hsc]
        intro q
        rcases y with y | y
        · rw [List.length_map] at y; omega
        · exact y
      rw [show sc1S (v, RQ, RS, SC, er, mb) c i = (v, RQ, RS, SC.set i (p, ev, ad, tm + ev, none), er, mb) by rw [sc1S, if_neg hlt, if_neg hno, hsc]]
      rw [show (SC.map scE).set i (rE1 (SC.map scE) i, [ad, ev, tm + ev, 4294967295]) = _ from e1 none] at hK
      exact hK
    · rw [if_neg y] at hK
      have hyes : RQ.length < 16 ∧ inR RQ (scA (v, RQ, RS, SC, er, mb) i).2.2.2.2 = false := by
        rw [hsc]
        refine ⟨?_, ?_⟩
        · have : ¬ RQ.length = 16 := fun q => y (Or.inl (by rw [List.length_map]; exact q))
          omega
        · exact inR_none
      rw [show sc1S (v, RQ, RS, SC, er, mb) c i = (upN v 9 (v 9 + 1), RQ ++ [(p, v 9, ad, 0)], RS, SC.set i (p, ev, ad, tm + ev, some (v 9)), er, mb) by rw [sc1S, if_neg hlt, if_pos hyes, hsc]]
      rw [show (SC.map scE).set i (rE1 (SC.map scE) i, [ad, ev, tm + ev, v 9]) = _ from e1 (some (v 9)), r1] at hK
      rw [← (show List.map rqE (RQ ++ [((p, v 9, ad, 0) : RQE)]) = RQ.map rqE ++ [(p, [ad, v 9, 0])] by rw [List.map_append]; rfl)] at hK
      exact hK
  · rw [if_pos z] at hK
    rw [show sc1S (v, RQ, RS, SC, er, mb) c i = (v, RQ, RS, SC, er, mb) from if_pos (by rw [hsc]; show c < tm; omega)]
    exact hK
set_option maxRecDepth 20000 in
theorem K_scan_s {m i c p9 ad ev tm fo : Nat} {F w v B : Nat → Nat} {bg : Bool} {p er : List Nat} {RQ : List RQE} {RS : List RSE} {SC : List SCE} {mb : Nat → Bool} (hM : okMS B (v, RQ, RS, SC, er, mb)) (hB : ∀ k, B k < 2 ^ 30) (hi : i < SC.length) (hc : c < 2 ^ 30) (hsc : scA (v, RQ, RS, SC, er, mb) i = (p, ev, ad, tm, (some fo))) (ht : c ≤ tm) : CA mX15_scan [.ref m, .int (nI i)] [rmo m F (upN (upN w 18 c) 15 (v 9)) bg, rrw (F 12) 16 3 (RQ.map rqE), rrw (F 14) 8 4 (SC.map scE)] (fun x K => x = none ∧ K = [rmo m F (upN (upN w 18 c) 15 ((sc1S (v, RQ, RS, SC, er, mb) c i).1 9)) bg, rrw (F 12) 16 3 ((sc1S (v, RQ, RS, SC, er, mb) c i).2.1.map rqE), rrw (F 14) 8 4 ((sc1S (v, RQ, RS, SC, er, mb) c i).2.2.2.1.map scE)]) 2 70 0 0 := by
  have hg : SC.getD i ([], 0, 0, 0, none) = (p, ev, ad, tm, (some fo)) := hsc
  obtain ⟨r1, r2⟩ := rE_sc hi
  rw [hg] at r1 r2
  have hin : (p, ev, ad, tm, (some fo)) ∈ SC := by rw [← hsc]; exact scA_mem (M := (v, RQ, RS, SC, er, mb)) hi
  obtain ⟨c1, c2, c3, c4, c5, c6⟩ := hM.2.2.2.1 _ hin
  have c2' : 1 ≤ p.length ∧ p.length ≤ 253 := c2
  have c3' : 50 ≤ ev ∧ ev ≤ 30000 := c3
  have c5' : tm ≤ B 9 := c5
  have b9 := hB 9
  have b5 := hB 5
  have l16 : RQ.length ≤ 16 := hM.2.2.2.2.2.1
  have l8 : SC.length ≤ 8 := hM.2.2.2.2.2.2.2.1
  have e1 : ∀ f : Option Nat, (SC.map scE).set i (rE1 (SC.map scE) i, [ad, ev, tm + ev, oN f]) = (SC.set i (p, ev, ad, tm + ev, f)).map scE := fun f => by rw [List.map_set, r1]; rfl
  refine CA.to (k_X15_scan_s (E := RQ.map rqE) (G := SC.map scE) (nx := v 9) (c := c) (ad := ad) (ev := ev) (tm := tm) (fo := fo) (w := w) (by rw [List.length_map]; exact hi) (by rw [List.length_map]; exact l8) (by rw [List.length_map]; exact l16) (by rw [r1]; exact c2'.2) r2 (by omega) (by omega) (by omega) (by have := c6 fo rfl; omega) (rqE_ok hM.2.1 b5)) ?_
  rintro r K h ⟨x1, x2⟩ hK
  subst x2
  refine ⟨_, ⟨x1, rfl⟩, ?_⟩
  by_cases z : tm = c
  · rw [if_neg (fun y => y z)] at hK
    have hlt : ¬ c < (scA (v, RQ, RS, SC, er, mb) i).2.2.2.1 := by rw [hsc]; show ¬ c < tm; omega
    by_cases y : (RQ.map rqE).length = 16 ∨ irN (RQ.map rqE) fo (RQ.map rqE).length = true
    · rw [if_pos y] at hK
      have hno : ¬ (RQ.length < 16 ∧ inR RQ (scA (v, RQ, RS, SC, er, mb) i).2.2.2.2 = false) := by
        rw [hsc]
        intro q
        rcases y with y | y
        · rw [List.length_map] at y; omega
        · rw [irN_R] at y; exact absurd (y.symm.trans q.2) (by decide)
      rw [show sc1S (v, RQ, RS, SC, er, mb) c i = (v, RQ, RS, SC.set i (p, ev, ad, tm + ev, (some fo)), er, mb) by rw [sc1S, if_neg hlt, if_neg hno, hsc]]
      rw [show (SC.map scE).set i (rE1 (SC.map scE) i, [ad, ev, tm + ev, fo]) = _ from e1 (some fo)] at hK
      exact hK
    · rw [if_neg y] at hK
      have hyes : RQ.length < 16 ∧ inR RQ (scA (v, RQ, RS, SC, er, mb) i).2.2.2.2 = false := by
        rw [hsc]
        refine ⟨?_, ?_⟩
        · have : ¬ RQ.length = 16 := fun q => y (Or.inl (by rw [List.length_map]; exact q))
          omega
        · have q : ¬ irN (RQ.map rqE) fo (RQ.map rqE).length = true := fun q => y (Or.inr q); rw [irN_R] at q; exact Bool.eq_false_iff.mpr q
      rw [show sc1S (v, RQ, RS, SC, er, mb) c i = (upN v 9 (v 9 + 1), RQ ++ [(p, v 9, ad, 0)], RS, SC.set i (p, ev, ad, tm + ev, some (v 9)), er, mb) by rw [sc1S, if_neg hlt, if_pos hyes, hsc]]
      rw [show (SC.map scE).set i (rE1 (SC.map scE) i, [ad, ev, tm + ev, v 9]) = _ from e1 (some (v 9)), r1] at hK
      rw [← (show List.map rqE (RQ ++ [((p, v 9, ad, 0) : RQE)]) = RQ.map rqE ++ [(p, [ad, v 9, 0])] by rw [List.map_append]; rfl)] at hK
      exact hK
  · rw [if_pos z] at hK
    rw [show sc1S (v, RQ, RS, SC, er, mb) c i = (v, RQ, RS, SC, er, mb) from if_pos (by rw [hsc]; show c < tm; omega)]
    exact hK
theorem K_scan {m i c : Nat} {F w B : Nat → Nat} {bg : Bool} {M : MS} (hM : okMS B M) (hB : ∀ k, B k < 2 ^ 30) (hi : i < M.2.2.2.1.length) (hc : c < 2 ^ 30) (ht : c ≤ (scA M i).2.2.2.1) : CA mX15_scan [.ref m, .int (nI i)] [rmo m F (upN (upN w 18 c) 15 (M.1 9)) bg, rrw (F 12) 16 3 (M.2.1.map rqE), rrw (F 14) 8 4 (M.2.2.2.1.map scE)] (fun x K => x = none ∧ K = [rmo m F (upN (upN w 18 c) 15 ((sc1S M c i).1 9)) bg, rrw (F 12) 16 3 ((sc1S M c i).2.1.map rqE), rrw (F 14) 8 4 ((sc1S M c i).2.2.2.1.map scE)]) 2 70 0 0 := by
  obtain ⟨v, RQ, RS, SC, er, mb⟩ := M
  rcases hsc : scA (v, RQ, RS, SC, er, mb) i with ⟨p, ev, ad, tm, fo⟩
  rw [hsc] at ht
  cases fo with
  | none => exact K_scan_n (p9 := 0) hM hB hi hc hsc ht
  | some fo => exact K_scan_s (p9 := 0) hM hB hi hc hsc ht
set_option maxRecDepth 20000 in
set_option maxHeartbeats 2000000 in
theorem l_sc {m c : Nat} {F w B : Nat → Nat} {bg : Bool} {M : MS} {X1 X2 X3 X4 X5 X6 X7 X8 X9 : sA} (hM : okMS B M) (hB : ∀ k, B k + 8 < 2 ^ 30) (hc : c < 2 ^ 30) (hc9 : c + 30000 ≤ B 9) (hT : ∀ e ∈ M.2.2.2.1, c ≤ e.2.2.2.1) {Q : Option Value → eH → Prop} (kk : ∀ h, stars [pt m (.inr (13, moF F (upN (upN w 18 c) 15 ((scS c M.2.2.2.1.length M).1 9)) bg)), rrw (F 12) 16 3 ((scS c M.2.2.2.1.length M).2.1.map rqE), rrw (F 14) 8 4 ((scS c M.2.2.2.1.length M).2.2.2.1.map scE), X1, X2, X3, X4, X5, X6, X7, X8, X9] h → EE mX15_oneTick 7 190 0 0 Q 59 [some (.ref m), none, none] [] h 0 0) : ∀ (n : Nat) (i : Nat) (h : eH), M.2.2.2.1.length - i < n → i ≤ M.2.2.2.1.length → stars [pt m (.inr (13, moF F (upN (upN w 18 c) 15 ((scS c i M).1 9)) bg)), rrw (F 12) 16 3 ((scS c i M).2.1.map rqE), rrw (F 14) 8 4 ((scS c i M).2.2.2.1.map scE), X1, X2, X3, X4, X5, X6, X7, X8, X9] h → EE mX15_oneTick 7 190 0 0 (Q) 37 [some (.ref m), some (.int (nI i)), none] [] h 0 0 := by
  intro n
  induction n with
  | zero => intro i h hlt hle hL; exact absurd hlt (by omega)
  | succ n ih =>
    intro i h hlt hle hL
    have hi9 := ok_sc hM hc9 i hle
    have hl9 := hi9.2
    have l8 : M.2.2.2.1.length ≤ 8 := hM.2.2.2.2.2.2.2.1
    have hlm : ((scS c i M).2.2.2.1.map scE).length = M.2.2.2.1.length := by rw [List.length_map]; exact hl9
    have hB9 : ∀ k, bN B 5 i k < 2 ^ 30 := fun k => by (have := hB k; have := hB 5; show upN B 5 (B 5 + i) k < 2 ^ 30; unfold upN; split <;> omega)
    refine e_iload_n 38 dX15_oneTick_37 rfl rfl ?_
    refine e_aload_n 39 dX15_oneTick_38 rfl rfl ?_
    refine e_get 42 (v := (.ref (F 14))) dX15_oneTick_39 rfl fl_X15_51_13 (stars_at _ 0 hL rfl) rfl ?_
    obtain ⟨A42, u42_0, u42_1, u42_2, u42_3, u42_4⟩ := rrw_V _ 2 hL rfl
    refine e_get 45 (v := (.int (nI ((scS c i M).2.2.2.1.map scE).length))) dX15_oneTick_42 rfl fl_X15_298_11 u42_0 rfl ?_
    refine e_icmp_ge 59 48 dX15_oneTick_45 rfl rfl (fun c45 => ?_) (fun c45 => ?_)
    · have k45 := j_ge_t (a := i) (b := ((scS c i M).2.2.2.1.map scE).length) (by omega) (by omega) c45
      rw [show i = M.2.2.2.1.length by omega] at hL
      refine e_wk [some (.ref m), none, none] ⟨rfl, trivial⟩ ?_
      exact kk h hL
    · have k45 := j_ge_f (a := i) (b := ((scS c i M).2.2.2.1.map scE).length) (by omega) (by omega) c45
      refine e_aload_n 49 dX15_oneTick_48 rfl rfl ?_
      refine e_iload_n 50 dX15_oneTick_49 rfl rfl ?_
      have ht := hT _ (scA_mem (M := M) (i := i) (by omega))
      rw [← scS_A (c := c)] at ht
      refine p_callV 53 hL [0, 1, 2, 3, 4, 5, 6, 7, 8, 9, 10, 11] 12 rfl (by decide) (L1 := [pt m (.inr (13, moF F (upN (upN w 18 c) 15 ((scS c i M).1 9)) bg)), rrw (F 12) 16 3 ((scS c i M).2.1.map rqE), rrw (F 14) 8 4 ((scS c i M).2.2.2.1.map scE)]) (L2 := [X1, X2, X3, X4, X5, X6, X7, X8, X9]) rfl isO_pt 0 rfl dX15_oneTick_50 rfl cv_X15_406 (K_scan (M := (scS c i M)) (w := w) hi9.1 hB9 (by omega) hc (by exact ht)) rfl rfl (Nat.le_of_ble_eq_true rfl) ⟨by decide, by omega, by omega⟩ (fun r1 L1 h q hL => ?_)
      obtain ⟨rfl, rfl⟩ := q
      have hL : stars [pt m (.inr (13, moF F (upN (upN w 18 c) 15 ((scS c (i + 1) M).1 9)) bg)), rrw (F 12) 16 3 ((scS c (i + 1) M).2.1.map rqE), rrw (F 14) 8 4 ((scS c (i + 1) M).2.2.2.1.map scE), X1, X2, X3, X4, X5, X6, X7, X8, X9] h := hL
      refine e_iinc 56 (v := (nI (i + 1))) (ls' := [some (.ref m), some (.int (nI (i + 1))), none]) dX15_oneTick_53 rfl rfl (nI_add i 1) (by decide) rfl ?_
      refine e_goto 37 dX15_oneTick_56 rfl ?_
      refine e_wk [some (.ref m), some (.int (nI (i + 1))), none] ⟨rfl, rfl, trivial⟩ ?_
      exact ih (i + 1) h (by omega) (by omega) hL
