/-! Service: tests, events, queues -/
section
variable {M : MD} {fr lo mc ms : Nat} {Q : Option Value → eH → Prop} {pc ce sl : Nat} {ls : List (Option Value)} {st : List Value} {h : eH}
theorem e_lookup (tg : Nat) {x : Int32} {dflt off : Int} {ps : Array (Int × Int)} {len : Nat} (hd : decode M.2.1 pc = .ok (.lookupswitch dflt ps, len)) (hp : (ps.toList.zip (ps.toList.drop 1)).all (fun (a, next) => a.1 < next.1) = true) (ho : Op.lookupswitch.offset ps.toList dflt x.toInt = off) (ht : (pc : Int) + off = (tg : Int)) (k : EE M fr lo mc ms Q tg ls st h ce sl) : EE M fr lo mc ms Q pc ls (.int x :: st) h ce sl := by
  intro p l e s m args below meth c H locs D cA A lsA X R S L
  exact lv_lookup X.1 X.2.1 hd hp ho ht (k p l e s m args below meth c H locs D cA A lsA X R S L)
end
theorem j_ne {a b : Nat} (ha : a < 2 ^ 31) (hb : b < 2 ^ 31) (h : a ≠ b) : ¬ nI a = nI b := fun e => h (j_eq_t ha hb e)
def dnC (ct : Nat → Nat) (q : List Nat) : Nat → Nat := if wd q 1 = 1 ∨ wd q 1 = 10 then fun _ => 0 else if wd q 1 = 20 then upN ct 7 0 else ct
def dnL (lo q : List Nat) : List Nat := if wd q 1 = 1 then lat 64 (if wd q 3 = 65280 then [] else lo) 0 else if wd q 1 = 4 then lat 64 lo 4 else lo
def dnD (df : Bool) (q : List Nat) : Bool := if wd q 1 = 1 then false else if wd q 1 = 4 then true else df
def dnA (ct : Nat → Nat) (q : List Nat) : List Nat := if wd q 1 = 4 then [] else if 11 ≤ wd q 1 ∧ wd q 1 ≤ 18 then q.take 3 ++ w2 (ct (wd q 1 - 11)) else q
def tvR (ct : Nat → Nat) (lo : List Nat) : List Nat := [12] ++ [6 + lo.length] ++ w2 0 ++ w2 (ct 8) ++ w2 (ct 0)
theorem tvR_len {ct : Nat → Nat} {lo : List Nat} : (tvR ct lo).length = 8 := rfl
theorem drop_rev {l : List Nat} {k : Nat} (h : k < l.length) : (l.drop (k + 1)).reverse ++ [l.getD k 0] = (l.drop k).reverse := by
  rw [List.drop_eq_getElem_cons h, List.reverse_cons]
  simp [List.getD, h]
def tqR (r : List Nat) (j : Nat) : List Nat := [24] ++ w2 (2 + 2 * r.length) ++ w2 r.length ++ (r.take j).flatMap w2
theorem tqR_succ {r : List Nat} {j : Nat} (h : j < r.length) : tqR r j ++ w2 (r.getD j 0) = tqR r (j + 1) := by
  rw [tqR, tqR, List.take_succ_eq_append_getElem h, List.flatMap_append, List.flatMap_singleton, List.append_assoc]
  simp [List.getD, h]
theorem tqR_len {r : List Nat} : ∀ {j : Nat}, j ≤ r.length → (tqR r j).length = 5 + 2 * j
  | 0, _ => by rw [tqR, List.take_zero]; rfl
  | j + 1, h => by rw [← tqR_succ (by omega), List.length_append, tqR_len (by omega), w2_len]; omega
set_option maxRecDepth 20000 in
set_option maxHeartbeats 2000000 in
/-- diagnose(device, q, a) -/
theorem k_X6_diagnose {d b cb b2 : Nat} {A v : Nat → Nat} {df : Bool} {ct : Nat → Nat} {lo q : List Nat} (hq : ∀ x ∈ q, x < 256) (hct : ∀ i, i < 9 → ct i < 65536) (hl9 : q.length ≤ 253) : CA mX6_diagnose [.ref d, .ref b, .ref b2] [dvO d A v df, pI (A 13) 9 ct, row (A 14) 64 lo, row b cb q, row b2 253 ([])] (fun r L => r = none ∧ L = [dvO d A v (dnD df q), pI (A 13) 9 (dnC ct q), row (A 14) 64 (dnL lo q), row b cb q, row b2 253 (dnA ct q)]) 1 40 0 0 := by
  refine CA.mk 1 (ls := [some (.ref d), some (.ref b), some (.ref b2), none]) rfl rfl (Nat.le_of_ble_eq_true rfl) rfl (fun h hL => ?_)
  have w1 := wd_lt (k := 1) hq
  have w3 := wd_lt (k := 3) hq
  refine e_aload_n 1 dX6_diagnose_0 rfl rfl ?_
  refine e_iconst 2 (v := (nI 1)) dX6_diagnose_1 rfl (by decide) ?_
  refine p_callV 5 hL [3, 0, 1, 2, 4] 5 rfl (by decide) (L1 := [row b cb q]) (L2 := [pt d (.inr (1, [.int (nI (v 0)), .int (nI (v 1)), .int (nI (v 2)), .ref (A 3), .ref (A 4), .ref (A 5), .ref (A 6), .ref (A 7), .int (nI (v 8)), .ref (A 9), .ref (A 10), .ref (A 11), .ref (A 12), .ref (A 13), .ref (A 14), .ref (A 15), .ref (A 16), .int (nI (v 17)), .int (nI (v 18)), .int (bI df)])), pt (A 13) (.inl (0, 9, .inl (fun i => nI (ct i)))), row (A 14) 64 lo, row b2 253 ([])]) rfl row_O 3 rfl dX6_diagnose_2 rfl cv_X6_54 (k_X4_word (by omega)) rfl rfl (Nat.le_of_ble_eq_true rfl) ⟨by decide, by omega, by omega⟩ (fun r1 L1 h q hL => ?_)
  obtain ⟨rfl, rfl⟩ := q
  have hL : stars [row b cb q, pt d (.inr (1, [.int (nI (v 0)), .int (nI (v 1)), .int (nI (v 2)), .ref (A 3), .ref (A 4), .ref (A 5), .ref (A 6), .ref (A 7), .int (nI (v 8)), .ref (A 9), .ref (A 10), .ref (A 11), .ref (A 12), .ref (A 13), .ref (A 14), .ref (A 15), .ref (A 16), .int (nI (v 17)), .int (nI (v 18)), .int (bI df)])), pt (A 13) (.inl (0, 9, .inl (fun i => nI (ct i)))), row (A 14) 64 lo, row b2 253 ([])] h := hL
  have hL : stars [pt d (.inr (1, [.int (nI (v 0)), .int (nI (v 1)), .int (nI (v 2)), .ref (A 3), .ref (A 4), .ref (A 5), .ref (A 6), .ref (A 7), .int (nI (v 8)), .ref (A 9), .ref (A 10), .ref (A 11), .ref (A 12), .ref (A 13), .ref (A 14), .ref (A 15), .ref (A 16), .int (nI (v 17)), .int (nI (v 18)), .int (bI df)])), pt (A 13) (.inl (0, 9, .inl (fun i => nI (ct i)))), row (A 14) 64 lo, row b cb q, row b2 253 ([])] h := stars_ixn hL 5 rfl [1, 2, 3, 0, 4] (by decide) rfl
  refine e_istore_n 6 (ls' := [some (.ref d), some (.ref b), some (.ref b2), some (.int (nI (wd q 1)))]) dX6_diagnose_5 rfl (by decide) rfl ?_
  refine e_iload_n 7 dX6_diagnose_6 rfl rfl ?_
  rcases (show (wd q 1) = 1 ∨ (wd q 1) = 4 ∨ (wd q 1) = 10 ∨ (wd q 1) = 20 ∨ ((wd q 1) ≠ 1 ∧ (wd q 1) ≠ 4 ∧ (wd q 1) ≠ 10 ∧ (wd q 1) ≠ 20) by omega) with s7 | s7 | s7 | s7 | s7
  · refine e_lookup 48 (off := 41) dX6_diagnose_7 (by decide) (by rw [s7]; decide) rfl ?_
    refine e_aload_n 49 dX6_diagnose_48 rfl rfl ?_
    refine p_callV 52 hL [0, 1, 2, 3, 4] 5 rfl (by decide) (L1 := [pt d (.inr (1, [.int (nI (v 0)), .int (nI (v 1)), .int (nI (v 2)), .ref (A 3), .ref (A 4), .ref (A 5), .ref (A 6), .ref (A 7), .int (nI (v 8)), .ref (A 9), .ref (A 10), .ref (A 11), .ref (A 12), .ref (A 13), .ref (A 14), .ref (A 15), .ref (A 16), .int (nI (v 17)), .int (nI (v 18)), .int (bI df)])), pt (A 13) (.inl (0, 9, .inl (fun i => nI (ct i))))]) (L2 := [row (A 14) 64 lo, row b cb q, row b2 253 ([])]) rfl isO_pt 0 rfl dX6_diagnose_49 rfl cv_X6_183 (k_X1_clearCounters (A := A) (v := v) (df := df)) rfl rfl (Nat.le_of_ble_eq_true rfl) ⟨by decide, by omega, by omega⟩ (fun r1 L1 h q hL => ?_)
    obtain ⟨rfl, rfl⟩ := q
    have hL : stars [pt d (.inr (1, [.int (nI (v 0)), .int (nI (v 1)), .int (nI (v 2)), .ref (A 3), .ref (A 4), .ref (A 5), .ref (A 6), .ref (A 7), .int (nI (v 8)), .ref (A 9), .ref (A 10), .ref (A 11), .ref (A 12), .ref (A 13), .ref (A 14), .ref (A 15), .ref (A 16), .int (nI (v 17)), .int (nI (v 18)), .int (bI df)])), pt (A 13) (.inl (0, 9, .inl (fun i => nI ((fun _ => 0) i)))), row (A 14) 64 lo, row b cb q, row b2 253 ([])] h := hL
    refine e_aload_n 53 dX6_diagnose_52 rfl rfl ?_
    refine e_iconst 54 (v := (nI 3)) dX6_diagnose_53 rfl (by decide) ?_
    refine p_callV 57 hL [3, 0, 1, 2, 4] 5 rfl (by decide) (L1 := [row b cb q]) (L2 := [pt d (.inr (1, [.int (nI (v 0)), .int (nI (v 1)), .int (nI (v 2)), .ref (A 3), .ref (A 4), .ref (A 5), .ref (A 6), .ref (A 7), .int (nI (v 8)), .ref (A 9), .ref (A 10), .ref (A 11), .ref (A 12), .ref (A 13), .ref (A 14), .ref (A 15), .ref (A 16), .int (nI (v 17)), .int (nI (v 18)), .int (bI df)])), pt (A 13) (.inl (0, 9, .inl (fun i => nI ((fun _ => 0) i)))), row (A 14) 64 lo, row b2 253 ([])]) rfl row_O 3 rfl dX6_diagnose_54 rfl cv_X6_54 (k_X4_word (by omega)) rfl rfl (Nat.le_of_ble_eq_true rfl) ⟨by decide, by omega, by omega⟩ (fun r1 L1 h q hL => ?_)
    obtain ⟨rfl, rfl⟩ := q
    have hL : stars [row b cb q, pt d (.inr (1, [.int (nI (v 0)), .int (nI (v 1)), .int (nI (v 2)), .ref (A 3), .ref (A 4), .ref (A 5), .ref (A 6), .ref (A 7), .int (nI (v 8)), .ref (A 9), .ref (A 10), .ref (A 11), .ref (A 12), .ref (A 13), .ref (A 14), .ref (A 15), .ref (A 16), .int (nI (v 17)), .int (nI (v 18)), .int (bI df)])), pt (A 13) (.inl (0, 9, .inl (fun i => nI ((fun _ => 0) i)))), row (A 14) 64 lo, row b2 253 ([])] h := hL
    have hL : stars [pt d (.inr (1, [.int (nI (v 0)), .int (nI (v 1)), .int (nI (v 2)), .ref (A 3), .ref (A 4), .ref (A 5), .ref (A 6), .ref (A 7), .int (nI (v 8)), .ref (A 9), .ref (A 10), .ref (A 11), .ref (A 12), .ref (A 13), .ref (A 14), .ref (A 15), .ref (A 16), .int (nI (v 17)), .int (nI (v 18)), .int (bI df)])), pt (A 13) (.inl (0, 9, .inl (fun i => nI ((fun _ => 0) i)))), row (A 14) 64 lo, row b cb q, row b2 253 ([])] h := stars_ixn hL 5 rfl [1, 2, 3, 0, 4] (by decide) rfl
    refine e_ldc 59 (v := (nI 65280)) dX6_diagnose_57 rfl cn_X6_76 ?_
    refine e_icmp_ne 69 62 dX6_diagnose_59 rfl rfl (fun c59 => ?_) (fun c59 => ?_)
    · have k59 := j_ne_t (a := (wd q 3)) (b := 65280) (by omega) (by omega) c59
      refine e_aload_n 70 dX6_diagnose_69 rfl rfl ?_
      refine e_get 73 dX6_diagnose_70 rfl fl_X6_186_1 (stars_at _ 0 hL rfl) rfl ?_
      refine e_iconst 74 (v := (nI 0)) dX6_diagnose_73 rfl (by decide) ?_
      refine p_callV 77 hL [2, 0, 1, 3, 4] 5 rfl (by decide) (L1 := [row (A 14) 64 lo]) (L2 := [pt d (.inr (1, [.int (nI (v 0)), .int (nI (v 1)), .int (nI (v 2)), .ref (A 3), .ref (A 4), .ref (A 5), .ref (A 6), .ref (A 7), .int (nI (v 8)), .ref (A 9), .ref (A 10), .ref (A 11), .ref (A 12), .ref (A 13), .ref (A 14), .ref (A 15), .ref (A 16), .int (nI (v 17)), .int (nI (v 18)), .int (bI df)])), pt (A 13) (.inl (0, 9, .inl (fun i => nI ((fun _ => 0) i)))), row b cb q, row b2 253 ([])]) rfl row_O 2 rfl dX6_diagnose_74 rfl cv_X6_190 k_X4_addLatest rfl rfl (Nat.le_of_ble_eq_true rfl) ⟨by decide, by omega, by omega⟩ (fun r1 L1 h q hL => ?_)
      obtain ⟨rfl, rfl⟩ := q
      have hL : stars [row (A 14) 64 (lat 64 lo 0), pt d (.inr (1, [.int (nI (v 0)), .int (nI (v 1)), .int (nI (v 2)), .ref (A 3), .ref (A 4), .ref (A 5), .ref (A 6), .ref (A 7), .int (nI (v 8)), .ref (A 9), .ref (A 10), .ref (A 11), .ref (A 12), .ref (A 13), .ref (A 14), .ref (A 15), .ref (A 16), .int (nI (v 17)), .int (nI (v 18)), .int (bI df)])), pt (A 13) (.inl (0, 9, .inl (fun i => nI ((fun _ => 0) i)))), row b cb q, row b2 253 ([])] h := hL
      have hL : stars [pt d (.inr (1, [.int (nI (v 0)), .int (nI (v 1)), .int (nI (v 2)), .ref (A 3), .ref (A 4), .ref (A 5), .ref (A 6), .ref (A 7), .int (nI (v 8)), .ref (A 9), .ref (A 10), .ref (A 11), .ref (A 12), .ref (A 13), .ref (A 14), .ref (A 15), .ref (A 16), .int (nI (v 17)), .int (nI (v 18)), .int (bI df)])), pt (A 13) (.inl (0, 9, .inl (fun i => nI ((fun _ => 0) i)))), row (A 14) 64 (lat 64 lo 0), row b cb q, row b2 253 ([])] h := stars_ixn hL 5 rfl [1, 2, 0, 3, 4] (by decide) rfl
      refine e_aload_n 78 dX6_diagnose_77 rfl rfl ?_
      refine e_iconst 79 (v := (nI 0)) dX6_diagnose_78 rfl (by decide) ?_
      refine p_put 82 hL 0 (fs' := [.int (nI (v 0)), .int (nI (v 1)), .int (nI (v 2)), .ref (A 3), .ref (A 4), .ref (A 5), .ref (A 6), .ref (A 7), .int (nI (v 8)), .ref (A 9), .ref (A 10), .ref (A 11), .ref (A 12), .ref (A 13), .ref (A 14), .ref (A 15), .ref (A 16), .int (nI (v 17)), .int (nI (v 18)), .int (nI 0)]) (L' := [pt d (.inr (1, [.int (nI (v 0)), .int (nI (v 1)), .int (nI (v 2)), .ref (A 3), .ref (A 4), .ref (A 5), .ref (A 6), .ref (A 7), .int (nI (v 8)), .ref (A 9), .ref (A 10), .ref (A 11), .ref (A 12), .ref (A 13), .ref (A 14), .ref (A 15), .ref (A 16), .int (nI (v 17)), .int (nI (v 18)), .int (nI 0)])), pt (A 13) (.inl (0, 9, .inl (fun i => nI ((fun _ => 0) i)))), row (A 14) 64 (lat 64 lo 0), row b cb q, row b2 253 ([])]) rfl rfl dX6_diagnose_79 rfl fp_X6_193_1 (Or.inl rfl) (Nat.le_of_ble_eq_true rfl) (by decide) rfl rfl (fun h hL => ?_)
      refine e_goto 117 dX6_diagnose_82 rfl ?_
      refine e_aload_n 118 dX6_diagnose_117 rfl rfl ?_
      refine e_aload_n 119 dX6_diagnose_118 rfl rfl ?_
      refine e_iconst 120 (v := (nI 0)) dX6_diagnose_119 rfl (by decide) ?_
      refine e_aload_n 121 dX6_diagnose_120 rfl rfl ?_
      obtain ⟨z121, y121⟩ := row_at _ 3 hL rfl
      refine e_get 124 dX6_diagnose_121 rfl fl_X6_104_4 y121 rfl ?_
      refine p_callV 127 hL [4, 3, 0, 1, 2] 5 rfl (by decide) (L1 := [row b2 253 ([]), row b cb q]) (L2 := [pt d (.inr (1, [.int (nI (v 0)), .int (nI (v 1)), .int (nI (v 2)), .ref (A 3), .ref (A 4), .ref (A 5), .ref (A 6), .ref (A 7), .int (nI (v 8)), .ref (A 9), .ref (A 10), .ref (A 11), .ref (A 12), .ref (A 13), .ref (A 14), .ref (A 15), .ref (A 16), .int (nI (v 17)), .int (nI (v 18)), .int (nI 0)])), pt (A 13) (.inl (0, 9, .inl (fun i => nI ((fun _ => 0) i)))), row (A 14) 64 (lat 64 lo 0)]) rfl row_O 4 rfl dX6_diagnose_124 rfl cv_X6_134 (k_addP (by omega) (by omega) (by simp only [List.length_append, List.length_cons, List.length_nil, pf_len, w2_len, List.length_map, List.length_range]; omega)) rfl rfl (Nat.le_of_ble_eq_true rfl) ⟨by decide, by omega, by omega⟩ (fun r1 L1 h q hL => ?_)
      obtain ⟨rfl, rfl⟩ := q
      have hL : stars [row b2 253 ([] ++ pf q 0 q.length), row b cb q, pt d (.inr (1, [.int (nI (v 0)), .int (nI (v 1)), .int (nI (v 2)), .ref (A 3), .ref (A 4), .ref (A 5), .ref (A 6), .ref (A 7), .int (nI (v 8)), .ref (A 9), .ref (A 10), .ref (A 11), .ref (A 12), .ref (A 13), .ref (A 14), .ref (A 15), .ref (A 16), .int (nI (v 17)), .int (nI (v 18)), .int (nI 0)])), pt (A 13) (.inl (0, 9, .inl (fun i => nI ((fun _ => 0) i)))), row (A 14) 64 (lat 64 lo 0)] h := hL
      have hL : stars [pt d (.inr (1, [.int (nI (v 0)), .int (nI (v 1)), .int (nI (v 2)), .ref (A 3), .ref (A 4), .ref (A 5), .ref (A 6), .ref (A 7), .int (nI (v 8)), .ref (A 9), .ref (A 10), .ref (A 11), .ref (A 12), .ref (A 13), .ref (A 14), .ref (A 15), .ref (A 16), .int (nI (v 17)), .int (nI (v 18)), .int (nI 0)])), pt (A 13) (.inl (0, 9, .inl (fun i => nI ((fun _ => 0) i)))), row (A 14) 64 (lat 64 lo 0), row b cb q, row b2 253 ([] ++ pf q 0 q.length)] h := stars_ixn hL 5 rfl [2, 3, 4, 1, 0] (by decide) rfl
      rw [pf_self, List.nil_append] at hL
      refine e_iload_n 128 dX6_diagnose_127 rfl rfl ?_
      refine e_bipush 130 (v := (nI 11)) dX6_diagnose_128 rfl (by decide) ?_
      refine e_bipush 132 (v := (nI 18)) dX6_diagnose_130 rfl (by decide) ?_
      refine p_callS 135 hL [0, 1, 2, 3, 4] 5 rfl (by decide) (L1 := []) (L2 := [pt d (.inr (1, [.int (nI (v 0)), .int (nI (v 1)), .int (nI (v 2)), .ref (A 3), .ref (A 4), .ref (A 5), .ref (A 6), .ref (A 7), .int (nI (v 8)), .ref (A 9), .ref (A 10), .ref (A 11), .ref (A 12), .ref (A 13), .ref (A 14), .ref (A 15), .ref (A 16), .int (nI (v 17)), .int (nI (v 18)), .int (nI 0)])), pt (A 13) (.inl (0, 9, .inl (fun i => nI ((fun _ => 0) i)))), row (A 14) 64 (lat 64 lo 0), row b cb q, row b2 253 q]) rfl dX6_diagnose_132 rfl cs_X6_201 (k_X11_within (by omega) (by omega) (by omega)) rfl rfl (Nat.le_of_ble_eq_true rfl) ⟨by decide, by omega, by omega⟩ (fun r1 L1 h q hL => ?_)
      obtain ⟨rfl, rfl⟩ := q
      have hL : stars [pt d (.inr (1, [.int (nI (v 0)), .int (nI (v 1)), .int (nI (v 2)), .ref (A 3), .ref (A 4), .ref (A 5), .ref (A 6), .ref (A 7), .int (nI (v 8)), .ref (A 9), .ref (A 10), .ref (A 11), .ref (A 12), .ref (A 13), .ref (A 14), .ref (A 15), .ref (A 16), .int (nI (v 17)), .int (nI (v 18)), .int (nI 0)])), pt (A 13) (.inl (0, 9, .inl (fun i => nI ((fun _ => 0) i)))), row (A 14) 64 (lat 64 lo 0), row b cb q, row b2 253 q] h := hL
      refine e_if_eq 155 138 dX6_diagnose_135 rfl rfl (fun c135 => ?_) (fun c135 => ?_)
      · have k135 := jin_eq_t c135
        exact e_vret dX6_diagnose_155 rfl (by omega) (by omega) (⟨_, ⟨rfl, rfl⟩, by (try rw [upd_nI] at hL); (rw [dnD, if_pos (by omega), dnC, if_pos (by omega), dnL, if_pos (by omega), if_neg (by omega), dnA, if_neg (by omega), if_neg (by omega)]) <;> exact hL⟩)
      · have k135 := jin_eq_f c135
        exfalso; omega
    · have k59 := j_ne_f (a := (wd q 3)) (b := 65280) (by omega) (by omega) c59
      refine e_aload_n 63 dX6_diagnose_62 rfl rfl ?_
      refine e_get 66 dX6_diagnose_63 rfl fl_X6_186_1 (stars_at _ 0 hL rfl) rfl ?_
      refine p_callV 69 hL [2, 0, 1, 3, 4] 5 rfl (by decide) (L1 := [row (A 14) 64 lo]) (L2 := [pt d (.inr (1, [.int (nI (v 0)), .int (nI (v 1)), .int (nI (v 2)), .ref (A 3), .ref (A 4), .ref (A 5), .ref (A 6), .ref (A 7), .int (nI (v 8)), .ref (A 9), .ref (A 10), .ref (A 11), .ref (A 12), .ref (A 13), .ref (A 14), .ref (A 15), .ref (A 16), .int (nI (v 17)), .int (nI (v 18)), .int (bI df)])), pt (A 13) (.inl (0, 9, .inl (fun i => nI ((fun _ => 0) i)))), row b cb q, row b2 253 ([])]) rfl row_O 2 rfl dX6_diagnose_66 rfl cv_X6_9 k_X4_clear rfl rfl (Nat.le_of_ble_eq_true rfl) ⟨by decide, by omega, by omega⟩ (fun r1 L1 h q hL => ?_)
      obtain ⟨rfl, rfl⟩ := q
      have hL : stars [row (A 14) 64 ([]), pt d (.inr (1, [.int (nI (v 0)), .int (nI (v 1)), .int (nI (v 2)), .ref (A 3), .ref (A 4), .ref (A 5), .ref (A 6), .ref (A 7), .int (nI (v 8)), .ref (A 9), .ref (A 10), .ref (A 11), .ref (A 12), .ref (A 13), .ref (A 14), .ref (A 15), .ref (A 16), .int (nI (v 17)), .int (nI (v 18)), .int (bI df)])), pt (A 13) (.inl (0, 9, .inl (fun i => nI ((fun _ => 0) i)))), row b cb q, row b2 253 ([])] h := hL
      have hL : stars [pt d (.inr (1, [.int (nI (v 0)), .int (nI (v 1)), .int (nI (v 2)), .ref (A 3), .ref (A 4), .ref (A 5), .ref (A 6), .ref (A 7), .int (nI (v 8)), .ref (A 9), .ref (A 10), .ref (A 11), .ref (A 12), .ref (A 13), .ref (A 14), .ref (A 15), .ref (A 16), .int (nI (v 17)), .int (nI (v 18)), .int (bI df)])), pt (A 13) (.inl (0, 9, .inl (fun i => nI ((fun _ => 0) i)))), row (A 14) 64 ([]), row b cb q, row b2 253 ([])] h := stars_ixn hL 5 rfl [1, 2, 0, 3, 4] (by decide) rfl
      refine e_aload_n 70 dX6_diagnose_69 rfl rfl ?_
      refine e_get 73 dX6_diagnose_70 rfl fl_X6_186_1 (stars_at _ 0 hL rfl) rfl ?_
      refine e_iconst 74 (v := (nI 0)) dX6_diagnose_73 rfl (by decide) ?_
      refine p_callV 77 hL [2, 0, 1, 3, 4] 5 rfl (by decide) (L1 := [row (A 14) 64 ([])]) (L2 := [pt d (.inr (1, [.int (nI (v 0)), .int (nI (v 1)), .int (nI (v 2)), .ref (A 3), .ref (A 4), .ref (A 5), .ref (A 6), .ref (A 7), .int (nI (v 8)), .ref (A 9), .ref (A 10), .ref (A 11), .ref (A 12), .ref (A 13), .ref (A 14), .ref (A 15), .ref (A 16), .int (nI (v 17)), .int (nI (v 18)), .int (bI df)])), pt (A 13) (.inl (0, 9, .inl (fun i => nI ((fun _ => 0) i)))), row b cb q, row b2 253 ([])]) rfl row_O 2 rfl dX6_diagnose_74 rfl cv_X6_190 k_X4_addLatest rfl rfl (Nat.le_of_ble_eq_true rfl) ⟨by decide, by omega, by omega⟩ (fun r1 L1 h q hL => ?_)
      obtain ⟨rfl, rfl⟩ := q
      have hL : stars [row (A 14) 64 (lat 64 ([]) 0), pt d (.inr (1, [.int (nI (v 0)), .int (nI (v 1)), .int (nI (v 2)), .ref (A 3), .ref (A 4), .ref (A 5), .ref (A 6), .ref (A 7), .int (nI (v 8)), .ref (A 9), .ref (A 10), .ref (A 11), .ref (A 12), .ref (A 13), .ref (A 14), .ref (A 15), .ref (A 16), .int (nI (v 17)), .int (nI (v 18)), .int (bI df)])), pt (A 13) (.inl (0, 9, .inl (fun i => nI ((fun _ => 0) i)))), row b cb q, row b2 253 ([])] h := hL
      have hL : stars [pt d (.inr (1, [.int (nI (v 0)), .int (nI (v 1)), .int (nI (v 2)), .ref (A 3), .ref (A 4), .ref (A 5), .ref (A 6), .ref (A 7), .int (nI (v 8)), .ref (A 9), .ref (A 10), .ref (A 11), .ref (A 12), .ref (A 13), .ref (A 14), .ref (A 15), .ref (A 16), .int (nI (v 17)), .int (nI (v 18)), .int (bI df)])), pt (A 13) (.inl (0, 9, .inl (fun i => nI ((fun _ => 0) i)))), row (A 14) 64 (lat 64 ([]) 0), row b cb q, row b2 253 ([])] h := stars_ixn hL 5 rfl [1, 2, 0, 3, 4] (by decide) rfl
      refine e_aload_n 78 dX6_diagnose_77 rfl rfl ?_
      refine e_iconst 79 (v := (nI 0)) dX6_diagnose_78 rfl (by decide) ?_
      refine p_put 82 hL 0 (fs' := [.int (nI (v 0)), .int (nI (v 1)), .int (nI (v 2)), .ref (A 3), .ref (A 4), .ref (A 5), .ref (A 6), .ref (A 7), .int (nI (v 8)), .ref (A 9), .ref (A 10), .ref (A 11), .ref (A 12), .ref (A 13), .ref (A 14), .ref (A 15), .ref (A 16), .int (nI (v 17)), .int (nI (v 18)), .int (nI 0)]) (L' := [pt d (.inr (1, [.int (nI (v 0)), .int (nI (v 1)), .int (nI (v 2)), .ref (A 3), .ref (A 4), .ref (A 5), .ref (A 6), .ref (A 7), .int (nI (v 8)), .ref (A 9), .ref (A 10), .ref (A 11), .ref (A 12), .ref (A 13), .ref (A 14), .ref (A 15), .ref (A 16), .int (nI (v 17)), .int (nI (v 18)), .int (nI 0)])), pt (A 13) (.inl (0, 9, .inl (fun i => nI ((fun _ => 0) i)))), row (A 14) 64 (lat 64 ([]) 0), row b cb q, row b2 253 ([])]) rfl rfl dX6_diagnose_79 rfl fp_X6_193_1 (Or.inl rfl) (Nat.le_of_ble_eq_true rfl) (by decide) rfl rfl (fun h hL => ?_)
      refine e_goto 117 dX6_diagnose_82 rfl ?_
      refine e_aload_n 118 dX6_diagnose_117 rfl rfl ?_
      refine e_aload_n 119 dX6_diagnose_118 rfl rfl ?_
      refine e_iconst 120 (v := (nI 0)) dX6_diagnose_119 rfl (by decide) ?_
      refine e_aload_n 121 dX6_diagnose_120 rfl rfl ?_
      obtain ⟨z121, y121⟩ := row_at _ 3 hL rfl
      refine e_get 124 dX6_diagnose_121 rfl fl_X6_104_4 y121 rfl ?_
      refine p_callV 127 hL [4, 3, 0, 1, 2] 5 rfl (by decide) (L1 := [row b2 253 ([]), row b cb q]) (L2 := [pt d (.inr (1, [.int (nI (v 0)), .int (nI (v 1)), .int (nI (v 2)), .ref (A 3), .ref (A 4), .ref (A 5), .ref (A 6), .ref (A 7), .int (nI (v 8)), .ref (A 9), .ref (A 10), .ref (A 11), .ref (A 12), .ref (A 13), .ref (A 14), .ref (A 15), .ref (A 16), .int (nI (v 17)), .int (nI (v 18)), .int (nI 0)])), pt (A 13) (.inl (0, 9, .inl (fun i => nI ((fun _ => 0) i)))), row (A 14) 64 (lat 64 ([]) 0)]) rfl row_O 4 rfl dX6_diagnose_124 rfl cv_X6_134 (k_addP (by omega) (by omega) (by simp only [List.length_append, List.length_cons, List.length_nil, pf_len, w2_len, List.length_map, List.length_range]; omega)) rfl rfl (Nat.le_of_ble_eq_true rfl) ⟨by decide, by omega, by omega⟩ (fun r1 L1 h q hL => ?_)
      obtain ⟨rfl, rfl⟩ := q
      have hL : stars [row b2 253 ([] ++ pf q 0 q.length), row b cb q, pt d (.inr (1, [.int (nI (v 0)), .int (nI (v 1)), .int (nI (v 2)), .ref (A 3), .ref (A 4), .ref (A 5), .ref (A 6), .ref (A 7), .int (nI (v 8)), .ref (A 9), .ref (A 10), .ref (A 11), .ref (A 12), .ref (A 13), .ref (A 14), .ref (A 15), .ref (A 16), .int (nI (v 17)), .int (nI (v 18)), .int (nI 0)])), pt (A 13) (.inl (0, 9, .inl (fun i => nI ((fun _ => 0) i)))), row (A 14) 64 (lat 64 ([]) 0)] h := hL
      have hL : stars [pt d (.inr (1, [.int (nI (v 0)), .int (nI (v 1)), .int (nI (v 2)), .ref (A 3), .ref (A 4), .ref (A 5), .ref (A 6), .ref (A 7), .int (nI (v 8)), .ref (A 9), .ref (A 10), .ref (A 11), .ref (A 12), .ref (A 13), .ref (A 14), .ref (A 15), .ref (A 16), .int (nI (v 17)), .int (nI (v 18)), .int (nI 0)])), pt (A 13) (.inl (0, 9, .inl (fun i => nI ((fun _ => 0) i)))), row (A 14) 64 (lat 64 ([]) 0), row b cb q, row b2 253 ([] ++ pf q 0 q.length)] h := stars_ixn hL 5 rfl [2, 3, 4, 1, 0] (by decide) rfl
      rw [pf_self, List.nil_append] at hL
      refine e_iload_n 128 dX6_diagnose_127 rfl rfl ?_
      refine e_bipush 130 (v := (nI 11)) dX6_diagnose_128 rfl (by decide) ?_
      refine e_bipush 132 (v := (nI 18)) dX6_diagnose_130 rfl (by decide) ?_
      refine p_callS 135 hL [0, 1, 2, 3, 4] 5 rfl (by decide) (L1 := []) (L2 := [pt d (.inr (1, [.int (nI (v 0)), .int (nI (v 1)), .int (nI (v 2)), .ref (A 3), .ref (A 4), .ref (A 5), .ref (A 6), .ref (A 7), .int (nI (v 8)), .ref (A 9), .ref (A 10), .ref (A 11), .ref (A 12), .ref (A 13), .ref (A 14), .ref (A 15), .ref (A 16), .int (nI (v 17)), .int (nI (v 18)), .int (nI 0)])), pt (A 13) (.inl (0, 9, .inl (fun i => nI ((fun _ => 0) i)))), row (A 14) 64 (lat 64 ([]) 0), row b cb q, row b2 253 q]) rfl dX6_diagnose_132 rfl cs_X6_201 (k_X11_within (by omega) (by omega) (by omega)) rfl rfl (Nat.le_of_ble_eq_true rfl) ⟨by decide, by omega, by omega⟩ (fun r1 L1 h q hL => ?_)
      obtain ⟨rfl, rfl⟩ := q
      have hL : stars [pt d (.inr (1, [.int (nI (v 0)), .int (nI (v 1)), .int (nI (v 2)), .ref (A 3), .ref (A 4), .ref (A 5), .ref (A 6), .ref (A 7), .int (nI (v 8)), .ref (A 9), .ref (A 10), .ref (A 11), .ref (A 12), .ref (A 13), .ref (A 14), .ref (A 15), .ref (A 16), .int (nI (v 17)), .int (nI (v 18)), .int (nI 0)])), pt (A 13) (.inl (0, 9, .inl (fun i => nI ((fun _ => 0) i)))), row (A 14) 64 (lat 64 ([]) 0), row b cb q, row b2 253 q] h := hL
      refine e_if_eq 155 138 dX6_diagnose_135 rfl rfl (fun c135 => ?_) (fun c135 => ?_)
      · have k135 := jin_eq_t c135
        exact e_vret dX6_diagnose_155 rfl (by omega) (by omega) (⟨_, ⟨rfl, rfl⟩, by (try rw [upd_nI] at hL); (rw [dnD, if_pos (by omega), dnC, if_pos (by omega), dnL, if_pos (by omega), if_pos (by omega), dnA, if_neg (by omega), if_neg (by omega)]) <;> exact hL⟩)
      · have k135 := jin_eq_f c135
        exfalso; omega
  · refine e_lookup 85 (off := 78) dX6_diagnose_7 (by decide) (by rw [s7]; decide) rfl ?_
    refine e_aload_n 86 dX6_diagnose_85 rfl rfl ?_
    refine e_iconst 87 (v := (nI 1)) dX6_diagnose_86 rfl (by decide) ?_
    refine p_put 90 hL 0 (fs' := [.int (nI (v 0)), .int (nI (v 1)), .int (nI (v 2)), .ref (A 3), .ref (A 4), .ref (A 5), .ref (A 6), .ref (A 7), .int (nI (v 8)), .ref (A 9), .ref (A 10), .ref (A 11), .ref (A 12), .ref (A 13), .ref (A 14), .ref (A 15), .ref (A 16), .int (nI (v 17)), .int (nI (v 18)), .int (nI 1)]) (L' := [pt d (.inr (1, [.int (nI (v 0)), .int (nI (v 1)), .int (nI (v 2)), .ref (A 3), .ref (A 4), .ref (A 5), .ref (A 6), .ref (A 7), .int (nI (v 8)), .ref (A 9), .ref (A 10), .ref (A 11), .ref (A 12), .ref (A 13), .ref (A 14), .ref (A 15), .ref (A 16), .int (nI (v 17)), .int (nI (v 18)), .int (nI 1)])), pt (A 13) (.inl (0, 9, .inl (fun i => nI (ct i)))), row (A 14) 64 lo, row b cb q, row b2 253 ([])]) rfl rfl dX6_diagnose_87 rfl fp_X6_193_1 (Or.inl rfl) (Nat.le_of_ble_eq_true rfl) (by decide) rfl rfl (fun h hL => ?_)
    refine e_aload_n 91 dX6_diagnose_90 rfl rfl ?_
    refine e_get 94 dX6_diagnose_91 rfl fl_X6_186_1 (stars_at _ 0 hL rfl) rfl ?_
    refine e_iconst 95 (v := (nI 4)) dX6_diagnose_94 rfl (by decide) ?_
    refine p_callV 98 hL [2, 0, 1, 3, 4] 5 rfl (by decide) (L1 := [row (A 14) 64 lo]) (L2 := [pt d (.inr (1, [.int (nI (v 0)), .int (nI (v 1)), .int (nI (v 2)), .ref (A 3), .ref (A 4), .ref (A 5), .ref (A 6), .ref (A 7), .int (nI (v 8)), .ref (A 9), .ref (A 10), .ref (A 11), .ref (A 12), .ref (A 13), .ref (A 14), .ref (A 15), .ref (A 16), .int (nI (v 17)), .int (nI (v 18)), .int (nI 1)])), pt (A 13) (.inl (0, 9, .inl (fun i => nI (ct i)))), row b cb q, row b2 253 ([])]) rfl row_O 2 rfl dX6_diagnose_95 rfl cv_X6_190 k_X4_addLatest rfl rfl (Nat.le_of_ble_eq_true rfl) ⟨by decide, by omega, by omega⟩ (fun r1 L1 h q hL => ?_)
    obtain ⟨rfl, rfl⟩ := q
    have hL : stars [row (A 14) 64 (lat 64 lo 4), pt d (.inr (1, [.int (nI (v 0)), .int (nI (v 1)), .int (nI (v 2)), .ref (A 3), .ref (A 4), .ref (A 5), .ref (A 6), .ref (A 7), .int (nI (v 8)), .ref (A 9), .ref (A 10), .ref (A 11), .ref (A 12), .ref (A 13), .ref (A 14), .ref (A 15), .ref (A 16), .int (nI (v 17)), .int (nI (v 18)), .int (nI 1)])), pt (A 13) (.inl (0, 9, .inl (fun i => nI (ct i)))), row b cb q, row b2 253 ([])] h := hL
    have hL : stars [pt d (.inr (1, [.int (nI (v 0)), .int (nI (v 1)), .int (nI (v 2)), .ref (A 3), .ref (A 4), .ref (A 5), .ref (A 6), .ref (A 7), .int (nI (v 8)), .ref (A 9), .ref (A 10), .ref (A 11), .ref (A 12), .ref (A 13), .ref (A 14), .ref (A 15), .ref (A 16), .int (nI (v 17)), .int (nI (v 18)), .int (nI 1)])), pt (A 13) (.inl (0, 9, .inl (fun i => nI (ct i)))), row (A 14) 64 (lat 64 lo 4), row b cb q, row b2 253 ([])] h := stars_ixn hL 5 rfl [1, 2, 0, 3, 4] (by decide) rfl
    exact e_vret dX6_diagnose_98 rfl (by omega) (by omega) (⟨_, ⟨rfl, rfl⟩, by (try rw [upd_nI] at hL); (rw [dnD, if_neg (by omega), if_pos (by omega), dnC, if_neg (by omega), if_neg (by omega), dnL, if_neg (by omega), if_pos (by omega), dnA, if_pos (by omega)]) <;> exact hL⟩)
  · refine e_lookup 99 (off := 92) dX6_diagnose_7 (by decide) (by rw [s7]; decide) rfl ?_
    refine e_aload_n 100 dX6_diagnose_99 rfl rfl ?_
    refine p_callV 103 hL [0, 1, 2, 3, 4] 5 rfl (by decide) (L1 := [pt d (.inr (1, [.int (nI (v 0)), .int (nI (v 1)), .int (nI (v 2)), .ref (A 3), .ref (A 4), .ref (A 5), .ref (A 6), .ref (A 7), .int (nI (v 8)), .ref (A 9), .ref (A 10), .ref (A 11), .ref (A 12), .ref (A 13), .ref (A 14), .ref (A 15), .ref (A 16), .int (nI (v 17)), .int (nI (v 18)), .int (bI df)])), pt (A 13) (.inl (0, 9, .inl (fun i => nI (ct i))))]) (L2 := [row (A 14) 64 lo, row b cb q, row b2 253 ([])]) rfl isO_pt 0 rfl dX6_diagnose_100 rfl cv_X6_183 (k_X1_clearCounters (A := A) (v := v) (df := df)) rfl rfl (Nat.le_of_ble_eq_true rfl) ⟨by decide, by omega, by omega⟩ (fun r1 L1 h q hL => ?_)
    obtain ⟨rfl, rfl⟩ := q
    have hL : stars [pt d (.inr (1, [.int (nI (v 0)), .int (nI (v 1)), .int (nI (v 2)), .ref (A 3), .ref (A 4), .ref (A 5), .ref (A 6), .ref (A 7), .int (nI (v 8)), .ref (A 9), .ref (A 10), .ref (A 11), .ref (A 12), .ref (A 13), .ref (A 14), .ref (A 15), .ref (A 16), .int (nI (v 17)), .int (nI (v 18)), .int (bI df)])), pt (A 13) (.inl (0, 9, .inl (fun i => nI ((fun _ => 0) i)))), row (A 14) 64 lo, row b cb q, row b2 253 ([])] h := hL
    refine e_goto 117 dX6_diagnose_103 rfl ?_
    refine e_aload_n 118 dX6_diagnose_117 rfl rfl ?_
    refine e_aload_n 119 dX6_diagnose_118 rfl rfl ?_
    refine e_iconst 120 (v := (nI 0)) dX6_diagnose_119 rfl (by decide) ?_
    refine e_aload_n 121 dX6_diagnose_120 rfl rfl ?_
    obtain ⟨z121, y121⟩ := row_at _ 3 hL rfl
    refine e_get 124 dX6_diagnose_121 rfl fl_X6_104_4 y121 rfl ?_
    refine p_callV 127 hL [4, 3, 0, 1, 2] 5 rfl (by decide) (L1 := [row b2 253 ([]), row b cb q]) (L2 := [pt d (.inr (1, [.int (nI (v 0)), .int (nI (v 1)), .int (nI (v 2)), .ref (A 3), .ref (A 4), .ref (A 5), .ref (A 6), .ref (A 7), .int (nI (v 8)), .ref (A 9), .ref (A 10), .ref (A 11), .ref (A 12), .ref (A 13), .ref (A 14), .ref (A 15), .ref (A 16), .int (nI (v 17)), .int (nI (v 18)), .int (bI df)])), pt (A 13) (.inl (0, 9, .inl (fun i => nI ((fun _ => 0) i)))), row (A 14) 64 lo]) rfl row_O 4 rfl dX6_diagnose_124 rfl cv_X6_134 (k_addP (by omega) (by omega) (by simp only [List.length_append, List.length_cons, List.length_nil, pf_len, w2_len, List.length_map, List.length_range]; omega)) rfl rfl (Nat.le_of_ble_eq_true rfl) ⟨by decide, by omega, by omega⟩ (fun r1 L1 h q hL => ?_)
    obtain ⟨rfl, rfl⟩ := q
    have hL : stars [row b2 253 ([] ++ pf q 0 q.length), row b cb q, pt d (.inr (1, [.int (nI (v 0)), .int (nI (v 1)), .int (nI (v 2)), .ref (A 3), .ref (A 4), .ref (A 5), .ref (A 6), .ref (A 7), .int (nI (v 8)), .ref (A 9), .ref (A 10), .ref (A 11), .ref (A 12), .ref (A 13), .ref (A 14), .ref (A 15), .ref (A 16), .int (nI (v 17)), .int (nI (v 18)), .int (bI df)])), pt (A 13) (.inl (0, 9, .inl (fun i => nI ((fun _ => 0) i)))), row (A 14) 64 lo] h := hL
    have hL : stars [pt d (.inr (1, [.int (nI (v 0)), .int (nI (v 1)), .int (nI (v 2)), .ref (A 3), .ref (A 4), .ref (A 5), .ref (A 6), .ref (A 7), .int (nI (v 8)), .ref (A 9), .ref (A 10), .ref (A 11), .ref (A 12), .ref (A 13), .ref (A 14), .ref (A 15), .ref (A 16), .int (nI (v 17)), .int (nI (v 18)), .int (bI df)])), pt (A 13) (.inl (0, 9, .inl (fun i => nI ((fun _ => 0) i)))), row (A 14) 64 lo, row b cb q, row b2 253 ([] ++ pf q 0 q.length)] h := stars_ixn hL 5 rfl [2, 3, 4, 1, 0] (by decide) rfl
    rw [pf_self, List.nil_append] at hL
    refine e_iload_n 128 dX6_diagnose_127 rfl rfl ?_
    refine e_bipush 130 (v := (nI 11)) dX6_diagnose_128 rfl (by decide) ?_
    refine e_bipush 132 (v := (nI 18)) dX6_diagnose_130 rfl (by decide) ?_
    refine p_callS 135 hL [0, 1, 2, 3, 4] 5 rfl (by decide) (L1 := []) (L2 := [pt d (.inr (1, [.int (nI (v 0)), .int (nI (v 1)), .int (nI (v 2)), .ref (A 3), .ref (A 4), .ref (A 5), .ref (A 6), .ref (A 7), .int (nI (v 8)), .ref (A 9), .ref (A 10), .ref (A 11), .ref (A 12), .ref (A 13), .ref (A 14), .ref (A 15), .ref (A 16), .int (nI (v 17)), .int (nI (v 18)), .int (bI df)])), pt (A 13) (.inl (0, 9, .inl (fun i => nI ((fun _ => 0) i)))), row (A 14) 64 lo, row b cb q, row b2 253 q]) rfl dX6_diagnose_132 rfl cs_X6_201 (k_X11_within (by omega) (by omega) (by omega)) rfl rfl (Nat.le_of_ble_eq_true rfl) ⟨by decide, by omega, by omega⟩ (fun r1 L1 h q hL => ?_)
    obtain ⟨rfl, rfl⟩ := q
    have hL : stars [pt d (.inr (1, [.int (nI (v 0)), .int (nI (v 1)), .int (nI (v 2)), .ref (A 3), .ref (A 4), .ref (A 5), .ref (A 6), .ref (A 7), .int (nI (v 8)), .ref (A 9), .ref (A 10), .ref (A 11), .ref (A 12), .ref (A 13), .ref (A 14), .ref (A 15), .ref (A 16), .int (nI (v 17)), .int (nI (v 18)), .int (bI df)])), pt (A 13) (.inl (0, 9, .inl (fun i => nI ((fun _ => 0) i)))), row (A 14) 64 lo, row b cb q, row b2 253 q] h := hL
    refine e_if_eq 155 138 dX6_diagnose_135 rfl rfl (fun c135 => ?_) (fun c135 => ?_)
    · have k135 := jin_eq_t c135
      exact e_vret dX6_diagnose_155 rfl (by omega) (by omega) (⟨_, ⟨rfl, rfl⟩, by (try rw [upd_nI] at hL); (rw [dnD, if_neg (by omega), if_neg (by omega), dnC, if_pos (by omega), dnL, if_neg (by omega), if_neg (by omega), dnA, if_neg (by omega), if_neg (by omega)]) <;> exact hL⟩)
    · have k135 := jin_eq_f c135
      exfalso; omega
  · refine e_lookup 106 (off := 99) dX6_diagnose_7 (by decide) (by rw [s7]; decide) rfl ?_
    refine e_aload_n 107 dX6_diagnose_106 rfl rfl ?_
    refine e_get 110 dX6_diagnose_107 rfl fl_X6_197_1 (stars_at _ 0 hL rfl) rfl ?_
    refine e_bipush 112 (v := (nI 7)) dX6_diagnose_110 rfl (by decide) ?_
    refine e_iconst 113 (v := (nI 0)) dX6_diagnose_112 rfl (by decide) ?_
    refine p_iast 114 hL 1 (k := 7) (L' := [pt d (.inr (1, [.int (nI (v 0)), .int (nI (v 1)), .int (nI (v 2)), .ref (A 3), .ref (A 4), .ref (A 5), .ref (A 6), .ref (A 7), .int (nI (v 8)), .ref (A 9), .ref (A 10), .ref (A 11), .ref (A 12), .ref (A 13), .ref (A 14), .ref (A 15), .ref (A 16), .int (nI (v 17)), .int (nI (v 18)), .int (bI df)])), pt (A 13) (.inl (0, 9, .inl (upd (fun i => nI (ct i)) 7 (nI 0)))), row (A 14) 64 lo, row b cb q, row b2 253 ([])]) rfl rfl dX6_diagnose_113 rfl (vp_in_nI (by omega) (by omega)) (nI_clamp (by omega)) (fun h hL => ?_)
    refine e_goto 117 dX6_diagnose_114 rfl ?_
    refine e_aload_n 118 dX6_diagnose_117 rfl rfl ?_
    refine e_aload_n 119 dX6_diagnose_118 rfl rfl ?_
    refine e_iconst 120 (v := (nI 0)) dX6_diagnose_119 rfl (by decide) ?_
    refine e_aload_n 121 dX6_diagnose_120 rfl rfl ?_
    obtain ⟨z121, y121⟩ := row_at _ 3 hL rfl
    refine e_get 124 dX6_diagnose_121 rfl fl_X6_104_4 y121 rfl ?_
    refine p_callV 127 hL [4, 3, 0, 1, 2] 5 rfl (by decide) (L1 := [row b2 253 ([]), row b cb q]) (L2 := [pt d (.inr (1, [.int (nI (v 0)), .int (nI (v 1)), .int (nI (v 2)), .ref (A 3), .ref (A 4), .ref (A 5), .ref (A 6), .ref (A 7), .int (nI (v 8)), .ref (A 9), .ref (A 10), .ref (A 11), .ref (A 12), .ref (A 13), .ref (A 14), .ref (A 15), .ref (A 16), .int (nI (v 17)), .int (nI (v 18)), .int (bI df)])), pt (A 13) (.inl (0, 9, .inl (upd (fun i => nI (ct i)) 7 (nI 0)))), row (A 14) 64 lo]) rfl row_O 4 rfl dX6_diagnose_124 rfl cv_X6_134 (k_addP (by omega) (by omega) (by simp only [List.length_append, List.length_cons, List.length_nil, pf_len, w2_len, List.length_map, List.length_range]; omega)) rfl rfl (Nat.le_of_ble_eq_true rfl) ⟨by decide, by omega, by omega⟩ (fun r1 L1 h q hL => ?_)
    obtain ⟨rfl, rfl⟩ := q
    have hL : stars [row b2 253 ([] ++ pf q 0 q.length), row b cb q, pt d (.inr (1, [.int (nI (v 0)), .int (nI (v 1)), .int (nI (v 2)), .ref (A 3), .ref (A 4), .ref (A 5), .ref (A 6), .ref (A 7), .int (nI (v 8)), .ref (A 9), .ref (A 10), .ref (A 11), .ref (A 12), .ref (A 13), .ref (A 14), .ref (A 15), .ref (A 16), .int (nI (v 17)), .int (nI (v 18)), .int (bI df)])), pt (A 13) (.inl (0, 9, .inl (upd (fun i => nI (ct i)) 7 (nI 0)))), row (A 14) 64 lo] h := hL
    have hL : stars [pt d (.inr (1, [.int (nI (v 0)), .int (nI (v 1)), .int (nI (v 2)), .ref (A 3), .ref (A 4), .ref (A 5), .ref (A 6), .ref (A 7), .int (nI (v 8)), .ref (A 9), .ref (A 10), .ref (A 11), .ref (A 12), .ref (A 13), .ref (A 14), .ref (A 15), .ref (A 16), .int (nI (v 17)), .int (nI (v 18)), .int (bI df)])), pt (A 13) (.inl (0, 9, .inl (upd (fun i => nI (ct i)) 7 (nI 0)))), row (A 14) 64 lo, row b cb q, row b2 253 ([] ++ pf q 0 q.length)] h := stars_ixn hL 5 rfl [2, 3, 4, 1, 0] (by decide) rfl
    rw [pf_self, List.nil_append] at hL
    refine e_iload_n 128 dX6_diagnose_127 rfl rfl ?_
    refine e_bipush 130 (v := (nI 11)) dX6_diagnose_128 rfl (by decide) ?_
    refine e_bipush 132 (v := (nI 18)) dX6_diagnose_130 rfl (by decide) ?_
    refine p_callS 135 hL [0, 1, 2, 3, 4] 5 rfl (by decide) (L1 := []) (L2 := [pt d (.inr (1, [.int (nI (v 0)), .int (nI (v 1)), .int (nI (v 2)), .ref (A 3), .ref (A 4), .ref (A 5), .ref (A 6), .ref (A 7), .int (nI (v 8)), .ref (A 9), .ref (A 10), .ref (A 11), .ref (A 12), .ref (A 13), .ref (A 14), .ref (A 15), .ref (A 16), .int (nI (v 17)), .int (nI (v 18)), .int (bI df)])), pt (A 13) (.inl (0, 9, .inl (upd (fun i => nI (ct i)) 7 (nI 0)))), row (A 14) 64 lo, row b cb q, row b2 253 q]) rfl dX6_diagnose_132 rfl cs_X6_201 (k_X11_within (by omega) (by omega) (by omega)) rfl rfl (Nat.le_of_ble_eq_true rfl) ⟨by decide, by omega, by omega⟩ (fun r1 L1 h q hL => ?_)
    obtain ⟨rfl, rfl⟩ := q
    have hL : stars [pt d (.inr (1, [.int (nI (v 0)), .int (nI (v 1)), .int (nI (v 2)), .ref (A 3), .ref (A 4), .ref (A 5), .ref (A 6), .ref (A 7), .int (nI (v 8)), .ref (A 9), .ref (A 10), .ref (A 11), .ref (A 12), .ref (A 13), .ref (A 14), .ref (A 15), .ref (A 16), .int (nI (v 17)), .int (nI (v 18)), .int (bI df)])), pt (A 13) (.inl (0, 9, .inl (upd (fun i => nI (ct i)) 7 (nI 0)))), row (A 14) 64 lo, row b cb q, row b2 253 q] h := hL
    refine e_if_eq 155 138 dX6_diagnose_135 rfl rfl (fun c135 => ?_) (fun c135 => ?_)
    · have k135 := jin_eq_t c135
      exact e_vret dX6_diagnose_155 rfl (by omega) (by omega) (⟨_, ⟨rfl, rfl⟩, by (try rw [upd_nI] at hL); (rw [dnD, if_neg (by omega), if_neg (by omega), dnC, if_neg (by omega), if_pos (by omega), dnL, if_neg (by omega), if_neg (by omega), dnA, if_neg (by omega), if_neg (by omega)]) <;> exact hL⟩)
    · have k135 := jin_eq_f c135
      exfalso; omega
  · refine e_lookup 117 (off := 110) dX6_diagnose_7 (by decide) (by rw [lv_osw (k := nI 1) (j_ne (by omega) (by omega) (by omega)) (by decide), lv_osw (k := nI 4) (j_ne (by omega) (by omega) (by omega)) (by decide), lv_osw (k := nI 10) (j_ne (by omega) (by omega) (by omega)) (by decide), lv_osw (k := nI 20) (j_ne (by omega) (by omega) (by omega)) (by decide)]; rfl) rfl ?_
    refine e_aload_n 118 dX6_diagnose_117 rfl rfl ?_
    refine e_aload_n 119 dX6_diagnose_118 rfl rfl ?_
    refine e_iconst 120 (v := (nI 0)) dX6_diagnose_119 rfl (by decide) ?_
    refine e_aload_n 121 dX6_diagnose_120 rfl rfl ?_
    obtain ⟨z121, y121⟩ := row_at _ 3 hL rfl
    refine e_get 124 dX6_diagnose_121 rfl fl_X6_104_4 y121 rfl ?_
    refine p_callV 127 hL [4, 3, 0, 1, 2] 5 rfl (by decide) (L1 := [row b2 253 ([]), row b cb q]) (L2 := [pt d (.inr (1, [.int (nI (v 0)), .int (nI (v 1)), .int (nI (v 2)), .ref (A 3), .ref (A 4), .ref (A 5), .ref (A 6), .ref (A 7), .int (nI (v 8)), .ref (A 9), .ref (A 10), .ref (A 11), .ref (A 12), .ref (A 13), .ref (A 14), .ref (A 15), .ref (A 16), .int (nI (v 17)), .int (nI (v 18)), .int (bI df)])), pt (A 13) (.inl (0, 9, .inl (fun i => nI (ct i)))), row (A 14) 64 lo]) rfl row_O 4 rfl dX6_diagnose_124 rfl cv_X6_134 (k_addP (by omega) (by omega) (by simp only [List.length_append, List.length_cons, List.length_nil, pf_len, w2_len, List.length_map, List.length_range]; omega)) rfl rfl (Nat.le_of_ble_eq_true rfl) ⟨by decide, by omega, by omega⟩ (fun r1 L1 h q hL => ?_)
    obtain ⟨rfl, rfl⟩ := q
    have hL : stars [row b2 253 ([] ++ pf q 0 q.length), row b cb q, pt d (.inr (1, [.int (nI (v 0)), .int (nI (v 1)), .int (nI (v 2)), .ref (A 3), .ref (A 4), .ref (A 5), .ref (A 6), .ref (A 7), .int (nI (v 8)), .ref (A 9), .ref (A 10), .ref (A 11), .ref (A 12), .ref (A 13), .ref (A 14), .ref (A 15), .ref (A 16), .int (nI (v 17)), .int (nI (v 18)), .int (bI df)])), pt (A 13) (.inl (0, 9, .inl (fun i => nI (ct i)))), row (A 14) 64 lo] h := hL
    have hL : stars [pt d (.inr (1, [.int (nI (v 0)), .int (nI (v 1)), .int (nI (v 2)), .ref (A 3), .ref (A 4), .ref (A 5), .ref (A 6), .ref (A 7), .int (nI (v 8)), .ref (A 9), .ref (A 10), .ref (A 11), .ref (A 12), .ref (A 13), .ref (A 14), .ref (A 15), .ref (A 16), .int (nI (v 17)), .int (nI (v 18)), .int (bI df)])), pt (A 13) (.inl (0, 9, .inl (fun i => nI (ct i)))), row (A 14) 64 lo, row b cb q, row b2 253 ([] ++ pf q 0 q.length)] h := stars_ixn hL 5 rfl [2, 3, 4, 1, 0] (by decide) rfl
    rw [pf_self, List.nil_append] at hL
    refine e_iload_n 128 dX6_diagnose_127 rfl rfl ?_
    refine e_bipush 130 (v := (nI 11)) dX6_diagnose_128 rfl (by decide) ?_
    refine e_bipush 132 (v := (nI 18)) dX6_diagnose_130 rfl (by decide) ?_
    refine p_callS 135 hL [0, 1, 2, 3, 4] 5 rfl (by decide) (L1 := []) (L2 := [pt d (.inr (1, [.int (nI (v 0)), .int (nI (v 1)), .int (nI (v 2)), .ref (A 3), .ref (A 4), .ref (A 5), .ref (A 6), .ref (A 7), .int (nI (v 8)), .ref (A 9), .ref (A 10), .ref (A 11), .ref (A 12), .ref (A 13), .ref (A 14), .ref (A 15), .ref (A 16), .int (nI (v 17)), .int (nI (v 18)), .int (bI df)])), pt (A 13) (.inl (0, 9, .inl (fun i => nI (ct i)))), row (A 14) 64 lo, row b cb q, row b2 253 q]) rfl dX6_diagnose_132 rfl cs_X6_201 (k_X11_within (by omega) (by omega) (by omega)) rfl rfl (Nat.le_of_ble_eq_true rfl) ⟨by decide, by omega, by omega⟩ (fun r1 L1 h q hL => ?_)
    obtain ⟨rfl, rfl⟩ := q
    have hL : stars [pt d (.inr (1, [.int (nI (v 0)), .int (nI (v 1)), .int (nI (v 2)), .ref (A 3), .ref (A 4), .ref (A 5), .ref (A 6), .ref (A 7), .int (nI (v 8)), .ref (A 9), .ref (A 10), .ref (A 11), .ref (A 12), .ref (A 13), .ref (A 14), .ref (A 15), .ref (A 16), .int (nI (v 17)), .int (nI (v 18)), .int (bI df)])), pt (A 13) (.inl (0, 9, .inl (fun i => nI (ct i)))), row (A 14) 64 lo, row b cb q, row b2 253 q] h := hL
    refine e_if_eq 155 138 dX6_diagnose_135 rfl rfl (fun c135 => ?_) (fun c135 => ?_)
    · have k135 := jin_eq_t c135
      exact e_vret dX6_diagnose_155 rfl (by omega) (by omega) (⟨_, ⟨rfl, rfl⟩, by (try rw [upd_nI] at hL); (rw [dnD, if_neg (by omega), if_neg (by omega), dnC, if_neg (by omega), if_neg (by omega), dnL, if_neg (by omega), if_neg (by omega), dnA, if_neg (by omega), if_neg (by omega)]) <;> exact hL⟩)
    · have k135 := jin_eq_f c135
      refine e_aload_n 139 dX6_diagnose_138 rfl rfl ?_
      refine e_iconst 140 (v := (nI 3)) dX6_diagnose_139 rfl (by decide) ?_
      refine p_callV 143 hL [4, 0, 1, 2, 3] 5 rfl (by decide) (L1 := [row b2 253 q]) (L2 := [pt d (.inr (1, [.int (nI (v 0)), .int (nI (v 1)), .int (nI (v 2)), .ref (A 3), .ref (A 4), .ref (A 5), .ref (A 6), .ref (A 7), .int (nI (v 8)), .ref (A 9), .ref (A 10), .ref (A 11), .ref (A 12), .ref (A 13), .ref (A 14), .ref (A 15), .ref (A 16), .int (nI (v 17)), .int (nI (v 18)), .int (bI df)])), pt (A 13) (.inl (0, 9, .inl (fun i => nI (ct i)))), row (A 14) 64 lo, row b cb q]) rfl row_O 4 rfl dX6_diagnose_140 rfl cv_X6_205 (k_X4_cut (by omega)) rfl rfl (Nat.le_of_ble_eq_true rfl) ⟨by decide, by omega, by omega⟩ (fun r1 L1 h q hL => ?_)
      obtain ⟨rfl, rfl⟩ := q
      have hL : stars [row b2 253 (q.take 3), pt d (.inr (1, [.int (nI (v 0)), .int (nI (v 1)), .int (nI (v 2)), .ref (A 3), .ref (A 4), .ref (A 5), .ref (A 6), .ref (A 7), .int (nI (v 8)), .ref (A 9), .ref (A 10), .ref (A 11), .ref (A 12), .ref (A 13), .ref (A 14), .ref (A 15), .ref (A 16), .int (nI (v 17)), .int (nI (v 18)), .int (bI df)])), pt (A 13) (.inl (0, 9, .inl (fun i => nI (ct i)))), row (A 14) 64 lo, row b cb q] h := hL
      have hL : stars [pt d (.inr (1, [.int (nI (v 0)), .int (nI (v 1)), .int (nI (v 2)), .ref (A 3), .ref (A 4), .ref (A 5), .ref (A 6), .ref (A 7), .int (nI (v 8)), .ref (A 9), .ref (A 10), .ref (A 11), .ref (A 12), .ref (A 13), .ref (A 14), .ref (A 15), .ref (A 16), .int (nI (v 17)), .int (nI (v 18)), .int (bI df)])), pt (A 13) (.inl (0, 9, .inl (fun i => nI (ct i)))), row (A 14) 64 lo, row b cb q, row b2 253 (q.take 3)] h := stars_ixn hL 5 rfl [1, 2, 3, 4, 0] (by decide) rfl
      refine e_aload_n 144 dX6_diagnose_143 rfl rfl ?_
      refine e_aload_n 145 dX6_diagnose_144 rfl rfl ?_
      refine e_iload_n 146 dX6_diagnose_145 rfl rfl ?_
      refine e_bipush 148 (v := (nI 11)) dX6_diagnose_146 rfl (by decide) ?_
      refine e_isub 149 (v := (nI (wd q 1 - 11))) dX6_diagnose_148 rfl (pk_sub (by omega)) ?_
      refine p_callV 152 hL [0, 1, 2, 3, 4] 5 rfl (by decide) (L1 := [pt d (.inr (1, [.int (nI (v 0)), .int (nI (v 1)), .int (nI (v 2)), .ref (A 3), .ref (A 4), .ref (A 5), .ref (A 6), .ref (A 7), .int (nI (v 8)), .ref (A 9), .ref (A 10), .ref (A 11), .ref (A 12), .ref (A 13), .ref (A 14), .ref (A 15), .ref (A 16), .int (nI (v 17)), .int (nI (v 18)), .int (bI df)])), pt (A 13) (.inl (0, 9, .inl (fun i => nI (ct i))))]) (L2 := [row (A 14) 64 lo, row b cb q, row b2 253 (q.take 3)]) rfl isO_pt 0 rfl dX6_diagnose_149 rfl cv_X6_163 (k_X1_counterOf (A := A) (v := v) (df := df) (by omega)) rfl rfl (Nat.le_of_ble_eq_true rfl) ⟨by decide, by omega, by omega⟩ (fun r1 L1 h q hL => ?_)
      obtain ⟨rfl, rfl⟩ := q
      have hL : stars [pt d (.inr (1, [.int (nI (v 0)), .int (nI (v 1)), .int (nI (v 2)), .ref (A 3), .ref (A 4), .ref (A 5), .ref (A 6), .ref (A 7), .int (nI (v 8)), .ref (A 9), .ref (A 10), .ref (A 11), .ref (A 12), .ref (A 13), .ref (A 14), .ref (A 15), .ref (A 16), .int (nI (v 17)), .int (nI (v 18)), .int (bI df)])), pt (A 13) (.inl (0, 9, .inl (fun i => nI (ct i)))), row (A 14) 64 lo, row b cb q, row b2 253 (q.take 3)] h := hL
      have hct9 : ct (wd q 1 - 11) < 65536 := hct _ (by omega)
      refine p_callV 155 hL [4, 0, 1, 2, 3] 5 rfl (by decide) (L1 := [row b2 253 (q.take 3)]) (L2 := [pt d (.inr (1, [.int (nI (v 0)), .int (nI (v 1)), .int (nI (v 2)), .ref (A 3), .ref (A 4), .ref (A 5), .ref (A 6), .ref (A 7), .int (nI (v 8)), .ref (A 9), .ref (A 10), .ref (A 11), .ref (A 12), .ref (A 13), .ref (A 14), .ref (A 15), .ref (A 16), .int (nI (v 17)), .int (nI (v 18)), .int (bI df)])), pt (A 13) (.inl (0, 9, .inl (fun i => nI (ct i)))), row (A 14) 64 lo, row b cb q]) rfl row_O 4 rfl dX6_diagnose_152 rfl cv_X6_160 (k_add2 (by omega) (by rw [List.length_take]; omega)) rfl rfl (Nat.le_of_ble_eq_true rfl) ⟨by decide, by omega, by omega⟩ (fun r1 L1 h q hL => ?_)
      obtain ⟨rfl, rfl⟩ := q
      have hL : stars [row b2 253 ((q.take 3) ++ w2 (ct (wd q 1 - 11))), pt d (.inr (1, [.int (nI (v 0)), .int (nI (v 1)), .int (nI (v 2)), .ref (A 3), .ref (A 4), .ref (A 5), .ref (A 6), .ref (A 7), .int (nI (v 8)), .ref (A 9), .ref (A 10), .ref (A 11), .ref (A 12), .ref (A 13), .ref (A 14), .ref (A 15), .ref (A 16), .int (nI (v 17)), .int (nI (v 18)), .int (bI df)])), pt (A 13) (.inl (0, 9, .inl (fun i => nI (ct i)))), row (A 14) 64 lo, row b cb q] h := hL
      have hL : stars [pt d (.inr (1, [.int (nI (v 0)), .int (nI (v 1)), .int (nI (v 2)), .ref (A 3), .ref (A 4), .ref (A 5), .ref (A 6), .ref (A 7), .int (nI (v 8)), .ref (A 9), .ref (A 10), .ref (A 11), .ref (A 12), .ref (A 13), .ref (A 14), .ref (A 15), .ref (A 16), .int (nI (v 17)), .int (nI (v 18)), .int (bI df)])), pt (A 13) (.inl (0, 9, .inl (fun i => nI (ct i)))), row (A 14) 64 lo, row b cb q, row b2 253 ((q.take 3) ++ w2 (ct (wd q 1 - 11)))] h := stars_ixn hL 5 rfl [1, 2, 3, 4, 0] (by decide) rfl
      exact e_vret dX6_diagnose_155 rfl (by omega) (by omega) (⟨_, ⟨rfl, rfl⟩, by (try rw [upd_nI] at hL); (rw [dnD, if_neg (by omega), if_neg (by omega), dnC, if_neg (by omega), if_neg (by omega), dnL, if_neg (by omega), if_neg (by omega), dnA, if_neg (by omega), if_pos (by omega)]) <;> exact hL⟩)
set_option maxRecDepth 20000 in
set_option maxHeartbeats 2000000 in
theorem l_X6_tellEvents {d b2 : Nat} {A v : Nat → Nat} {df : Bool} {ct : Nat → Nat} {lo : List Nat} (hct : ∀ i, i < 9 → ct i < 65536) (hl9 : lo.length ≤ 64) : ∀ (n : Nat) (k : Nat) (h : eH), k < n → k ≤ lo.length → stars [pt d (.inr (1, [.int (nI (v 0)), .int (nI (v 1)), .int (nI (v 2)), .ref (A 3), .ref (A 4), .ref (A 5), .ref (A 6), .ref (A 7), .int (nI (v 8)), .ref (A 9), .ref (A 10), .ref (A 11), .ref (A 12), .ref (A 13), .ref (A 14), .ref (A 15), .ref (A 16), .int (nI (v 17)), .int (nI (v 18)), .int (bI df)])), pt (A 13) (.inl (0, 9, .inl (fun i => nI (ct i)))), row (A 14) 64 lo, row b2 253 (tvR ct lo ++ (lo.drop k).reverse)] h → EE mX6_tellEvents 1 40 0 0 (fun r h' => ∃ L', (r = none ∧ L' = [dvO d A v df, pI (A 13) 9 ct, row (A 14) 64 lo, row b2 253 (tvR ct lo ++ lo.reverse)]) ∧ stars L' h') 53 [some (.ref d), some (.ref b2), some (.ref (A 14)), some (.int ((nI k) - nI 1))] [] h 0 0 := by
  intro n
  induction n with
  | zero => intro k h hlt hk hL; exact absurd hlt (by omega)
  | succ n ih =>
    intro k h hlt hk hL
    refine e_iload_n 54 dX6_tellEvents_53 rfl rfl ?_
    refine e_if_lt 72 57 dX6_tellEvents_54 rfl rfl (fun c54 => ?_) (fun c54 => ?_)
    · exact e_vret dX6_tellEvents_72 rfl (by omega) (by omega) (⟨_, ⟨rfl, rfl⟩, by have := (sub_lt (n := k) (k := 1) (t := 0) (by omega) (by omega) (by omega)).mp c54; rw [show k = 0 by omega, List.drop_zero] at hL; exact hL⟩)
    · obtain ⟨k, rfl⟩ : ∃ j, k = j + 1 := ⟨k - 1, by have := mt (sub_lt (n := k) (k := 1) (t := 0) (by omega) (by omega) (by omega)).mpr c54; omega⟩
      refine e_wk [some (.ref d), some (.ref b2), some (.ref (A 14)), some (.int (nI k))] ⟨rfl, rfl, rfl, by rw [pk_sub (by omega)]; rfl, trivial⟩ ?_
      refine e_aload_n 58 dX6_tellEvents_57 rfl rfl ?_
      refine e_aload_n 59 dX6_tellEvents_58 rfl rfl ?_
      refine e_iload_n 60 dX6_tellEvents_59 rfl rfl ?_
      refine p_callV 63 hL [2, 0, 1, 3] 4 rfl (by decide) (L1 := [row (A 14) 64 lo]) (L2 := [pt d (.inr (1, [.int (nI (v 0)), .int (nI (v 1)), .int (nI (v 2)), .ref (A 3), .ref (A 4), .ref (A 5), .ref (A 6), .ref (A 7), .int (nI (v 8)), .ref (A 9), .ref (A 10), .ref (A 11), .ref (A 12), .ref (A 13), .ref (A 14), .ref (A 15), .ref (A 16), .int (nI (v 17)), .int (nI (v 18)), .int (bI df)])), pt (A 13) (.inl (0, 9, .inl (fun i => nI (ct i)))), row b2 253 (tvR ct lo ++ (lo.drop (k + 1)).reverse)]) rfl row_O 2 rfl dX6_tellEvents_60 rfl cv_X6_36 (k_X4_at (by omega)) rfl rfl (Nat.le_of_ble_eq_true rfl) ⟨by decide, by omega, by omega⟩ (fun r1 L1 h q hL => ?_)
      obtain ⟨rfl, rfl⟩ := q
      have hL : stars [row (A 14) 64 lo, pt d (.inr (1, [.int (nI (v 0)), .int (nI (v 1)), .int (nI (v 2)), .ref (A 3), .ref (A 4), .ref (A 5), .ref (A 6), .ref (A 7), .int (nI (v 8)), .ref (A 9), .ref (A 10), .ref (A 11), .ref (A 12), .ref (A 13), .ref (A 14), .ref (A 15), .ref (A 16), .int (nI (v 17)), .int (nI (v 18)), .int (bI df)])), pt (A 13) (.inl (0, 9, .inl (fun i => nI (ct i)))), row b2 253 (tvR ct lo ++ (lo.drop (k + 1)).reverse)] h := hL
      have hL : stars [pt d (.inr (1, [.int (nI (v 0)), .int (nI (v 1)), .int (nI (v 2)), .ref (A 3), .ref (A 4), .ref (A 5), .ref (A 6), .ref (A 7), .int (nI (v 8)), .ref (A 9), .ref (A 10), .ref (A 11), .ref (A 12), .ref (A 13), .ref (A 14), .ref (A 15), .ref (A 16), .int (nI (v 17)), .int (nI (v 18)), .int (bI df)])), pt (A 13) (.inl (0, 9, .inl (fun i => nI (ct i)))), row (A 14) 64 lo, row b2 253 (tvR ct lo ++ (lo.drop (k + 1)).reverse)] h := stars_ixn hL 4 rfl [1, 2, 0, 3] (by decide) rfl
      refine p_callV 66 hL [3, 0, 1, 2] 4 rfl (by decide) (L1 := [row b2 253 (tvR ct lo ++ (lo.drop (k + 1)).reverse)]) (L2 := [pt d (.inr (1, [.int (nI (v 0)), .int (nI (v 1)), .int (nI (v 2)), .ref (A 3), .ref (A 4), .ref (A 5), .ref (A 6), .ref (A 7), .int (nI (v 8)), .ref (A 9), .ref (A 10), .ref (A 11), .ref (A 12), .ref (A 13), .ref (A 14), .ref (A 15), .ref (A 16), .int (nI (v 17)), .int (nI (v 18)), .int (bI df)])), pt (A 13) (.inl (0, 9, .inl (fun i => nI (ct i)))), row (A 14) 64 lo]) rfl row_O 3 rfl dX6_tellEvents_63 rfl cv_X6_40 (k_add1 (by rw [List.length_append, tvR_len, List.length_reverse, List.length_drop]; omega)) rfl rfl (Nat.le_of_ble_eq_true rfl) ⟨by decide, by omega, by omega⟩ (fun r1 L1 h q hL => ?_)
      obtain ⟨rfl, rfl⟩ := q
      have hL : stars [row b2 253 ((tvR ct lo ++ (lo.drop (k + 1)).reverse) ++ [(lo.getD k 0)]), pt d (.inr (1, [.int (nI (v 0)), .int (nI (v 1)), .int (nI (v 2)), .ref (A 3), .ref (A 4), .ref (A 5), .ref (A 6), .ref (A 7), .int (nI (v 8)), .ref (A 9), .ref (A 10), .ref (A 11), .ref (A 12), .ref (A 13), .ref (A 14), .ref (A 15), .ref (A 16), .int (nI (v 17)), .int (nI (v 18)), .int (bI df)])), pt (A 13) (.inl (0, 9, .inl (fun i => nI (ct i)))), row (A 14) 64 lo] h := hL
      have hL : stars [pt d (.inr (1, [.int (nI (v 0)), .int (nI (v 1)), .int (nI (v 2)), .ref (A 3), .ref (A 4), .ref (A 5), .ref (A 6), .ref (A 7), .int (nI (v 8)), .ref (A 9), .ref (A 10), .ref (A 11), .ref (A 12), .ref (A 13), .ref (A 14), .ref (A 15), .ref (A 16), .int (nI (v 17)), .int (nI (v 18)), .int (bI df)])), pt (A 13) (.inl (0, 9, .inl (fun i => nI (ct i)))), row (A 14) 64 lo, row b2 253 ((tvR ct lo ++ (lo.drop (k + 1)).reverse) ++ [(lo.getD k 0)])] h := stars_ixn hL 4 rfl [1, 2, 3, 0] (by decide) rfl
      refine e_iinc 69 (v := ((nI k) - nI 1)) (ls' := [some (.ref d), some (.ref b2), some (.ref (A 14)), some (.int ((nI k) - nI 1))]) dX6_tellEvents_66 rfl rfl (show nI k + (-1) = nI k - nI 1 from Int32.sub_eq_add_neg _ _ ▸ rfl) (by decide) rfl ?_
      refine e_goto 53 dX6_tellEvents_69 rfl ?_
      rw [List.append_assoc, drop_rev (by omega)] at hL
      exact ih k h (by omega) (by omega) hL
set_option maxRecDepth 20000 in
set_option maxHeartbeats 2000000 in
/-- tellEvents(device, a) -/
theorem k_X6_tellEvents {d b2 : Nat} {A v : Nat → Nat} {df : Bool} {ct : Nat → Nat} {lo : List Nat} (hct : ∀ i, i < 9 → ct i < 65536) (hl9 : lo.length ≤ 64) : CA mX6_tellEvents [.ref d, .ref b2] [dvO d A v df, pI (A 13) 9 ct, row (A 14) 64 lo, row b2 253 ([])] (fun r L => r = none ∧ L = [dvO d A v df, pI (A 13) 9 ct, row (A 14) 64 lo, row b2 253 (tvR ct lo ++ lo.reverse)]) 1 40 0 0 := by
  refine CA.mk 2 (ls := [some (.ref d), some (.ref b2), none, none]) rfl rfl (Nat.le_of_ble_eq_true rfl) rfl (fun h hL => ?_)
  refine e_aload_n 1 dX6_tellEvents_0 rfl rfl ?_
  refine e_get 4 dX6_tellEvents_1 rfl fl_X6_186_1 (stars_at _ 0 hL rfl) rfl ?_
  refine e_astore_n 5 (ls' := [some (.ref d), some (.ref b2), some (.ref (A 14)), none]) dX6_tellEvents_4 rfl (by decide) rfl ?_
  refine e_aload_n 6 dX6_tellEvents_5 rfl rfl ?_
  refine e_bipush 8 (v := (nI 12)) dX6_tellEvents_6 rfl (by decide) ?_
  refine p_callV 11 hL [3, 0, 1, 2] 4 rfl (by decide) (L1 := [row b2 253 ([])]) (L2 := [pt d (.inr (1, [.int (nI (v 0)), .int (nI (v 1)), .int (nI (v 2)), .ref (A 3), .ref (A 4), .ref (A 5), .ref (A 6), .ref (A 7), .int (nI (v 8)), .ref (A 9), .ref (A 10), .ref (A 11), .ref (A 12), .ref (A 13), .ref (A 14), .ref (A 15), .ref (A 16), .int (nI (v 17)), .int (nI (v 18)), .int (bI df)])), pt (A 13) (.inl (0, 9, .inl (fun i => nI (ct i)))), row (A 14) 64 lo]) rfl row_O 3 rfl dX6_tellEvents_8 rfl cv_X6_40 (k_add1 (by simp only [List.length_append, List.length_cons, List.length_nil, pf_len, w2_len, List.length_map, List.length_range]; omega)) rfl rfl (Nat.le_of_ble_eq_true rfl) ⟨by decide, by omega, by omega⟩ (fun r1 L1 h q hL => ?_)
  obtain ⟨rfl, rfl⟩ := q
  have hL : stars [row b2 253 ([] ++ [12]), pt d (.inr (1, [.int (nI (v 0)), .int (nI (v 1)), .int (nI (v 2)), .ref (A 3), .ref (A 4), .ref (A 5), .ref (A 6), .ref (A 7), .int (nI (v 8)), .ref (A 9), .ref (A 10), .ref (A 11), .ref (A 12), .ref (A 13), .ref (A 14), .ref (A 15), .ref (A 16), .int (nI (v 17)), .int (nI (v 18)), .int (bI df)])), pt (A 13) (.inl (0, 9, .inl (fun i => nI (ct i)))), row (A 14) 64 lo] h := hL
  have hL : stars [pt d (.inr (1, [.int (nI (v 0)), .int (nI (v 1)), .int (nI (v 2)), .ref (A 3), .ref (A 4), .ref (A 5), .ref (A 6), .ref (A 7), .int (nI (v 8)), .ref (A 9), .ref (A 10), .ref (A 11), .ref (A 12), .ref (A 13), .ref (A 14), .ref (A 15), .ref (A 16), .int (nI (v 17)), .int (nI (v 18)), .int (bI df)])), pt (A 13) (.inl (0, 9, .inl (fun i => nI (ct i)))), row (A 14) 64 lo, row b2 253 ([] ++ [12])] h := stars_ixn hL 4 rfl [1, 2, 3, 0] (by decide) rfl
  refine e_aload_n 12 dX6_tellEvents_11 rfl rfl ?_
  refine e_bipush 14 (v := (nI 6)) dX6_tellEvents_12 rfl (by decide) ?_
  refine e_aload_n 15 dX6_tellEvents_14 rfl rfl ?_
  obtain ⟨z15, y15⟩ := row_at _ 2 hL rfl
  refine e_get 18 dX6_tellEvents_15 rfl fl_X6_104_4 y15 rfl ?_
  refine e_iadd 19 (v := (nI (6 + lo.length))) dX6_tellEvents_18 rfl (nI_add 6 lo.length) ?_
  refine p_callV 22 hL [3, 0, 1, 2] 4 rfl (by decide) (L1 := [row b2 253 ([] ++ [12])]) (L2 := [pt d (.inr (1, [.int (nI (v 0)), .int (nI (v 1)), .int (nI (v 2)), .ref (A 3), .ref (A 4), .ref (A 5), .ref (A 6), .ref (A 7), .int (nI (v 8)), .ref (A 9), .ref (A 10), .ref (A 11), .ref (A 12), .ref (A 13), .ref (A 14), .ref (A 15), .ref (A 16), .int (nI (v 17)), .int (nI (v 18)), .int (bI df)])), pt (A 13) (.inl (0, 9, .inl (fun i => nI (ct i)))), row (A 14) 64 lo]) rfl row_O 3 rfl dX6_tellEvents_19 rfl cv_X6_40 (k_add1 (by simp only [List.length_append, List.length_cons, List.length_nil, pf_len, w2_len, List.length_map, List.length_range]; omega)) rfl rfl (Nat.le_of_ble_eq_true rfl) ⟨by decide, by omega, by omega⟩ (fun r1 L1 h q hL => ?_)
  obtain ⟨rfl, rfl⟩ := q
  have hL : stars [row b2 253 (([] ++ [12]) ++ [(6 + lo.length)]), pt d (.inr (1, [.int (nI (v 0)), .int (nI (v 1)), .int (nI (v 2)), .ref (A 3), .ref (A 4), .ref (A 5), .ref (A 6), .ref (A 7), .int (nI (v 8)), .ref (A 9), .ref (A 10), .ref (A 11), .ref (A 12), .ref (A 13), .ref (A 14), .ref (A 15), .ref (A 16), .int (nI (v 17)), .int (nI (v 18)), .int (bI df)])), pt (A 13) (.inl (0, 9, .inl (fun i => nI (ct i)))), row (A 14) 64 lo] h := hL
  have hL : stars [pt d (.inr (1, [.int (nI (v 0)), .int (nI (v 1)), .int (nI (v 2)), .ref (A 3), .ref (A 4), .ref (A 5), .ref (A 6), .ref (A 7), .int (nI (v 8)), .ref (A 9), .ref (A 10), .ref (A 11), .ref (A 12), .ref (A 13), .ref (A 14), .ref (A 15), .ref (A 16), .int (nI (v 17)), .int (nI (v 18)), .int (bI df)])), pt (A 13) (.inl (0, 9, .inl (fun i => nI (ct i)))), row (A 14) 64 lo, row b2 253 (([] ++ [12]) ++ [(6 + lo.length)])] h := stars_ixn hL 4 rfl [1, 2, 3, 0] (by decide) rfl
  refine e_aload_n 23 dX6_tellEvents_22 rfl rfl ?_
  refine e_iconst 24 (v := (nI 0)) dX6_tellEvents_23 rfl (by decide) ?_
  refine p_callV 27 hL [3, 0, 1, 2] 4 rfl (by decide) (L1 := [row b2 253 (([] ++ [12]) ++ [(6 + lo.length)])]) (L2 := [pt d (.inr (1, [.int (nI (v 0)), .int (nI (v 1)), .int (nI (v 2)), .ref (A 3), .ref (A 4), .ref (A 5), .ref (A 6), .ref (A 7), .int (nI (v 8)), .ref (A 9), .ref (A 10), .ref (A 11), .ref (A 12), .ref (A 13), .ref (A 14), .ref (A 15), .ref (A 16), .int (nI (v 17)), .int (nI (v 18)), .int (bI df)])), pt (A 13) (.inl (0, 9, .inl (fun i => nI (ct i)))), row (A 14) 64 lo]) rfl row_O 3 rfl dX6_tellEvents_24 rfl cv_X6_160 (k_add2 (by omega) (by simp only [List.length_append, List.length_cons, List.length_nil, pf_len, w2_len, List.length_map, List.length_range]; omega)) rfl rfl (Nat.le_of_ble_eq_true rfl) ⟨by decide, by omega, by omega⟩ (fun r1 L1 h q hL => ?_)
  obtain ⟨rfl, rfl⟩ := q
  have hL : stars [row b2 253 ((([] ++ [12]) ++ [(6 + lo.length)]) ++ w2 0), pt d (.inr (1, [.int (nI (v 0)), .int (nI (v 1)), .int (nI (v 2)), .ref (A 3), .ref (A 4), .ref (A 5), .ref (A 6), .ref (A 7), .int (nI (v 8)), .ref (A 9), .ref (A 10), .ref (A 11), .ref (A 12), .ref (A 13), .ref (A 14), .ref (A 15), .ref (A 16), .int (nI (v 17)), .int (nI (v 18)), .int (bI df)])), pt (A 13) (.inl (0, 9, .inl (fun i => nI (ct i)))), row (A 14) 64 lo] h := hL
  have hL : stars [pt d (.inr (1, [.int (nI (v 0)), .int (nI (v 1)), .int (nI (v 2)), .ref (A 3), .ref (A 4), .ref (A 5), .ref (A 6), .ref (A 7), .int (nI (v 8)), .ref (A 9), .ref (A 10), .ref (A 11), .ref (A 12), .ref (A 13), .ref (A 14), .ref (A 15), .ref (A 16), .int (nI (v 17)), .int (nI (v 18)), .int (bI df)])), pt (A 13) (.inl (0, 9, .inl (fun i => nI (ct i)))), row (A 14) 64 lo, row b2 253 ((([] ++ [12]) ++ [(6 + lo.length)]) ++ w2 0)] h := stars_ixn hL 4 rfl [1, 2, 3, 0] (by decide) rfl
  refine e_aload_n 28 dX6_tellEvents_27 rfl rfl ?_
  refine e_aload_n 29 dX6_tellEvents_28 rfl rfl ?_
  refine e_bipush 31 (v := (nI 8)) dX6_tellEvents_29 rfl (by decide) ?_
  refine p_callV 34 hL [0, 1, 2, 3] 4 rfl (by decide) (L1 := [pt d (.inr (1, [.int (nI (v 0)), .int (nI (v 1)), .int (nI (v 2)), .ref (A 3), .ref (A 4), .ref (A 5), .ref (A 6), .ref (A 7), .int (nI (v 8)), .ref (A 9), .ref (A 10), .ref (A 11), .ref (A 12), .ref (A 13), .ref (A 14), .ref (A 15), .ref (A 16), .int (nI (v 17)), .int (nI (v 18)), .int (bI df)])), pt (A 13) (.inl (0, 9, .inl (fun i => nI (ct i))))]) (L2 := [row (A 14) 64 lo, row b2 253 ((([] ++ [12]) ++ [(6 + lo.length)]) ++ w2 0)]) rfl isO_pt 0 rfl dX6_tellEvents_31 rfl cv_X6_163 (k_X1_counterOf (A := A) (v := v) (df := df) (by omega)) rfl rfl (Nat.le_of_ble_eq_true rfl) ⟨by decide, by omega, by omega⟩ (fun r1 L1 h q hL => ?_)
  obtain ⟨rfl, rfl⟩ := q
  have hL : stars [pt d (.inr (1, [.int (nI (v 0)), .int (nI (v 1)), .int (nI (v 2)), .ref (A 3), .ref (A 4), .ref (A 5), .ref (A 6), .ref (A 7), .int (nI (v 8)), .ref (A 9), .ref (A 10), .ref (A 11), .ref (A 12), .ref (A 13), .ref (A 14), .ref (A 15), .ref (A 16), .int (nI (v 17)), .int (nI (v 18)), .int (bI df)])), pt (A 13) (.inl (0, 9, .inl (fun i => nI (ct i)))), row (A 14) 64 lo, row b2 253 ((([] ++ [12]) ++ [(6 + lo.length)]) ++ w2 0)] h := hL
  have hct9 : ct 8 < 65536 := hct _ (by omega)
  refine p_callV 37 hL [3, 0, 1, 2] 4 rfl (by decide) (L1 := [row b2 253 ((([] ++ [12]) ++ [(6 + lo.length)]) ++ w2 0)]) (L2 := [pt d (.inr (1, [.int (nI (v 0)), .int (nI (v 1)), .int (nI (v 2)), .ref (A 3), .ref (A 4), .ref (A 5), .ref (A 6), .ref (A 7), .int (nI (v 8)), .ref (A 9), .ref (A 10), .ref (A 11), .ref (A 12), .ref (A 13), .ref (A 14), .ref (A 15), .ref (A 16), .int (nI (v 17)), .int (nI (v 18)), .int (bI df)])), pt (A 13) (.inl (0, 9, .inl (fun i => nI (ct i)))), row (A 14) 64 lo]) rfl row_O 3 rfl dX6_tellEvents_34 rfl cv_X6_160 (k_add2 (by omega) (by simp only [List.length_append, List.length_cons, List.length_nil, pf_len, w2_len, List.length_map, List.length_range]; omega)) rfl rfl (Nat.le_of_ble_eq_true rfl) ⟨by decide, by omega, by omega⟩ (fun r1 L1 h q hL => ?_)
  obtain ⟨rfl, rfl⟩ := q
  have hL : stars [row b2 253 (((([] ++ [12]) ++ [(6 + lo.length)]) ++ w2 0) ++ w2 (ct 8)), pt d (.inr (1, [.int (nI (v 0)), .int (nI (v 1)), .int (nI (v 2)), .ref (A 3), .ref (A 4), .ref (A 5), .ref (A 6), .ref (A 7), .int (nI (v 8)), .ref (A 9), .ref (A 10), .ref (A 11), .ref (A 12), .ref (A 13), .ref (A 14), .ref (A 15), .ref (A 16), .int (nI (v 17)), .int (nI (v 18)), .int (bI df)])), pt (A 13) (.inl (0, 9, .inl (fun i => nI (ct i)))), row (A 14) 64 lo] h := hL
  have hL : stars [pt d (.inr (1, [.int (nI (v 0)), .int (nI (v 1)), .int (nI (v 2)), .ref (A 3), .ref (A 4), .ref (A 5), .ref (A 6), .ref (A 7), .int (nI (v 8)), .ref (A 9), .ref (A 10), .ref (A 11), .ref (A 12), .ref (A 13), .ref (A 14), .ref (A 15), .ref (A 16), .int (nI (v 17)), .int (nI (v 18)), .int (bI df)])), pt (A 13) (.inl (0, 9, .inl (fun i => nI (ct i)))), row (A 14) 64 lo, row b2 253 (((([] ++ [12]) ++ [(6 + lo.length)]) ++ w2 0) ++ w2 (ct 8))] h := stars_ixn hL 4 rfl [1, 2, 3, 0] (by decide) rfl
  refine e_aload_n 38 dX6_tellEvents_37 rfl rfl ?_
  refine e_aload_n 39 dX6_tellEvents_38 rfl rfl ?_
  refine e_iconst 40 (v := (nI 0)) dX6_tellEvents_39 rfl (by decide) ?_
  refine p_callV 43 hL [0, 1, 2, 3] 4 rfl (by decide) (L1 := [pt d (.inr (1, [.int (nI (v 0)), .int (nI (v 1)), .int (nI (v 2)), .ref (A 3), .ref (A 4), .ref (A 5), .ref (A 6), .ref (A 7), .int (nI (v 8)), .ref (A 9), .ref (A 10), .ref (A 11), .ref (A 12), .ref (A 13), .ref (A 14), .ref (A 15), .ref (A 16), .int (nI (v 17)), .int (nI (v 18)), .int (bI df)])), pt (A 13) (.inl (0, 9, .inl (fun i => nI (ct i))))]) (L2 := [row (A 14) 64 lo, row b2 253 (((([] ++ [12]) ++ [(6 + lo.length)]) ++ w2 0) ++ w2 (ct 8))]) rfl isO_pt 0 rfl dX6_tellEvents_40 rfl cv_X6_163 (k_X1_counterOf (A := A) (v := v) (df := df) (by omega)) rfl rfl (Nat.le_of_ble_eq_true rfl) ⟨by decide, by omega, by omega⟩ (fun r1 L1 h q hL => ?_)
  obtain ⟨rfl, rfl⟩ := q
  have hL : stars [pt d (.inr (1, [.int (nI (v 0)), .int (nI (v 1)), .int (nI (v 2)), .ref (A 3), .ref (A 4), .ref (A 5), .ref (A 6), .ref (A 7), .int (nI (v 8)), .ref (A 9), .ref (A 10), .ref (A 11), .ref (A 12), .ref (A 13), .ref (A 14), .ref (A 15), .ref (A 16), .int (nI (v 17)), .int (nI (v 18)), .int (bI df)])), pt (A 13) (.inl (0, 9, .inl (fun i => nI (ct i)))), row (A 14) 64 lo, row b2 253 (((([] ++ [12]) ++ [(6 + lo.length)]) ++ w2 0) ++ w2 (ct 8))] h := hL
  have hct9 : ct 0 < 65536 := hct _ (by omega)
  refine p_callV 46 hL [3, 0, 1, 2] 4 rfl (by decide) (L1 := [row b2 253 (((([] ++ [12]) ++ [(6 + lo.length)]) ++ w2 0) ++ w2 (ct 8))]) (L2 := [pt d (.inr (1, [.int (nI (v 0)), .int (nI (v 1)), .int (nI (v 2)), .ref (A 3), .ref (A 4), .ref (A 5), .ref (A 6), .ref (A 7), .int (nI (v 8)), .ref (A 9), .ref (A 10), .ref (A 11), .ref (A 12), .ref (A 13), .ref (A 14), .ref (A 15), .ref (A 16), .int (nI (v 17)), .int (nI (v 18)), .int (bI df)])), pt (A 13) (.inl (0, 9, .inl (fun i => nI (ct i)))), row (A 14) 64 lo]) rfl row_O 3 rfl dX6_tellEvents_43 rfl cv_X6_160 (k_add2 (by omega) (by simp only [List.length_append, List.length_cons, List.length_nil, pf_len, w2_len, List.length_map, List.length_range]; omega)) rfl rfl (Nat.le_of_ble_eq_true rfl) ⟨by decide, by omega, by omega⟩ (fun r1 L1 h q hL => ?_)
  obtain ⟨rfl, rfl⟩ := q
  have hL : stars [row b2 253 ((((([] ++ [12]) ++ [(6 + lo.length)]) ++ w2 0) ++ w2 (ct 8)) ++ w2 (ct 0)), pt d (.inr (1, [.int (nI (v 0)), .int (nI (v 1)), .int (nI (v 2)), .ref (A 3), .ref (A 4), .ref (A 5), .ref (A 6), .ref (A 7), .int (nI (v 8)), .ref (A 9), .ref (A 10), .ref (A 11), .ref (A 12), .ref (A 13), .ref (A 14), .ref (A 15), .ref (A 16), .int (nI (v 17)), .int (nI (v 18)), .int (bI df)])), pt (A 13) (.inl (0, 9, .inl (fun i => nI (ct i)))), row (A 14) 64 lo] h := hL
  have hL : stars [pt d (.inr (1, [.int (nI (v 0)), .int (nI (v 1)), .int (nI (v 2)), .ref (A 3), .ref (A 4), .ref (A 5), .ref (A 6), .ref (A 7), .int (nI (v 8)), .ref (A 9), .ref (A 10), .ref (A 11), .ref (A 12), .ref (A 13), .ref (A 14), .ref (A 15), .ref (A 16), .int (nI (v 17)), .int (nI (v 18)), .int (bI df)])), pt (A 13) (.inl (0, 9, .inl (fun i => nI (ct i)))), row (A 14) 64 lo, row b2 253 ((((([] ++ [12]) ++ [(6 + lo.length)]) ++ w2 0) ++ w2 (ct 8)) ++ w2 (ct 0))] h := stars_ixn hL 4 rfl [1, 2, 3, 0] (by decide) rfl
  refine e_aload_n 47 dX6_tellEvents_46 rfl rfl ?_
  obtain ⟨z47, y47⟩ := row_at _ 2 hL rfl
  refine e_get 50 dX6_tellEvents_47 rfl fl_X6_104_4 y47 rfl ?_
  refine e_iconst 51 (v := (nI 1)) dX6_tellEvents_50 rfl (by decide) ?_
  refine e_isub 52 (v := ((nI lo.length) - (nI 1))) dX6_tellEvents_51 rfl rfl ?_
  refine e_istore_n 53 (ls' := [some (.ref d), some (.ref b2), some (.ref (A 14)), some (.int ((nI lo.length) - (nI 1)))]) dX6_tellEvents_52 rfl (by decide) rfl ?_
  refine l_X6_tellEvents hct hl9 (lo.length + 1) lo.length h (by omega) (by omega) ?_
  rw [List.drop_length, List.reverse_nil, List.append_nil]
  exact hL
set_option maxRecDepth 20000 in
set_option maxHeartbeats 2000000 in
theorem l_X6_tellQueue {c b2 : Nat} {r : List Nat} (hr : ∀ x ∈ r, x < 65536) (hl9 : r.length ≤ 31) : ∀ (n : Nat) (j : Nat) (h : eH), r.length - j < n → j ≤ r.length → stars [row c 40 r, row b2 253 (tqR r j)] h → EE mX6_tellQueue 1 40 0 0 (fun x h' => ∃ L', (x = none ∧ L' = [row c 40 r, row b2 253 (tqR r r.length)]) ∧ stars L' h') 33 [some (.ref c), some (.ref b2), some (.int (nI j))] [] h 0 0 := by
  intro n
  induction n with
  | zero => intro j h hlt hj hL; exact absurd hlt (by omega)
  | succ n ih =>
    intro j h hlt hj hL
    have hv9 : r.getD j 0 < 65536 := gd_lt hr (by decide)
    refine e_iload_n 34 dX6_tellQueue_33 rfl rfl ?_
    refine e_aload_n 35 dX6_tellQueue_34 rfl rfl ?_
    obtain ⟨z35, y35⟩ := row_at _ 0 hL rfl
    refine e_get 38 dX6_tellQueue_35 rfl fl_X6_104_4 y35 rfl ?_
    refine e_icmp_ge 56 41 dX6_tellQueue_38 rfl rfl (fun c38 => ?_) (fun c38 => ?_)
    · have k38 := j_ge_t (a := j) (b := r.length) (by omega) (by omega) c38
      exact e_vret dX6_tellQueue_56 rfl (by omega) (by omega) (⟨_, ⟨rfl, rfl⟩, by rw [show j = r.length by omega] at hL; exact hL⟩)
    · have k38 := j_ge_f (a := j) (b := r.length) (by omega) (by omega) c38
      refine e_aload_n 42 dX6_tellQueue_41 rfl rfl ?_
      refine e_aload_n 43 dX6_tellQueue_42 rfl rfl ?_
      refine e_iload_n 44 dX6_tellQueue_43 rfl rfl ?_
      refine p_callV 47 hL [0, 1] 2 rfl (by decide) (L1 := [row c 40 r]) (L2 := [row b2 253 (tqR r j)]) rfl row_O 0 rfl dX6_tellQueue_44 rfl cv_X6_36 (k_X4_at (by omega)) rfl rfl (Nat.le_of_ble_eq_true rfl) ⟨by decide, by omega, by omega⟩ (fun r1 L1 h q hL => ?_)
      obtain ⟨rfl, rfl⟩ := q
      have hL : stars [row c 40 r, row b2 253 (tqR r j)] h := hL
      refine p_callV 50 hL [1, 0] 2 rfl (by decide) (L1 := [row b2 253 (tqR r j)]) (L2 := [row c 40 r]) rfl row_O 1 rfl dX6_tellQueue_47 rfl cv_X6_160 (k_add2 (by omega) (by rw [tqR_len (by omega)]; omega)) rfl rfl (Nat.le_of_ble_eq_true rfl) ⟨by decide, by omega, by omega⟩ (fun r1 L1 h q hL => ?_)
      obtain ⟨rfl, rfl⟩ := q
      have hL : stars [row b2 253 ((tqR r j) ++ w2 (r.getD j 0)), row c 40 r] h := hL
      have hL : stars [row c 40 r, row b2 253 ((tqR r j) ++ w2 (r.getD j 0))] h := stars_ixn hL 2 rfl [1, 0] (by decide) rfl
      refine e_iinc 53 (v := (nI (j + 1))) (ls' := [some (.ref c), some (.ref b2), some (.int (nI (j + 1)))]) dX6_tellQueue_50 rfl rfl (nI_add j 1) (by decide) rfl ?_
      refine e_goto 33 dX6_tellQueue_53 rfl ?_
      rw [tqR_succ (by omega)] at hL
      exact ih (j + 1) h (by omega) (by omega) hL
set_option maxRecDepth 20000 in
set_option maxHeartbeats 2000000 in
/-- tellQueue(values, a) -/
theorem k_X6_tellQueue {c b2 : Nat} {r : List Nat} (hr : ∀ x ∈ r, x < 65536) (hl9 : r.length ≤ 31) : CA mX6_tellQueue [.ref c, .ref b2] [row c 40 r, row b2 253 ([])] (fun x L => x = none ∧ L = [row c 40 r, row b2 253 (tqR r r.length)]) 1 40 0 0 := by
  refine CA.mk 1 (ls := [some (.ref c), some (.ref b2), none]) rfl rfl (Nat.le_of_ble_eq_true rfl) rfl (fun h hL => ?_)
  refine e_aload_n 1 dX6_tellQueue_0 rfl rfl ?_
  refine e_ifnonnull 5 dX6_tellQueue_1 rfl ?_
  refine e_aload_n 6 dX6_tellQueue_5 rfl rfl ?_
  refine e_bipush 8 (v := (nI 24)) dX6_tellQueue_6 rfl (by decide) ?_
  refine p_callV 11 hL [1, 0] 2 rfl (by decide) (L1 := [row b2 253 ([])]) (L2 := [row c 40 r]) rfl row_O 1 rfl dX6_tellQueue_8 rfl cv_X6_40 (k_add1 (by simp only [List.length_append, List.length_cons, List.length_nil, pf_len, w2_len, List.length_map, List.length_range]; omega)) rfl rfl (Nat.le_of_ble_eq_true rfl) ⟨by decide, by omega, by omega⟩ (fun r1 L1 h q hL => ?_)
  obtain ⟨rfl, rfl⟩ := q
  have hL : stars [row b2 253 ([] ++ [24]), row c 40 r] h := hL
  have hL : stars [row c 40 r, row b2 253 ([] ++ [24])] h := stars_ixn hL 2 rfl [1, 0] (by decide) rfl
  refine e_aload_n 12 dX6_tellQueue_11 rfl rfl ?_
  refine e_iconst 13 (v := (nI 2)) dX6_tellQueue_12 rfl (by decide) ?_
  refine e_iconst 14 (v := (nI 2)) dX6_tellQueue_13 rfl (by decide) ?_
  refine e_aload_n 15 dX6_tellQueue_14 rfl rfl ?_
  obtain ⟨z15, y15⟩ := row_at _ 0 hL rfl
  refine e_get 18 dX6_tellQueue_15 rfl fl_X6_104_4 y15 rfl ?_
  refine e_imul 19 (v := (nI (2 * r.length))) dX6_tellQueue_18 rfl (pk_mul 2 r.length) ?_
  refine e_iadd 20 (v := (nI (2 + (2 * r.length)))) dX6_tellQueue_19 rfl (nI_add 2 (2 * r.length)) ?_
  refine p_callV 23 hL [1, 0] 2 rfl (by decide) (L1 := [row b2 253 ([] ++ [24])]) (L2 := [row c 40 r]) rfl row_O 1 rfl dX6_tellQueue_20 rfl cv_X6_160 (k_add2 (by omega) (by simp only [List.length_append, List.length_cons, List.length_nil, pf_len, w2_len, List.length_map, List.length_range]; omega)) rfl rfl (Nat.le_of_ble_eq_true rfl) ⟨by decide, by omega, by omega⟩ (fun r1 L1 h q hL => ?_)
  obtain ⟨rfl, rfl⟩ := q
  have hL : stars [row b2 253 (([] ++ [24]) ++ w2 (2 + (2 * r.length))), row c 40 r] h := hL
  have hL : stars [row c 40 r, row b2 253 (([] ++ [24]) ++ w2 (2 + (2 * r.length)))] h := stars_ixn hL 2 rfl [1, 0] (by decide) rfl
  refine e_aload_n 24 dX6_tellQueue_23 rfl rfl ?_
  refine e_aload_n 25 dX6_tellQueue_24 rfl rfl ?_
  obtain ⟨z25, y25⟩ := row_at _ 0 hL rfl
  refine e_get 28 dX6_tellQueue_25 rfl fl_X6_104_4 y25 rfl ?_
  refine p_callV 31 hL [1, 0] 2 rfl (by decide) (L1 := [row b2 253 (([] ++ [24]) ++ w2 (2 + (2 * r.length)))]) (L2 := [row c 40 r]) rfl row_O 1 rfl dX6_tellQueue_28 rfl cv_X6_160 (k_add2 (by omega) (by simp only [List.length_append, List.length_cons, List.length_nil, pf_len, w2_len, List.length_map, List.length_range]; omega)) rfl rfl (Nat.le_of_ble_eq_true rfl) ⟨by decide, by omega, by omega⟩ (fun r1 L1 h q hL => ?_)
  obtain ⟨rfl, rfl⟩ := q
  have hL : stars [row b2 253 ((([] ++ [24]) ++ w2 (2 + (2 * r.length))) ++ w2 r.length), row c 40 r] h := hL
  have hL : stars [row c 40 r, row b2 253 ((([] ++ [24]) ++ w2 (2 + (2 * r.length))) ++ w2 r.length)] h := stars_ixn hL 2 rfl [1, 0] (by decide) rfl
  refine e_iconst 32 (v := (nI 0)) dX6_tellQueue_31 rfl (by decide) ?_
  refine e_istore_n 33 (ls' := [some (.ref c), some (.ref b2), some (.int (nI 0))]) dX6_tellQueue_32 rfl (by decide) rfl ?_
  exact l_X6_tellQueue hr hl9 (r.length + 1) 0 h (by omega) (by omega) (by rw [tqR, List.take_zero, List.flatMap_nil, List.append_nil]; exact hL)
