theorem wrI_lt {mk fr : Nat} {vs : List Nat} {x v : Int32} (hm : mk < 65536) (h : ∀ y ∈ vs, y < 65536) : ∀ y ∈ wrI mk fr vs x v, y < 65536 := by
  intro y hy
  unfold wrI at hy
  split at hy
  · rcases List.mem_or_eq_of_mem_set hy with z | z
    · exact h y z
    · rw [z]
      have := Nat.mod_lt v.toBitVec.toNat (show 0 < mk + 1 by omega)
      unfold mv
      omega
  · exact h y hy
theorem wrK_lt {bf : Nat → Nat} {bv : Nat → List Nat} {k a : Nat} {x : Int32} (h : ∀ k, ∀ y ∈ bv k, y < 65536) : ∀ j, ∀ y ∈ wrK bf bv k a x j, y < 65536 := by
  intro j y hy
  by_cases e : j = k
  · have hy' : y ∈ wrI (mkK k) (bf k) (bv k) (nI a) x := by simpa only [wrK, if_pos e] using hy
    exact wrI_lt (by show (if k < 2 then 1 else 65535) < 65536; split <;> decide) (h k) y hy'
  · have hy' : y ∈ bv j := by simpa only [wrK, if_neg e] using hy
    exact h j y hy'
theorem aoV_lt {bf : Nat → Nat} {bv : Nat → List Nat} {kd a b c : Nat} (h : ∀ k, ∀ y ∈ bv k, y < 65536) : ∀ j, ∀ y ∈ aoV bf bv kd a b c j, y < 65536 := by
  unfold aoV
  split
  · unfold ao0; split; exact wrK_lt h; exact h
  · unfold ao1; split; exact wrK_lt h; exact h
  · unfold ao2; split; exact wrK_lt h; exact h
  · unfold ao3; split; exact wrK_lt h; exact h
  · unfold ao4; split; exact wrK_lt h; exact h
  · unfold ao5; split; exact wrK_lt (wrK_lt h); exact h
  · exact h
/-- n rules, one behind the other -/
def arV (bf : Nat → Nat) (ru : List Nat) (bv : Nat → List Nat) : Nat → Nat → List Nat
  | 0 => bv
  | n + 1 => aoV bf (arV bf ru bv n) (ru.getD (4 * n) 0) (ru.getD (4 * n + 1) 0) (ru.getD (4 * n + 2) 0) (ru.getD (4 * n + 3) 0)
def arC (K : List (Nat × Nat)) (bf : Nat → Nat) (ru : List Nat) (bv C : Nat → List Nat) : Nat → Nat → List Nat
  | 0 => C
  | n + 1 => aoC K (arC K bf ru bv C n) bf (arV bf ru bv n) (ru.getD (4 * n) 0) (ru.getD (4 * n + 1) 0) (ru.getD (4 * n + 2) 0) (ru.getD (4 * n + 3) 0)
theorem arV_lt {bf : Nat → Nat} {ru : List Nat} {bv : Nat → List Nat} (h : ∀ k, ∀ y ∈ bv k, y < 65536) : ∀ n k, ∀ y ∈ arV bf ru bv n k, y < 65536
  | 0 => h
  | n + 1 => aoV_lt (arV_lt h n)
def okR (ru : List Nat) : Prop := ru.length % 4 = 0 ∧ ∀ n, 4 * n + 3 < ru.length → ru.getD (4 * n) 0 < 7 ∧ ru.getD (4 * n + 1) 0 < 65536 ∧ ru.getD (4 * n + 2) 0 < 65536 ∧ ru.getD (4 * n + 3) 0 < 65536
set_option maxRecDepth 20000 in
set_option maxHeartbeats 2000000 in
theorem l_X1_applyRules {d : Nat} {A v : Nat → Nat} {df : Bool} {bf : Nat → Nat} {bv : Nat → List Nat} {K : List (Nat × Nat)} {C : Nat → List Nat} {ru : List Nat} (hbv : ∀ k, ∀ x ∈ bv k, x < 65536) (hru : okR ru) : ∀ (n : Nat) (i : Nat) (h : eH), ru.length - 4 * i < n → 4 * i ≤ ru.length → stars [pt d (.inr (1, [.int (nI (v 0)), .int (nI (v 1)), .int (nI (v 2)), .ref (A 3), .ref (A 4), .ref (A 5), .ref (A 6), .ref (A 7), .int (nI (v 8)), .ref (A 9), .ref (A 10), .ref (A 11), .ref (A 12), .ref (A 13), .ref (A 14), .ref (A 15), .ref (A 16), .int (nI (v 17)), .int (nI (v 18)), .int (bI df)])), row (A 12) 48 ru, bank (A 3) 1 (bf 0) ((arV bf ru bv i) 0), bank (A 4) 1 (bf 1) ((arV bf ru bv i) 1), bank (A 5) 65535 (bf 2) ((arV bf ru bv i) 2), bank (A 6) 65535 (bf 3) ((arV bf ru bv i) 3), shB (A 10) 4 40 K, rws 40 K (arC K bf ru bv C i)] h → EE mX1_applyRules 3 69 0 0 (fun r h' => ∃ L', (r = none ∧ L' = [dvO d A v df, row (A 12) 48 ru, bank (A 3) 1 (bf 0) ((arV bf ru bv (ru.length / 4)) 0), bank (A 4) 1 (bf 1) ((arV bf ru bv (ru.length / 4)) 1), bank (A 5) 65535 (bf 2) ((arV bf ru bv (ru.length / 4)) 2), bank (A 6) 65535 (bf 3) ((arV bf ru bv (ru.length / 4)) 3), shB (A 10) 4 40 K, rws 40 K (arC K bf ru bv C (ru.length / 4))]) ∧ stars L' h') 2 [some (.ref d), some (.int (nI (4 * i)))] [] h 0 0 := by
  intro n
  induction n with
  | zero => intro i h hlt hi hL; exact absurd hlt (by omega)
  | succ n ih =>
    intro i h hlt hi hL
    have hlen := row_len _ 1 hL rfl
    have h4 := hru.1
    refine e_iload_n 3 dX1_applyRules_2 rfl rfl ?_
    refine e_aload_n 4 dX1_applyRules_3 rfl rfl ?_
    refine e_get 7 dX1_applyRules_4 rfl fl_X1_62_1 (stars_at _ 0 hL rfl) rfl ?_
    obtain ⟨z7, y7⟩ := row_at _ 1 hL rfl
    refine e_get 10 dX1_applyRules_7 rfl fl_X1_119_4 y7 rfl ?_
    refine e_icmp_ge 61 13 dX1_applyRules_10 rfl rfl (fun c10 => ?_) (fun c10 => ?_)
    · have k10 := j_ge_t (a := (4 * i)) (b := ru.length) (by omega) (by omega) c10
      exact e_vret dX1_applyRules_61 rfl (by omega) (by omega) (⟨_, ⟨rfl, rfl⟩, by rw [show ru.length / 4 = i by omega]; exact hL⟩)
    · have k10 := j_ge_f (a := (4 * i)) (b := ru.length) (by omega) (by omega) c10
      have ho := hru.2 i (by omega)
      refine e_aload_n 14 dX1_applyRules_13 rfl rfl ?_
      refine e_aload_n 15 dX1_applyRules_14 rfl rfl ?_
      refine e_get 18 dX1_applyRules_15 rfl fl_X1_62_1 (stars_at _ 0 hL rfl) rfl ?_
      refine e_iload_n 19 dX1_applyRules_18 rfl rfl ?_
      refine p_callV 22 hL [1, 0, 2, 3, 4, 5, 6, 7] 8 rfl (by decide) (L1 := [row (A 12) 48 ru]) (L2 := [pt d (.inr (1, [.int (nI (v 0)), .int (nI (v 1)), .int (nI (v 2)), .ref (A 3), .ref (A 4), .ref (A 5), .ref (A 6), .ref (A 7), .int (nI (v 8)), .ref (A 9), .ref (A 10), .ref (A 11), .ref (A 12), .ref (A 13), .ref (A 14), .ref (A 15), .ref (A 16), .int (nI (v 17)), .int (nI (v 18)), .int (bI df)])), bank (A 3) 1 (bf 0) ((arV bf ru bv i) 0), bank (A 4) 1 (bf 1) ((arV bf ru bv i) 1), bank (A 5) 65535 (bf 2) ((arV bf ru bv i) 2), bank (A 6) 65535 (bf 3) ((arV bf ru bv i) 3), shB (A 10) 4 40 K, rws 40 K (arC K bf ru bv C i)]) rfl row_O 1 rfl dX1_applyRules_19 rfl cv_X1_116 (k_X4_at (by omega)) rfl rfl (Nat.le_of_ble_eq_true rfl) ⟨by decide, by omega, by omega⟩ (fun r1 L1 h q hL => ?_)
      obtain ⟨rfl, rfl⟩ := q
      have hL : stars [row (A 12) 48 ru, pt d (.inr (1, [.int (nI (v 0)), .int (nI (v 1)), .int (nI (v 2)), .ref (A 3), .ref (A 4), .ref (A 5), .ref (A 6), .ref (A 7), .int (nI (v 8)), .ref (A 9), .ref (A 10), .ref (A 11), .ref (A 12), .ref (A 13), .ref (A 14), .ref (A 15), .ref (A 16), .int (nI (v 17)), .int (nI (v 18)), .int (bI df)])), bank (A 3) 1 (bf 0) ((arV bf ru bv i) 0), bank (A 4) 1 (bf 1) ((arV bf ru bv i) 1), bank (A 5) 65535 (bf 2) ((arV bf ru bv i) 2), bank (A 6) 65535 (bf 3) ((arV bf ru bv i) 3), shB (A 10) 4 40 K, rws 40 K (arC K bf ru bv C i)] h := hL
      have hL : stars [pt d (.inr (1, [.int (nI (v 0)), .int (nI (v 1)), .int (nI (v 2)), .ref (A 3), .ref (A 4), .ref (A 5), .ref (A 6), .ref (A 7), .int (nI (v 8)), .ref (A 9), .ref (A 10), .ref (A 11), .ref (A 12), .ref (A 13), .ref (A 14), .ref (A 15), .ref (A 16), .int (nI (v 17)), .int (nI (v 18)), .int (bI df)])), row (A 12) 48 ru, bank (A 3) 1 (bf 0) ((arV bf ru bv i) 0), bank (A 4) 1 (bf 1) ((arV bf ru bv i) 1), bank (A 5) 65535 (bf 2) ((arV bf ru bv i) 2), bank (A 6) 65535 (bf 3) ((arV bf ru bv i) 3), shB (A 10) 4 40 K, rws 40 K (arC K bf ru bv C i)] h := stars_ixn hL 8 rfl [1, 0, 2, 3, 4, 5, 6, 7] (by decide) rfl
      refine e_aload_n 23 dX1_applyRules_22 rfl rfl ?_
      refine e_get 26 dX1_applyRules_23 rfl fl_X1_62_1 (stars_at _ 0 hL rfl) rfl ?_
      refine e_iload_n 27 dX1_applyRules_26 rfl rfl ?_
      refine e_iconst 28 (v := (nI 1)) dX1_applyRules_27 rfl (by decide) ?_
      refine e_iadd 29 (v := (nI ((4 * i) + 1))) dX1_applyRules_28 rfl (nI_add (4 * i) 1) ?_
      refine p_callV 32 hL [1, 0, 2, 3, 4, 5, 6, 7] 8 rfl (by decide) (L1 := [row (A 12) 48 ru]) (L2 := [pt d (.inr (1, [.int (nI (v 0)), .int (nI (v 1)), .int (nI (v 2)), .ref (A 3), .ref (A 4), .ref (A 5), .ref (A 6), .ref (A 7), .int (nI (v 8)), .ref (A 9), .ref (A 10), .ref (A 11), .ref (A 12), .ref (A 13), .ref (A 14), .ref (A 15), .ref (A 16), .int (nI (v 17)), .int (nI (v 18)), .int (bI df)])), bank (A 3) 1 (bf 0) ((arV bf ru bv i) 0), bank (A 4) 1 (bf 1) ((arV bf ru bv i) 1), bank (A 5) 65535 (bf 2) ((arV bf ru bv i) 2), bank (A 6) 65535 (bf 3) ((arV bf ru bv i) 3), shB (A 10) 4 40 K, rws 40 K (arC K bf ru bv C i)]) rfl row_O 1 rfl dX1_applyRules_29 rfl cv_X1_116 (k_X4_at (by omega)) rfl rfl (Nat.le_of_ble_eq_true rfl) ⟨by decide, by omega, by omega⟩ (fun r1 L1 h q hL => ?_)
      obtain ⟨rfl, rfl⟩ := q
      have hL : stars [row (A 12) 48 ru, pt d (.inr (1, [.int (nI (v 0)), .int (nI (v 1)), .int (nI (v 2)), .ref (A 3), .ref (A 4), .ref (A 5), .ref (A 6), .ref (A 7), .int (nI (v 8)), .ref (A 9), .ref (A 10), .ref (A 11), .ref (A 12), .ref (A 13), .ref (A 14), .ref (A 15), .ref (A 16), .int (nI (v 17)), .int (nI (v 18)), .int (bI df)])), bank (A 3) 1 (bf 0) ((arV bf ru bv i) 0), bank (A 4) 1 (bf 1) ((arV bf ru bv i) 1), bank (A 5) 65535 (bf 2) ((arV bf ru bv i) 2), bank (A 6) 65535 (bf 3) ((arV bf ru bv i) 3), shB (A 10) 4 40 K, rws 40 K (arC K bf ru bv C i)] h := hL
      have hL : stars [pt d (.inr (1, [.int (nI (v 0)), .int (nI (v 1)), .int (nI (v 2)), .ref (A 3), .ref (A 4), .ref (A 5), .ref (A 6), .ref (A 7), .int (nI (v 8)), .ref (A 9), .ref (A 10), .ref (A 11), .ref (A 12), .ref (A 13), .ref (A 14), .ref (A 15), .ref (A 16), .int (nI (v 17)), .int (nI (v 18)), .int (bI df)])), row (A 12) 48 ru, bank (A 3) 1 (bf 0) ((arV bf ru bv i) 0), bank (A 4) 1 (bf 1) ((arV bf ru bv i) 1), bank (A 5) 65535 (bf 2) ((arV bf ru bv i) 2), bank (A 6) 65535 (bf 3) ((arV bf ru bv i) 3), shB (A 10) 4 40 K, rws 40 K (arC K bf ru bv C i)] h := stars_ixn hL 8 rfl [1, 0, 2, 3, 4, 5, 6, 7] (by decide) rfl
      refine e_aload_n 33 dX1_applyRules_32 rfl rfl ?_
      refine e_get 36 dX1_applyRules_33 rfl fl_X1_62_1 (stars_at _ 0 hL rfl) rfl ?_
      refine e_iload_n 37 dX1_applyRules_36 rfl rfl ?_
      refine e_iconst 38 (v := (nI 2)) dX1_applyRules_37 rfl (by decide) ?_
      refine e_iadd 39 (v := (nI ((4 * i) + 2))) dX1_applyRules_38 rfl (nI_add (4 * i) 2) ?_
      refine p_callV 42 hL [1, 0, 2, 3, 4, 5, 6, 7] 8 rfl (by decide) (L1 := [row (A 12) 48 ru]) (L2 := [pt d (.inr (1, [.int (nI (v 0)), .int (nI (v 1)), .int (nI (v 2)), .ref (A 3), .ref (A 4), .ref (A 5), .ref (A 6), .ref (A 7), .int (nI (v 8)), .ref (A 9), .ref (A 10), .ref (A 11), .ref (A 12), .ref (A 13), .ref (A 14), .ref (A 15), .ref (A 16), .int (nI (v 17)), .int (nI (v 18)), .int (bI df)])), bank (A 3) 1 (bf 0) ((arV bf ru bv i) 0), bank (A 4) 1 (bf 1) ((arV bf ru bv i) 1), bank (A 5) 65535 (bf 2) ((arV bf ru bv i) 2), bank (A 6) 65535 (bf 3) ((arV bf ru bv i) 3), shB (A 10) 4 40 K, rws 40 K (arC K bf ru bv C i)]) rfl row_O 1 rfl dX1_applyRules_39 rfl cv_X1_116 (k_X4_at (by omega)) rfl rfl (Nat.le_of_ble_eq_true rfl) ⟨by decide, by omega, by omega⟩ (fun r1 L1 h q hL => ?_)
      obtain ⟨rfl, rfl⟩ := q
      have hL : stars [row (A 12) 48 ru, pt d (.inr (1, [.int (nI (v 0)), .int (nI (v 1)), .int (nI (v 2)), .ref (A 3), .ref (A 4), .ref (A 5), .ref (A 6), .ref (A 7), .int (nI (v 8)), .ref (A 9), .ref (A 10), .ref (A 11), .ref (A 12), .ref (A 13), .ref (A 14), .ref (A 15), .ref (A 16), .int (nI (v 17)), .int (nI (v 18)), .int (bI df)])), bank (A 3) 1 (bf 0) ((arV bf ru bv i) 0), bank (A 4) 1 (bf 1) ((arV bf ru bv i) 1), bank (A 5) 65535 (bf 2) ((arV bf ru bv i) 2), bank (A 6) 65535 (bf 3) ((arV bf ru bv i) 3), shB (A 10) 4 40 K, rws 40 K (arC K bf ru bv C i)] h := hL
      have hL : stars [pt d (.inr (1, [.int (nI (v 0)), .int (nI (v 1)), .int (nI (v 2)), .ref (A 3), .ref (A 4), .ref (A 5), .ref (A 6), .ref (A 7), .int (nI (v 8)), .ref (A 9), .ref (A 10), .ref (A 11), .ref (A 12), .ref (A 13), .ref (A 14), .ref (A 15), .ref (A 16), .int (nI (v 17)), .int (nI (v 18)), .int (bI df)])), row (A 12) 48 ru, bank (A 3) 1 (bf 0) ((arV bf ru bv i) 0), bank (A 4) 1 (bf 1) ((arV bf ru bv i) 1), bank (A 5) 65535 (bf 2) ((arV bf ru bv i) 2), bank (A 6) 65535 (bf 3) ((arV bf ru bv i) 3), shB (A 10) 4 40 K, rws 40 K (arC K bf ru bv C i)] h := stars_ixn hL 8 rfl [1, 0, 2, 3, 4, 5, 6, 7] (by decide) rfl
      refine e_aload_n 43 dX1_applyRules_42 rfl rfl ?_
      refine e_get 46 dX1_applyRules_43 rfl fl_X1_62_1 (stars_at _ 0 hL rfl) rfl ?_
      refine e_iload_n 47 dX1_applyRules_46 rfl rfl ?_
      refine e_iconst 48 (v := (nI 3)) dX1_applyRules_47 rfl (by decide) ?_
      refine e_iadd 49 (v := (nI ((4 * i) + 3))) dX1_applyRules_48 rfl (nI_add (4 * i) 3) ?_
      refine p_callV 52 hL [1, 0, 2, 3, 4, 5, 6, 7] 8 rfl (by decide) (L1 := [row (A 12) 48 ru]) (L2 := [pt d (.inr (1, [.int (nI (v 0)), .int (nI (v 1)), .int (nI (v 2)), .ref (A 3), .ref (A 4), .ref (A 5), .ref (A 6), .ref (A 7), .int (nI (v 8)), .ref (A 9), .ref (A 10), .ref (A 11), .ref (A 12), .ref (A 13), .ref (A 14), .ref (A 15), .ref (A 16), .int (nI (v 17)), .int (nI (v 18)), .int (bI df)])), bank (A 3) 1 (bf 0) ((arV bf ru bv i) 0), bank (A 4) 1 (bf 1) ((arV bf ru bv i) 1), bank (A 5) 65535 (bf 2) ((arV bf ru bv i) 2), bank (A 6) 65535 (bf 3) ((arV bf ru bv i) 3), shB (A 10) 4 40 K, rws 40 K (arC K bf ru bv C i)]) rfl row_O 1 rfl dX1_applyRules_49 rfl cv_X1_116 (k_X4_at (by omega)) rfl rfl (Nat.le_of_ble_eq_true rfl) ⟨by decide, by omega, by omega⟩ (fun r1 L1 h q hL => ?_)
      obtain ⟨rfl, rfl⟩ := q
      have hL : stars [row (A 12) 48 ru, pt d (.inr (1, [.int (nI (v 0)), .int (nI (v 1)), .int (nI (v 2)), .ref (A 3), .ref (A 4), .ref (A 5), .ref (A 6), .ref (A 7), .int (nI (v 8)), .ref (A 9), .ref (A 10), .ref (A 11), .ref (A 12), .ref (A 13), .ref (A 14), .ref (A 15), .ref (A 16), .int (nI (v 17)), .int (nI (v 18)), .int (bI df)])), bank (A 3) 1 (bf 0) ((arV bf ru bv i) 0), bank (A 4) 1 (bf 1) ((arV bf ru bv i) 1), bank (A 5) 65535 (bf 2) ((arV bf ru bv i) 2), bank (A 6) 65535 (bf 3) ((arV bf ru bv i) 3), shB (A 10) 4 40 K, rws 40 K (arC K bf ru bv C i)] h := hL
      have hL : stars [pt d (.inr (1, [.int (nI (v 0)), .int (nI (v 1)), .int (nI (v 2)), .ref (A 3), .ref (A 4), .ref (A 5), .ref (A 6), .ref (A 7), .int (nI (v 8)), .ref (A 9), .ref (A 10), .ref (A 11), .ref (A 12), .ref (A 13), .ref (A 14), .ref (A 15), .ref (A 16), .int (nI (v 17)), .int (nI (v 18)), .int (bI df)])), row (A 12) 48 ru, bank (A 3) 1 (bf 0) ((arV bf ru bv i) 0), bank (A 4) 1 (bf 1) ((arV bf ru bv i) 1), bank (A 5) 65535 (bf 2) ((arV bf ru bv i) 2), bank (A 6) 65535 (bf 3) ((arV bf ru bv i) 3), shB (A 10) 4 40 K, rws 40 K (arC K bf ru bv C i)] h := stars_ixn hL 8 rfl [1, 0, 2, 3, 4, 5, 6, 7] (by decide) rfl
      refine p_callV 55 hL [0, 2, 3, 4, 5, 6, 7, 1] 8 rfl (by decide) (L1 := [pt d (.inr (1, [.int (nI (v 0)), .int (nI (v 1)), .int (nI (v 2)), .ref (A 3), .ref (A 4), .ref (A 5), .ref (A 6), .ref (A 7), .int (nI (v 8)), .ref (A 9), .ref (A 10), .ref (A 11), .ref (A 12), .ref (A 13), .ref (A 14), .ref (A 15), .ref (A 16), .int (nI (v 17)), .int (nI (v 18)), .int (bI df)])), bank (A 3) 1 (bf 0) ((arV bf ru bv i) 0), bank (A 4) 1 (bf 1) ((arV bf ru bv i) 1), bank (A 5) 65535 (bf 2) ((arV bf ru bv i) 2), bank (A 6) 65535 (bf 3) ((arV bf ru bv i) 3), shB (A 10) 4 40 K, rws 40 K (arC K bf ru bv C i)]) (L2 := [row (A 12) 48 ru]) rfl isO_pt 0 rfl dX1_applyRules_52 rfl cv_X1_129 (k_X1_applyOne (A := A) (v := v) (df := df) (bf := bf) (bv := (arV bf ru bv i)) (K := K) (C := (arC K bf ru bv C i)) (arV_lt hbv i) ho.1 ho.2.1 ho.2.2.1 ho.2.2.2) rfl rfl (Nat.le_of_ble_eq_true rfl) ⟨by decide, by omega, by omega⟩ (fun r1 L1 h q hL => ?_)
      obtain ⟨rfl, rfl⟩ := q
      have hL : stars [pt d (.inr (1, [.int (nI (v 0)), .int (nI (v 1)), .int (nI (v 2)), .ref (A 3), .ref (A 4), .ref (A 5), .ref (A 6), .ref (A 7), .int (nI (v 8)), .ref (A 9), .ref (A 10), .ref (A 11), .ref (A 12), .ref (A 13), .ref (A 14), .ref (A 15), .ref (A 16), .int (nI (v 17)), .int (nI (v 18)), .int (bI df)])), bank (A 3) 1 (bf 0) ((arV bf ru bv (i + 1)) 0), bank (A 4) 1 (bf 1) ((arV bf ru bv (i + 1)) 1), bank (A 5) 65535 (bf 2) ((arV bf ru bv (i + 1)) 2), bank (A 6) 65535 (bf 3) ((arV bf ru bv (i + 1)) 3), shB (A 10) 4 40 K, rws 40 K (arC K bf ru bv C (i + 1)), row (A 12) 48 ru] h := hL
      have hL : stars [pt d (.inr (1, [.int (nI (v 0)), .int (nI (v 1)), .int (nI (v 2)), .ref (A 3), .ref (A 4), .ref (A 5), .ref (A 6), .ref (A 7), .int (nI (v 8)), .ref (A 9), .ref (A 10), .ref (A 11), .ref (A 12), .ref (A 13), .ref (A 14), .ref (A 15), .ref (A 16), .int (nI (v 17)), .int (nI (v 18)), .int (bI df)])), row (A 12) 48 ru, bank (A 3) 1 (bf 0) ((arV bf ru bv (i + 1)) 0), bank (A 4) 1 (bf 1) ((arV bf ru bv (i + 1)) 1), bank (A 5) 65535 (bf 2) ((arV bf ru bv (i + 1)) 2), bank (A 6) 65535 (bf 3) ((arV bf ru bv (i + 1)) 3), shB (A 10) 4 40 K, rws 40 K (arC K bf ru bv C (i + 1))] h := stars_ixn hL 8 rfl [0, 7, 1, 2, 3, 4, 5, 6] (by decide) rfl
      refine e_iinc 58 (v := (nI ((4 * i) + 4))) (ls' := [some (.ref d), some (.int (nI ((4 * i) + 4)))]) dX1_applyRules_55 rfl rfl (nI_add (4 * i) 4) (by decide) rfl ?_
      refine e_goto 2 dX1_applyRules_58 rfl ?_
      refine e_wk [some (.ref d), some (.int (nI (4 * (i + 1))))] ⟨rfl, by rw [show 4 * (i + 1) = 4 * i + 4 by omega], trivial⟩ ?_
      exact ih (i + 1) h (by omega) (by omega) hL
set_option maxRecDepth 20000 in
set_option maxHeartbeats 2000000 in
/-- applyRules() -/
theorem k_X1_applyRules {d : Nat} {A v : Nat → Nat} {df : Bool} {bf : Nat → Nat} {bv : Nat → List Nat} {K : List (Nat × Nat)} {C : Nat → List Nat} {ru : List Nat} (hbv : ∀ k, ∀ x ∈ bv k, x < 65536) (hru : okR ru) : CA mX1_applyRules [.ref d] [dvO d A v df, row (A 12) 48 ru, bank (A 3) 1 (bf 0) (bv 0), bank (A 4) 1 (bf 1) (bv 1), bank (A 5) 65535 (bf 2) (bv 2), bank (A 6) 65535 (bf 3) (bv 3), shB (A 10) 4 40 K, rws 40 K C] (fun r L => r = none ∧ L = [dvO d A v df, row (A 12) 48 ru, bank (A 3) 1 (bf 0) ((arV bf ru bv (ru.length / 4)) 0), bank (A 4) 1 (bf 1) ((arV bf ru bv (ru.length / 4)) 1), bank (A 5) 65535 (bf 2) ((arV bf ru bv (ru.length / 4)) 2), bank (A 6) 65535 (bf 3) ((arV bf ru bv (ru.length / 4)) 3), shB (A 10) 4 40 K, rws 40 K (arC K bf ru bv C (ru.length / 4))]) 3 69 0 0 := by
  refine CA.mk 1 (ls := [some (.ref d), none]) rfl rfl (Nat.le_of_ble_eq_true rfl) rfl (fun h hL => ?_)
  refine e_iconst 1 (v := (nI 0)) dX1_applyRules_0 rfl (by decide) ?_
  refine e_istore_n 2 (ls' := [some (.ref d), some (.int (nI 0))]) dX1_applyRules_1 rfl (by decide) rfl ?_
  exact l_X1_applyRules hbv hru (ru.length + 1) 0 h (by omega) (by omega) hL
