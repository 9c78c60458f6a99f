/-! Service: what is wrong with a request at a device -/
theorem nx_and (a b : Nat) : nI a &&& nI b = nI (a &&& b) := by
  apply Int32.toBitVec_inj.mp
  rw [Int32.toBitVec_and]
  apply BitVec.eq_of_toNat_eq
  simp only [nI, Int32.toBitVec_ofNat', BitVec.toNat_and, BitVec.toNat_ofNat, Nat.and_mod_two_pow]
/-- what a mask makes of a value -/
def mkN (v a o : Nat) : Nat := (v &&& a) ||| (o &&& (65535 - a))
theorem not_16 {a o : Nat} (ha : a < 65536) (ho : o < 65536) : nI o &&& (nI a ^^^ (-1)) = nI (o &&& (65535 - a)) := by
  apply Int32.toBitVec_inj.mp
  rw [Int32.toBitVec_and, Int32.toBitVec_xor]
  apply BitVec.eq_of_toNat_eq
  have e1 : (-1 : Int32).toBitVec.toNat = 2 ^ 32 - 1 := by decide
  simp only [nI, Int32.toBitVec_ofNat', BitVec.toNat_and, BitVec.toNat_xor, BitVec.toNat_ofNat, e1]
  rw [Nat.mod_eq_of_lt (show a < 2 ^ 32 by omega), Nat.mod_eq_of_lt (show o < 2 ^ 32 by omega)]
  have h9 : o &&& (65535 - a) < 2 ^ 16 := Nat.and_lt_two_pow _ (by omega)
  rw [Nat.mod_eq_of_lt (show o &&& (65535 - a) < 2 ^ 32 by omega)]
  apply Nat.eq_of_testBit_eq
  intro i
  rw [Nat.testBit_and, Nat.testBit_and, Nat.testBit_xor, Nat.testBit_two_pow_sub_one, show 65535 - a = 2 ^ 16 - (a + 1) by omega, Nat.testBit_two_pow_sub_succ (show a < 2 ^ 16 by omega)]
  by_cases hi : i < 16
  · rw [decide_eq_true (show i < 32 by omega), decide_eq_true hi]
    cases Nat.testBit a i <;> rfl
  · rw [Nat.testBit_lt_two_pow (x := o) (i := i) (Nat.lt_of_lt_of_le ho (show 2 ^ 16 ≤ 2 ^ i from Nat.pow_le_pow_right (by decide) (by omega)))]
    rfl
theorem mkN_lt {v a o : Nat} (hv : v < 65536) (ho : o < 65536) : mkN v a o < 65536 := by
  have h1 : v &&& a < 2 ^ 16 := Nat.lt_of_le_of_lt Nat.and_le_left hv
  have h2 : o &&& (65535 - a) < 2 ^ 16 := Nat.lt_of_le_of_lt Nat.and_le_left ho
  exact Nat.or_lt_two_pow h1 h2
def faF (f : Nat) : Bool := decide (f = 5 ∨ f = 6 ∨ f = 15 ∨ f = 16 ∨ f = 21 ∨ f = 22)
def itF (f : Nat) : Bool := decide (f = 7 ∨ f = 11 ∨ f = 12 ∨ f = 17 ∨ f = 20 ∨ f = 24 ∨ f = 43)
def sdF (q : List Nat) : Nat := if wd q 1 = 0 ∨ wd q 3 = 0 ∨ (wd q 1 = 1 ∧ wd q 3 = 65280) then 0 else 3
def mfF (lm : Nat → Nat) (nl fr : Nat) (vs q : List Nat) : Nat := if plI fr vs.length (nI (wd q 1)) 1 then (if mbg lm nl (wd q 1) (mkN (vs.getD (wd q 1 - fr) 0) (wd q 3) (wd q 5)) then 0 else 3) else 2
def qfF (M : List (Nat × List Nat)) (x : Int32) : Nat := match ixM M x with
  | none => 2
  | some i => if 31 < (rwM M i).length then 3 else 0
/-- whether the part of q that begins at i is of a file that is there -/
def fpF (M : List (Nat × List Nat)) (q : List Nat) (i : Nat) : Bool := decide (q.getD i 0 = 6) && (match ixM M (nI (wd q (i + 1))) with
  | none => false
  | some k => decide (wd q (i + 3) + wd q (i + 5) ≤ (rwM M k).length))
def ffF (M : List (Nat × List Nat)) (q : List Nat) (vb : Nat) : Nat → Nat → Nat
  | 0, _ => 0
  | t + 1, i => if i < q.length then (if fpF M q i then ffF M q vb t (i + (7 + vb * wd q (i + 5))) else 2) else 0
theorem fpF_n {M : List (Nat × List Nat)} {q : List Nat} {i : Nat} (h : ixM M (nI (wd q (i + 1))) = none) : fpF M q i = false := by rw [fpF, h, Bool.and_false]
theorem fpF_s {M : List (Nat × List Nat)} {q : List Nat} {i k : Nat} (h : ixM M (nI (wd q (i + 1))) = some k) : fpF M q i = decide (q.getD i 0 = 6 ∧ wd q (i + 3) + wd q (i + 5) ≤ (rwM M k).length) := by rw [fpF, h, Bool.decide_and]
set_option maxRecDepth 20000 in
set_option maxHeartbeats 2000000 in
/-- isForAll(function) -/
theorem k_X6_isForAll {f : Nat} (hf : f < 256) : CA mX6_isForAll [.int (nI f)] [] (fun r L => r = some (.int (bI (faF f))) ∧ L = []) 0 0 0 0 := by
  refine CA.mk 0 (ls := [some (.int (nI f))]) rfl rfl (Nat.le_of_ble_eq_true rfl) rfl (fun h hL => ?_)
  refine e_iload_n 1 dX6_isForAll_0 rfl rfl ?_
  refine e_iconst 2 (v := (nI 5)) dX6_isForAll_1 rfl (by decide) ?_
  refine e_icmp_eq 35 5 dX6_isForAll_2 rfl rfl (fun c2 => ?_) (fun c2 => ?_)
  · have k2 := j_eq_t (a := f) (b := 5) (by omega) (by omega) c2
    refine e_iconst 36 (v := (nI 1)) dX6_isForAll_35 rfl (by decide) ?_
    refine e_goto 40 dX6_isForAll_36 rfl ?_
    exact e_zret dX6_isForAll_40 rfl (Or.inr (by decide)) (by omega) (by omega) (⟨_, ⟨by rw [show faF f = true by unfold faF; (try simp only [Bool.and_eq_true, Bool.or_eq_true, Bool.not_eq_true', Bool.and_eq_false_iff, Bool.or_eq_false_iff, Bool.not_eq_false', decide_eq_true_eq, decide_eq_false_iff_not, Bool.false_or, Bool.true_or, Bool.or_false, Bool.or_true, Bool.not_false, Bool.not_true, Bool.true_and, Bool.false_and, Bool.and_true, Bool.and_false, reduceCtorEq]) <;> (try omega)]; rfl, rfl⟩, hL⟩)
  · have k2 := j_eq_f (a := f) (b := 5) (by omega) (by omega) c2
    refine e_iload_n 6 dX6_isForAll_5 rfl rfl ?_
    refine e_bipush 8 (v := (nI 6)) dX6_isForAll_6 rfl (by decide) ?_
    refine e_icmp_eq 35 11 dX6_isForAll_8 rfl rfl (fun c8 => ?_) (fun c8 => ?_)
    · have k8 := j_eq_t (a := f) (b := 6) (by omega) (by omega) c8
      refine e_iconst 36 (v := (nI 1)) dX6_isForAll_35 rfl (by decide) ?_
      refine e_goto 40 dX6_isForAll_36 rfl ?_
      exact e_zret dX6_isForAll_40 rfl (Or.inr (by decide)) (by omega) (by omega) (⟨_, ⟨by rw [show faF f = true by unfold faF; (try simp only [Bool.and_eq_true, Bool.or_eq_true, Bool.not_eq_true', Bool.and_eq_false_iff, Bool.or_eq_false_iff, Bool.not_eq_false', decide_eq_true_eq, decide_eq_false_iff_not, Bool.false_or, Bool.true_or, Bool.or_false, Bool.or_true, Bool.not_false, Bool.not_true, Bool.true_and, Bool.false_and, Bool.and_true, Bool.and_false, reduceCtorEq]) <;> (try omega)]; rfl, rfl⟩, hL⟩)
    · have k8 := j_eq_f (a := f) (b := 6) (by omega) (by omega) c8
      refine e_iload_n 12 dX6_isForAll_11 rfl rfl ?_
      refine e_bipush 14 (v := (nI 15)) dX6_isForAll_12 rfl (by decide) ?_
      refine e_icmp_eq 35 17 dX6_isForAll_14 rfl rfl (fun c14 => ?_) (fun c14 => ?_)
      · have k14 := j_eq_t (a := f) (b := 15) (by omega) (by omega) c14
        refine e_iconst 36 (v := (nI 1)) dX6_isForAll_35 rfl (by decide) ?_
        refine e_goto 40 dX6_isForAll_36 rfl ?_
        exact e_zret dX6_isForAll_40 rfl (Or.inr (by decide)) (by omega) (by omega) (⟨_, ⟨by rw [show faF f = true by unfold faF; (try simp only [Bool.and_eq_true, Bool.or_eq_true, Bool.not_eq_true', Bool.and_eq_false_iff, Bool.or_eq_false_iff, Bool.not_eq_false', decide_eq_true_eq, decide_eq_false_iff_not, Bool.false_or, Bool.true_or, Bool.or_false, Bool.or_true, Bool.not_false, Bool.not_true, Bool.true_and, Bool.false_and, Bool.and_true, Bool.and_false, reduceCtorEq]) <;> (try omega)]; rfl, rfl⟩, hL⟩)
      · have k14 := j_eq_f (a := f) (b := 15) (by omega) (by omega) c14
        refine e_iload_n 18 dX6_isForAll_17 rfl rfl ?_
        refine e_bipush 20 (v := (nI 16)) dX6_isForAll_18 rfl (by decide) ?_
        refine e_icmp_eq 35 23 dX6_isForAll_20 rfl rfl (fun c20 => ?_) (fun c20 => ?_)
        · have k20 := j_eq_t (a := f) (b := 16) (by omega) (by omega) c20
          refine e_iconst 36 (v := (nI 1)) dX6_isForAll_35 rfl (by decide) ?_
          refine e_goto 40 dX6_isForAll_36 rfl ?_
          exact e_zret dX6_isForAll_40 rfl (Or.inr (by decide)) (by omega) (by omega) (⟨_, ⟨by rw [show faF f = true by unfold faF; (try simp only [Bool.and_eq_true, Bool.or_eq_true, Bool.not_eq_true', Bool.and_eq_false_iff, Bool.or_eq_false_iff, Bool.not_eq_false', decide_eq_true_eq, decide_eq_false_iff_not, Bool.false_or, Bool.true_or, Bool.or_false, Bool.or_true, Bool.not_false, Bool.not_true, Bool.true_and, Bool.false_and, Bool.and_true, Bool.and_false, reduceCtorEq]) <;> (try omega)]; rfl, rfl⟩, hL⟩)
        · have k20 := j_eq_f (a := f) (b := 16) (by omega) (by omega) c20
          refine e_iload_n 24 dX6_isForAll_23 rfl rfl ?_
          refine e_bipush 26 (v := (nI 21)) dX6_isForAll_24 rfl (by decide) ?_
          refine e_icmp_eq 35 29 dX6_isForAll_26 rfl rfl (fun c26 => ?_) (fun c26 => ?_)
          · have k26 := j_eq_t (a := f) (b := 21) (by omega) (by omega) c26
            refine e_iconst 36 (v := (nI 1)) dX6_isForAll_35 rfl (by decide) ?_
            refine e_goto 40 dX6_isForAll_36 rfl ?_
            exact e_zret dX6_isForAll_40 rfl (Or.inr (by decide)) (by omega) (by omega) (⟨_, ⟨by rw [show faF f = true by unfold faF; (try simp only [Bool.and_eq_true, Bool.or_eq_true, Bool.not_eq_true', Bool.and_eq_false_iff, Bool.or_eq_false_iff, Bool.not_eq_false', decide_eq_true_eq, decide_eq_false_iff_not, Bool.false_or, Bool.true_or, Bool.or_false, Bool.or_true, Bool.not_false, Bool.not_true, Bool.true_and, Bool.false_and, Bool.and_true, Bool.and_false, reduceCtorEq]) <;> (try omega)]; rfl, rfl⟩, hL⟩)
          · have k26 := j_eq_f (a := f) (b := 21) (by omega) (by omega) c26
            refine e_iload_n 30 dX6_isForAll_29 rfl rfl ?_
            refine e_bipush 32 (v := (nI 22)) dX6_isForAll_30 rfl (by decide) ?_
            refine e_icmp_ne 39 35 dX6_isForAll_32 rfl rfl (fun c32 => ?_) (fun c32 => ?_)
            · have k32 := j_ne_t (a := f) (b := 22) (by omega) (by omega) c32
              refine e_iconst 40 (v := (nI 0)) dX6_isForAll_39 rfl (by decide) ?_
              exact e_zret dX6_isForAll_40 rfl (Or.inl (by decide)) (by omega) (by omega) (⟨_, ⟨by rw [show faF f = false by unfold faF; (try simp only [Bool.and_eq_true, Bool.or_eq_true, Bool.not_eq_true', Bool.and_eq_false_iff, Bool.or_eq_false_iff, Bool.not_eq_false', decide_eq_true_eq, decide_eq_false_iff_not, Bool.false_or, Bool.true_or, Bool.or_false, Bool.or_true, Bool.not_false, Bool.not_true, Bool.true_and, Bool.false_and, Bool.and_true, Bool.and_false, reduceCtorEq]) <;> (try omega)]; rfl, rfl⟩, hL⟩)
            · have k32 := j_ne_f (a := f) (b := 22) (by omega) (by omega) c32
              refine e_iconst 36 (v := (nI 1)) dX6_isForAll_35 rfl (by decide) ?_
              refine e_goto 40 dX6_isForAll_36 rfl ?_
              exact e_zret dX6_isForAll_40 rfl (Or.inr (by decide)) (by omega) (by omega) (⟨_, ⟨by rw [show faF f = true by unfold faF; (try simp only [Bool.and_eq_true, Bool.or_eq_true, Bool.not_eq_true', Bool.and_eq_false_iff, Bool.or_eq_false_iff, Bool.not_eq_false', decide_eq_true_eq, decide_eq_false_iff_not, Bool.false_or, Bool.true_or, Bool.or_false, Bool.or_true, Bool.not_false, Bool.not_true, Bool.true_and, Bool.false_and, Bool.and_true, Bool.and_false, reduceCtorEq]) <;> (try omega)]; rfl, rfl⟩, hL⟩)
set_option maxRecDepth 20000 in
set_option maxHeartbeats 2000000 in
/-- isTelling(function) -/
theorem k_X6_isTelling {f : Nat} (hf : f < 256) : CA mX6_isTelling [.int (nI f)] [] (fun r L => r = some (.int (bI (itF f))) ∧ L = []) 0 0 0 0 := by
  refine CA.mk 0 (ls := [some (.int (nI f))]) rfl rfl (Nat.le_of_ble_eq_true rfl) rfl (fun h hL => ?_)
  refine e_iload_n 1 dX6_isTelling_0 rfl rfl ?_
  refine e_bipush 3 (v := (nI 7)) dX6_isTelling_1 rfl (by decide) ?_
  refine e_icmp_eq 42 6 dX6_isTelling_3 rfl rfl (fun c3 => ?_) (fun c3 => ?_)
  · have k3 := j_eq_t (a := f) (b := 7) (by omega) (by omega) c3
    refine e_iconst 43 (v := (nI 1)) dX6_isTelling_42 rfl (by decide) ?_
    refine e_goto 47 dX6_isTelling_43 rfl ?_
    exact e_zret dX6_isTelling_47 rfl (Or.inr (by decide)) (by omega) (by omega) (⟨_, ⟨by rw [show itF f = true by unfold itF; (try simp only [Bool.and_eq_true, Bool.or_eq_true, Bool.not_eq_true', Bool.and_eq_false_iff, Bool.or_eq_false_iff, Bool.not_eq_false', decide_eq_true_eq, decide_eq_false_iff_not, Bool.false_or, Bool.true_or, Bool.or_false, Bool.or_true, Bool.not_false, Bool.not_true, Bool.true_and, Bool.false_and, Bool.and_true, Bool.and_false, reduceCtorEq]) <;> (try omega)]; rfl, rfl⟩, hL⟩)
  · have k3 := j_eq_f (a := f) (b := 7) (by omega) (by omega) c3
    refine e_iload_n 7 dX6_isTelling_6 rfl rfl ?_
    refine e_bipush 9 (v := (nI 11)) dX6_isTelling_7 rfl (by decide) ?_
    refine e_icmp_eq 42 12 dX6_isTelling_9 rfl rfl (fun c9 => ?_) (fun c9 => ?_)
    · have k9 := j_eq_t (a := f) (b := 11) (by omega) (by omega) c9
      refine e_iconst 43 (v := (nI 1)) dX6_isTelling_42 rfl (by decide) ?_
      refine e_goto 47 dX6_isTelling_43 rfl ?_
      exact e_zret dX6_isTelling_47 rfl (Or.inr (by decide)) (by omega) (by omega) (⟨_, ⟨by rw [show itF f = true by unfold itF; (try simp only [Bool.and_eq_true, Bool.or_eq_true, Bool.not_eq_true', Bool.and_eq_false_iff, Bool.or_eq_false_iff, Bool.not_eq_false', decide_eq_true_eq, decide_eq_false_iff_not, Bool.false_or, Bool.true_or, Bool.or_false, Bool.or_true, Bool.not_false, Bool.not_true, Bool.true_and, Bool.false_and, Bool.and_true, Bool.and_false, reduceCtorEq]) <;> (try omega)]; rfl, rfl⟩, hL⟩)
    · have k9 := j_eq_f (a := f) (b := 11) (by omega) (by omega) c9
      refine e_iload_n 13 dX6_isTelling_12 rfl rfl ?_
      refine e_bipush 15 (v := (nI 12)) dX6_isTelling_13 rfl (by decide) ?_
      refine e_icmp_eq 42 18 dX6_isTelling_15 rfl rfl (fun c15 => ?_) (fun c15 => ?_)
      · have k15 := j_eq_t (a := f) (b := 12) (by omega) (by omega) c15
        refine e_iconst 43 (v := (nI 1)) dX6_isTelling_42 rfl (by decide) ?_
        refine e_goto 47 dX6_isTelling_43 rfl ?_
        exact e_zret dX6_isTelling_47 rfl (Or.inr (by decide)) (by omega) (by omega) (⟨_, ⟨by rw [show itF f = true by unfold itF; (try simp only [Bool.and_eq_true, Bool.or_eq_true, Bool.not_eq_true', Bool.and_eq_false_iff, Bool.or_eq_false_iff, Bool.not_eq_false', decide_eq_true_eq, decide_eq_false_iff_not, Bool.false_or, Bool.true_or, Bool.or_false, Bool.or_true, Bool.not_false, Bool.not_true, Bool.true_and, Bool.false_and, Bool.and_true, Bool.and_false, reduceCtorEq]) <;> (try omega)]; rfl, rfl⟩, hL⟩)
      · have k15 := j_eq_f (a := f) (b := 12) (by omega) (by omega) c15
        refine e_iload_n 19 dX6_isTelling_18 rfl rfl ?_
        refine e_bipush 21 (v := (nI 17)) dX6_isTelling_19 rfl (by decide) ?_
        refine e_icmp_eq 42 24 dX6_isTelling_21 rfl rfl (fun c21 => ?_) (fun c21 => ?_)
        · have k21 := j_eq_t (a := f) (b := 17) (by omega) (by omega) c21
          refine e_iconst 43 (v := (nI 1)) dX6_isTelling_42 rfl (by decide) ?_
          refine e_goto 47 dX6_isTelling_43 rfl ?_
          exact e_zret dX6_isTelling_47 rfl (Or.inr (by decide)) (by omega) (by omega) (⟨_, ⟨by rw [show itF f = true by unfold itF; (try simp only [Bool.and_eq_true, Bool.or_eq_true, Bool.not_eq_true', Bool.and_eq_false_iff, Bool.or_eq_false_iff, Bool.not_eq_false', decide_eq_true_eq, decide_eq_false_iff_not, Bool.false_or, Bool.true_or, Bool.or_false, Bool.or_true, Bool.not_false, Bool.not_true, Bool.true_and, Bool.false_and, Bool.and_true, Bool.and_false, reduceCtorEq]) <;> (try omega)]; rfl, rfl⟩, hL⟩)
        · have k21 := j_eq_f (a := f) (b := 17) (by omega) (by omega) c21
          refine e_iload_n 25 dX6_isTelling_24 rfl rfl ?_
          refine e_bipush 27 (v := (nI 20)) dX6_isTelling_25 rfl (by decide) ?_
          refine e_icmp_eq 42 30 dX6_isTelling_27 rfl rfl (fun c27 => ?_) (fun c27 => ?_)
          · have k27 := j_eq_t (a := f) (b := 20) (by omega) (by omega) c27
            refine e_iconst 43 (v := (nI 1)) dX6_isTelling_42 rfl (by decide) ?_
            refine e_goto 47 dX6_isTelling_43 rfl ?_
            exact e_zret dX6_isTelling_47 rfl (Or.inr (by decide)) (by omega) (by omega) (⟨_, ⟨by rw [show itF f = true by unfold itF; (try simp only [Bool.and_eq_true, Bool.or_eq_true, Bool.not_eq_true', Bool.and_eq_false_iff, Bool.or_eq_false_iff, Bool.not_eq_false', decide_eq_true_eq, decide_eq_false_iff_not, Bool.false_or, Bool.true_or, Bool.or_false, Bool.or_true, Bool.not_false, Bool.not_true, Bool.true_and, Bool.false_and, Bool.and_true, Bool.and_false, reduceCtorEq]) <;> (try omega)]; rfl, rfl⟩, hL⟩)
          · have k27 := j_eq_f (a := f) (b := 20) (by omega) (by omega) c27
            refine e_iload_n 31 dX6_isTelling_30 rfl rfl ?_
            refine e_bipush 33 (v := (nI 24)) dX6_isTelling_31 rfl (by decide) ?_
            refine e_icmp_eq 42 36 dX6_isTelling_33 rfl rfl (fun c33 => ?_) (fun c33 => ?_)
            · have k33 := j_eq_t (a := f) (b := 24) (by omega) (by omega) c33
              refine e_iconst 43 (v := (nI 1)) dX6_isTelling_42 rfl (by decide) ?_
              refine e_goto 47 dX6_isTelling_43 rfl ?_
              exact e_zret dX6_isTelling_47 rfl (Or.inr (by decide)) (by omega) (by omega) (⟨_, ⟨by rw [show itF f = true by unfold itF; (try simp only [Bool.and_eq_true, Bool.or_eq_true, Bool.not_eq_true', Bool.and_eq_false_iff, Bool.or_eq_false_iff, Bool.not_eq_false', decide_eq_true_eq, decide_eq_false_iff_not, Bool.false_or, Bool.true_or, Bool.or_false, Bool.or_true, Bool.not_false, Bool.not_true, Bool.true_and, Bool.false_and, Bool.and_true, Bool.and_false, reduceCtorEq]) <;> (try omega)]; rfl, rfl⟩, hL⟩)
            · have k33 := j_eq_f (a := f) (b := 24) (by omega) (by omega) c33
              refine e_iload_n 37 dX6_isTelling_36 rfl rfl ?_
              refine e_bipush 39 (v := (nI 43)) dX6_isTelling_37 rfl (by decide) ?_
              refine e_icmp_ne 46 42 dX6_isTelling_39 rfl rfl (fun c39 => ?_) (fun c39 => ?_)
              · have k39 := j_ne_t (a := f) (b := 43) (by omega) (by omega) c39
                refine e_iconst 47 (v := (nI 0)) dX6_isTelling_46 rfl (by decide) ?_
                exact e_zret dX6_isTelling_47 rfl (Or.inl (by decide)) (by omega) (by omega) (⟨_, ⟨by rw [show itF f = false by unfold itF; (try simp only [Bool.and_eq_true, Bool.or_eq_true, Bool.not_eq_true', Bool.and_eq_false_iff, Bool.or_eq_false_iff, Bool.not_eq_false', decide_eq_true_eq, decide_eq_false_iff_not, Bool.false_or, Bool.true_or, Bool.or_false, Bool.or_true, Bool.not_false, Bool.not_true, Bool.true_and, Bool.false_and, Bool.and_true, Bool.and_false, reduceCtorEq]) <;> (try omega)]; rfl, rfl⟩, hL⟩)
              · have k39 := j_ne_f (a := f) (b := 43) (by omega) (by omega) c39
                refine e_iconst 43 (v := (nI 1)) dX6_isTelling_42 rfl (by decide) ?_
                refine e_goto 47 dX6_isTelling_43 rfl ?_
                exact e_zret dX6_isTelling_47 rfl (Or.inr (by decide)) (by omega) (by omega) (⟨_, ⟨by rw [show itF f = true by unfold itF; (try simp only [Bool.and_eq_true, Bool.or_eq_true, Bool.not_eq_true', Bool.and_eq_false_iff, Bool.or_eq_false_iff, Bool.not_eq_false', decide_eq_true_eq, decide_eq_false_iff_not, Bool.false_or, Bool.true_or, Bool.or_false, Bool.or_true, Bool.not_false, Bool.not_true, Bool.true_and, Bool.false_and, Bool.and_true, Bool.and_false, reduceCtorEq]) <;> (try omega)]; rfl, rfl⟩, hL⟩)
set_option maxRecDepth 20000 in
set_option maxHeartbeats 2000000 in
/-- diagnosisFault(q) -/
theorem k_X6_diagnosisFault {b cb : Nat} {q : List Nat} (hq : ∀ x ∈ q, x < 256) : CA mX6_diagnosisFault [.ref b] [row b cb q] (fun r L => r = some (.int (nI (sdF q))) ∧ L = [row b cb q]) 1 24 0 0 := by
  refine CA.mk 3 (ls := [some (.ref b), none, none, none]) rfl rfl (Nat.le_of_ble_eq_true rfl) rfl (fun h hL => ?_)
  have hlen := row_len _ 0 hL rfl
  have w1 := wd_lt (k := 1) hq
  have w3 := wd_lt (k := 3) hq
  have w5 := wd_lt (k := 5) hq
  have w7 := wd_lt (k := 7) hq
  have g0 := gd_lt (i := 0) hq (by decide)
  have g1 := gd_lt (i := 1) hq (by decide)
  have g2 := gd_lt (i := 2) hq (by decide)
  have g3 := gd_lt (i := 3) hq (by decide)
  have g5 := gd_lt (i := 5) hq (by decide)
  have g9 := gd_lt (i := 9) hq (by decide)
  refine e_aload_n 1 dX6_diagnosisFault_0 rfl rfl ?_
  refine e_iconst 2 (v := (nI 1)) dX6_diagnosisFault_1 rfl (by decide) ?_
  refine p_callV 5 hL [0] 1 rfl (by decide) (L1 := [row b cb q]) (L2 := []) rfl row_O 0 rfl dX6_diagnosisFault_2 rfl cv_X6_54 (k_X4_word (by omega)) rfl rfl (Nat.le_of_ble_eq_true rfl) ⟨by decide, by omega, by omega⟩ (fun r1 L1 h q hL => ?_)
  obtain ⟨rfl, rfl⟩ := q
  have hL : stars [row b cb q] h := hL
  refine e_istore_n 6 (ls' := [some (.ref b), some (.int (nI (wd q 1))), none, none]) dX6_diagnosisFault_5 rfl (by decide) rfl ?_
  refine e_aload_n 7 dX6_diagnosisFault_6 rfl rfl ?_
  refine e_iconst 8 (v := (nI 3)) dX6_diagnosisFault_7 rfl (by decide) ?_
  refine p_callV 11 hL [0] 1 rfl (by decide) (L1 := [row b cb q]) (L2 := []) rfl row_O 0 rfl dX6_diagnosisFault_8 rfl cv_X6_54 (k_X4_word (by omega)) rfl rfl (Nat.le_of_ble_eq_true rfl) ⟨by decide, by omega, by omega⟩ (fun r1 L1 h q hL => ?_)
  obtain ⟨rfl, rfl⟩ := q
  have hL : stars [row b cb q] h := hL
  refine e_istore_n 12 (ls' := [some (.ref b), some (.int (nI (wd q 1))), some (.int (nI (wd q 3))), none]) dX6_diagnosisFault_11 rfl (by decide) rfl ?_
  refine e_iload_n 13 dX6_diagnosisFault_12 rfl rfl ?_
  refine e_if_eq 31 16 dX6_diagnosisFault_13 rfl rfl (fun c13 => ?_) (fun c13 => ?_)
  · have k13 := j_eq0_t (a := (wd q 1)) (by omega) c13
    refine e_iconst 32 (v := (nI 1)) dX6_diagnosisFault_31 rfl (by decide) ?_
    refine e_goto 36 dX6_diagnosisFault_32 rfl ?_
    refine e_istore_n 37 (ls' := [some (.ref b), some (.int (nI (wd q 1))), some (.int (nI (wd q 3))), some (.int (nI 1))]) dX6_diagnosisFault_36 rfl (by decide) rfl ?_
    refine e_iload_n 38 dX6_diagnosisFault_37 rfl rfl ?_
    refine e_if_eq 45 41 dX6_diagnosisFault_38 rfl rfl (fun c38 => absurd c38 (by decide)) (fun c38 => ?_)
    refine e_iconst 42 (v := (nI 0)) dX6_diagnosisFault_41 rfl (by decide) ?_
    refine e_goto 46 dX6_diagnosisFault_42 rfl ?_
    exact e_iret dX6_diagnosisFault_46 rfl (by omega) (by omega) (⟨_, ⟨by (rw [sdF, if_pos (by omega)]), rfl⟩, hL⟩)
  · have k13 := j_eq0_f (a := (wd q 1)) (by omega) c13
    refine e_iload_n 17 dX6_diagnosisFault_16 rfl rfl ?_
    refine e_if_eq 31 20 dX6_diagnosisFault_17 rfl rfl (fun c17 => ?_) (fun c17 => ?_)
    · have k17 := j_eq0_t (a := (wd q 3)) (by omega) c17
      refine e_iconst 32 (v := (nI 1)) dX6_diagnosisFault_31 rfl (by decide) ?_
      refine e_goto 36 dX6_diagnosisFault_32 rfl ?_
      refine e_istore_n 37 (ls' := [some (.ref b), some (.int (nI (wd q 1))), some (.int (nI (wd q 3))), some (.int (nI 1))]) dX6_diagnosisFault_36 rfl (by decide) rfl ?_
      refine e_iload_n 38 dX6_diagnosisFault_37 rfl rfl ?_
      refine e_if_eq 45 41 dX6_diagnosisFault_38 rfl rfl (fun c38 => absurd c38 (by decide)) (fun c38 => ?_)
      refine e_iconst 42 (v := (nI 0)) dX6_diagnosisFault_41 rfl (by decide) ?_
      refine e_goto 46 dX6_diagnosisFault_42 rfl ?_
      exact e_iret dX6_diagnosisFault_46 rfl (by omega) (by omega) (⟨_, ⟨by (rw [sdF, if_pos (by omega)]), rfl⟩, hL⟩)
    · have k17 := j_eq0_f (a := (wd q 3)) (by omega) c17
      refine e_iload_n 21 dX6_diagnosisFault_20 rfl rfl ?_
      refine e_iconst 22 (v := (nI 1)) dX6_diagnosisFault_21 rfl (by decide) ?_
      refine e_icmp_ne 35 25 dX6_diagnosisFault_22 rfl rfl (fun c22 => ?_) (fun c22 => ?_)
      · have k22 := j_ne_t (a := (wd q 1)) (b := 1) (by omega) (by omega) c22
        refine e_iconst 36 (v := (nI 0)) dX6_diagnosisFault_35 rfl (by decide) ?_
        refine e_istore_n 37 (ls' := [some (.ref b), some (.int (nI (wd q 1))), some (.int (nI (wd q 3))), some (.int (nI 0))]) dX6_diagnosisFault_36 rfl (by decide) rfl ?_
        refine e_iload_n 38 dX6_diagnosisFault_37 rfl rfl ?_
        refine e_if_eq 45 41 dX6_diagnosisFault_38 rfl rfl (fun c38 => ?_) (fun c38 => absurd c38 (by decide))
        refine e_iconst 46 (v := (nI 3)) dX6_diagnosisFault_45 rfl (by decide) ?_
        exact e_iret dX6_diagnosisFault_46 rfl (by omega) (by omega) (⟨_, ⟨by (rw [sdF, if_neg (by omega)]), rfl⟩, hL⟩)
      · have k22 := j_ne_f (a := (wd q 1)) (b := 1) (by omega) (by omega) c22
        refine e_iload_n 26 dX6_diagnosisFault_25 rfl rfl ?_
        refine e_ldc 28 (v := (nI 65280)) dX6_diagnosisFault_26 rfl cn_X6_76 ?_
        refine e_icmp_ne 35 31 dX6_diagnosisFault_28 rfl rfl (fun c28 => ?_) (fun c28 => ?_)
        · have k28 := j_ne_t (a := (wd q 3)) (b := 65280) (by omega) (by omega) c28
          refine e_iconst 36 (v := (nI 0)) dX6_diagnosisFault_35 rfl (by decide) ?_
          refine e_istore_n 37 (ls' := [some (.ref b), some (.int (nI (wd q 1))), some (.int (nI (wd q 3))), some (.int (nI 0))]) dX6_diagnosisFault_36 rfl (by decide) rfl ?_
          refine e_iload_n 38 dX6_diagnosisFault_37 rfl rfl ?_
          refine e_if_eq 45 41 dX6_diagnosisFault_38 rfl rfl (fun c38 => ?_) (fun c38 => absurd c38 (by decide))
          refine e_iconst 46 (v := (nI 3)) dX6_diagnosisFault_45 rfl (by decide) ?_
          exact e_iret dX6_diagnosisFault_46 rfl (by omega) (by omega) (⟨_, ⟨by (rw [sdF, if_neg (by omega)]), rfl⟩, hL⟩)
        · have k28 := j_ne_f (a := (wd q 3)) (b := 65280) (by omega) (by omega) c28
          refine e_iconst 32 (v := (nI 1)) dX6_diagnosisFault_31 rfl (by decide) ?_
          refine e_goto 36 dX6_diagnosisFault_32 rfl ?_
          refine e_istore_n 37 (ls' := [some (.ref b), some (.int (nI (wd q 1))), some (.int (nI (wd q 3))), some (.int (nI 1))]) dX6_diagnosisFault_36 rfl (by decide) rfl ?_
          refine e_iload_n 38 dX6_diagnosisFault_37 rfl rfl ?_
          refine e_if_eq 45 41 dX6_diagnosisFault_38 rfl rfl (fun c38 => absurd c38 (by decide)) (fun c38 => ?_)
          refine e_iconst 42 (v := (nI 0)) dX6_diagnosisFault_41 rfl (by decide) ?_
          refine e_goto 46 dX6_diagnosisFault_42 rfl ?_
          exact e_iret dX6_diagnosisFault_46 rfl (by omega) (by omega) (⟨_, ⟨by (rw [sdF, if_pos (by omega)]), rfl⟩, hL⟩)
set_option maxRecDepth 20000 in
set_option maxHeartbeats 2000000 in
/-- masked(v, and, or) -/
theorem k_X6_masked {v a o : Nat} (ha : a < 65536) (ho : o < 65536) : CA mX6_masked [.int (nI v), .int (nI a), .int (nI o)] [] (fun r L => r = some (.int (nI (mkN v a o))) ∧ L = []) 0 0 0 0 := by
  refine CA.mk 0 (ls := [some (.int (nI v)), some (.int (nI a)), some (.int (nI o))]) rfl rfl (Nat.le_of_ble_eq_true rfl) rfl (fun h hL => ?_)
  refine e_iload_n 1 dX6_masked_0 rfl rfl ?_
  refine e_iload_n 2 dX6_masked_1 rfl rfl ?_
  refine e_iand 3 (v := (nI (v &&& a))) dX6_masked_2 rfl (nx_and _ _) ?_
  refine e_iload_n 4 dX6_masked_3 rfl rfl ?_
  refine e_iload_n 5 dX6_masked_4 rfl rfl ?_
  refine e_iconst 6 (v := (-1)) dX6_masked_5 rfl (by decide) ?_
  refine e_ixor 7 (v := (nI a ^^^ (-1))) dX6_masked_6 rfl rfl ?_
  refine e_iand 8 (v := (nI (o &&& (65535 - a)))) dX6_masked_7 rfl (not_16 ha ho) ?_
  refine e_ior 9 (v := (nI (mkN v a o))) dX6_masked_8 rfl (nx_or _ _) ?_
  exact e_iret dX6_masked_9 rfl (by omega) (by omega) (⟨_, ⟨rfl, rfl⟩, hL⟩)
set_option maxRecDepth 20000 in
set_option maxHeartbeats 2000000 in
/-- maskFault(device, q) -/
theorem k_X6_maskFault {d b cb : Nat} {A v : Nat → Nat} {df : Bool} {lm : Nat → Nat} {q : List Nat} {fr : Nat} {vs : List Nat} (h8 : v 8 ≤ 8) (hb : ∀ i, lm i < 200000) (hq : ∀ x ∈ q, x < 256) (hvs : ∀ x ∈ vs, x < 65536) : CA mX6_maskFault [.ref d, .ref b] [dvO d A v df, bank (A 5) 65535 fr vs, pI (A 7) 32 lm, row b cb q] (fun r L => r = some (.int (nI (mfF lm (v 8) fr vs q))) ∧ L = [dvO d A v df, bank (A 5) 65535 fr vs, pI (A 7) 32 lm, row b cb q]) 1 24 0 0 := by
  refine CA.mk 2 (ls := [some (.ref d), some (.ref b), none, none]) rfl rfl (Nat.le_of_ble_eq_true rfl) rfl (fun h hL => ?_)
  have hlen := row_len _ 3 hL rfl
  have w1 := wd_lt (k := 1) hq
  have w3 := wd_lt (k := 3) hq
  have w5 := wd_lt (k := 5) hq
  have w7 := wd_lt (k := 7) hq
  have g0 := gd_lt (i := 0) hq (by decide)
  have g1 := gd_lt (i := 1) hq (by decide)
  have g2 := gd_lt (i := 2) hq (by decide)
  have g3 := gd_lt (i := 3) hq (by decide)
  have g5 := gd_lt (i := 5) hq (by decide)
  have g9 := gd_lt (i := 9) hq (by decide)
  refine e_aload_n 1 dX6_maskFault_0 rfl rfl ?_
  refine e_iconst 2 (v := (nI 1)) dX6_maskFault_1 rfl (by decide) ?_
  refine p_callV 5 hL [3, 0, 1, 2] 4 rfl (by decide) (L1 := [row b cb q]) (L2 := [pt d (.inr (1, [.int (nI (v 0)), .int (nI (v 1)), .int (nI (v 2)), .ref (A 3), .ref (A 4), .ref (A 5), .ref (A 6), .ref (A 7), .int (nI (v 8)), .ref (A 9), .ref (A 10), .ref (A 11), .ref (A 12), .ref (A 13), .ref (A 14), .ref (A 15), .ref (A 16), .int (nI (v 17)), .int (nI (v 18)), .int (bI df)])), bank (A 5) 65535 fr vs, pt (A 7) (.inl (0, 32, .inl (fun i => nI (lm i))))]) rfl row_O 3 rfl dX6_maskFault_2 rfl cv_X6_54 (k_X4_word (by omega)) rfl rfl (Nat.le_of_ble_eq_true rfl) ⟨by decide, by omega, by omega⟩ (fun r1 L1 h q hL => ?_)
  obtain ⟨rfl, rfl⟩ := q
  have hL : stars [row b cb q, pt d (.inr (1, [.int (nI (v 0)), .int (nI (v 1)), .int (nI (v 2)), .ref (A 3), .ref (A 4), .ref (A 5), .ref (A 6), .ref (A 7), .int (nI (v 8)), .ref (A 9), .ref (A 10), .ref (A 11), .ref (A 12), .ref (A 13), .ref (A 14), .ref (A 15), .ref (A 16), .int (nI (v 17)), .int (nI (v 18)), .int (bI df)])), bank (A 5) 65535 fr vs, pt (A 7) (.inl (0, 32, .inl (fun i => nI (lm i))))] h := hL
  have hL : stars [pt d (.inr (1, [.int (nI (v 0)), .int (nI (v 1)), .int (nI (v 2)), .ref (A 3), .ref (A 4), .ref (A 5), .ref (A 6), .ref (A 7), .int (nI (v 8)), .ref (A 9), .ref (A 10), .ref (A 11), .ref (A 12), .ref (A 13), .ref (A 14), .ref (A 15), .ref (A 16), .int (nI (v 17)), .int (nI (v 18)), .int (bI df)])), bank (A 5) 65535 fr vs, pt (A 7) (.inl (0, 32, .inl (fun i => nI (lm i)))), row b cb q] h := stars_ixn hL 4 rfl [1, 2, 3, 0] (by decide) rfl
  refine e_istore_n 6 (ls' := [some (.ref d), some (.ref b), some (.int (nI (wd q 1))), none]) dX6_maskFault_5 rfl (by decide) rfl ?_
  refine e_aload_n 7 dX6_maskFault_6 rfl rfl ?_
  refine e_get 10 dX6_maskFault_7 rfl fl_X6_70_1 (stars_at _ 0 hL rfl) rfl ?_
  refine e_iload_n 11 dX6_maskFault_10 rfl rfl ?_
  refine e_iconst 12 (v := (nI 1)) dX6_maskFault_11 rfl (by decide) ?_
  refine p_callV 15 hL [1, 0, 2, 3] 4 rfl (by decide) (L1 := [bank (A 5) 65535 fr vs]) (L2 := [pt d (.inr (1, [.int (nI (v 0)), .int (nI (v 1)), .int (nI (v 2)), .ref (A 3), .ref (A 4), .ref (A 5), .ref (A 6), .ref (A 7), .int (nI (v 8)), .ref (A 9), .ref (A 10), .ref (A 11), .ref (A 12), .ref (A 13), .ref (A 14), .ref (A 15), .ref (A 16), .int (nI (v 17)), .int (nI (v 18)), .int (bI df)])), pt (A 7) (.inl (0, 32, .inl (fun i => nI (lm i)))), row b cb q]) rfl bank_O 1 rfl dX6_maskFault_12 rfl cv_X6_61 (k_X0_has (by omega)) rfl rfl (Nat.le_of_ble_eq_true rfl) ⟨by decide, by omega, by omega⟩ (fun r1 L1 h q hL => ?_)
  obtain ⟨rfl, rfl⟩ := q
  have hL : stars [bank (A 5) 65535 fr vs, pt d (.inr (1, [.int (nI (v 0)), .int (nI (v 1)), .int (nI (v 2)), .ref (A 3), .ref (A 4), .ref (A 5), .ref (A 6), .ref (A 7), .int (nI (v 8)), .ref (A 9), .ref (A 10), .ref (A 11), .ref (A 12), .ref (A 13), .ref (A 14), .ref (A 15), .ref (A 16), .int (nI (v 17)), .int (nI (v 18)), .int (bI df)])), pt (A 7) (.inl (0, 32, .inl (fun i => nI (lm i)))), row b cb q] h := hL
  have hL : stars [pt d (.inr (1, [.int (nI (v 0)), .int (nI (v 1)), .int (nI (v 2)), .ref (A 3), .ref (A 4), .ref (A 5), .ref (A 6), .ref (A 7), .int (nI (v 8)), .ref (A 9), .ref (A 10), .ref (A 11), .ref (A 12), .ref (A 13), .ref (A 14), .ref (A 15), .ref (A 16), .int (nI (v 17)), .int (nI (v 18)), .int (bI df)])), bank (A 5) 65535 fr vs, pt (A 7) (.inl (0, 32, .inl (fun i => nI (lm i)))), row b cb q] h := stars_ixn hL 4 rfl [1, 0, 2, 3] (by decide) rfl
  refine e_if_ne 20 18 dX6_maskFault_15 rfl rfl (fun c15 => ?_) (fun c15 => ?_)
  · have k15 := jb_ne_t c15
    refine e_aload_n 21 dX6_maskFault_20 rfl rfl ?_
    refine e_get 24 dX6_maskFault_21 rfl fl_X6_70_1 (stars_at _ 0 hL rfl) rfl ?_
    refine e_iload_n 25 dX6_maskFault_24 rfl rfl ?_
    refine p_callV 28 hL [1, 0, 2, 3] 4 rfl (by decide) (L1 := [bank (A 5) 65535 fr vs]) (L2 := [pt d (.inr (1, [.int (nI (v 0)), .int (nI (v 1)), .int (nI (v 2)), .ref (A 3), .ref (A 4), .ref (A 5), .ref (A 6), .ref (A 7), .int (nI (v 8)), .ref (A 9), .ref (A 10), .ref (A 11), .ref (A 12), .ref (A 13), .ref (A 14), .ref (A 15), .ref (A 16), .int (nI (v 17)), .int (nI (v 18)), .int (bI df)])), pt (A 7) (.inl (0, 32, .inl (fun i => nI (lm i)))), row b cb q]) rfl bank_O 1 rfl dX6_maskFault_25 rfl cv_X6_110 k_X0_value rfl rfl (Nat.le_of_ble_eq_true rfl) ⟨by decide, by omega, by omega⟩ (fun r1 L1 h q hL => ?_)
    obtain ⟨rfl, rfl⟩ := q
    have hL : stars [bank (A 5) 65535 fr vs, pt d (.inr (1, [.int (nI (v 0)), .int (nI (v 1)), .int (nI (v 2)), .ref (A 3), .ref (A 4), .ref (A 5), .ref (A 6), .ref (A 7), .int (nI (v 8)), .ref (A 9), .ref (A 10), .ref (A 11), .ref (A 12), .ref (A 13), .ref (A 14), .ref (A 15), .ref (A 16), .int (nI (v 17)), .int (nI (v 18)), .int (bI df)])), pt (A 7) (.inl (0, 32, .inl (fun i => nI (lm i)))), row b cb q] h := hL
    have hL : stars [pt d (.inr (1, [.int (nI (v 0)), .int (nI (v 1)), .int (nI (v 2)), .ref (A 3), .ref (A 4), .ref (A 5), .ref (A 6), .ref (A 7), .int (nI (v 8)), .ref (A 9), .ref (A 10), .ref (A 11), .ref (A 12), .ref (A 13), .ref (A 14), .ref (A 15), .ref (A 16), .int (nI (v 17)), .int (nI (v 18)), .int (bI df)])), bank (A 5) 65535 fr vs, pt (A 7) (.inl (0, 32, .inl (fun i => nI (lm i)))), row b cb q] h := stars_ixn hL 4 rfl [1, 0, 2, 3] (by decide) rfl
    refine e_aload_n 29 dX6_maskFault_28 rfl rfl ?_
    refine e_iconst 30 (v := (nI 3)) dX6_maskFault_29 rfl (by decide) ?_
    refine p_callV 33 hL [3, 0, 1, 2] 4 rfl (by decide) (L1 := [row b cb q]) (L2 := [pt d (.inr (1, [.int (nI (v 0)), .int (nI (v 1)), .int (nI (v 2)), .ref (A 3), .ref (A 4), .ref (A 5), .ref (A 6), .ref (A 7), .int (nI (v 8)), .ref (A 9), .ref (A 10), .ref (A 11), .ref (A 12), .ref (A 13), .ref (A 14), .ref (A 15), .ref (A 16), .int (nI (v 17)), .int (nI (v 18)), .int (bI df)])), bank (A 5) 65535 fr vs, pt (A 7) (.inl (0, 32, .inl (fun i => nI (lm i))))]) rfl row_O 3 rfl dX6_maskFault_30 rfl cv_X6_54 (k_X4_word (by omega)) rfl rfl (Nat.le_of_ble_eq_true rfl) ⟨by decide, by omega, by omega⟩ (fun r1 L1 h q hL => ?_)
    obtain ⟨rfl, rfl⟩ := q
    have hL : stars [row b cb q, pt d (.inr (1, [.int (nI (v 0)), .int (nI (v 1)), .int (nI (v 2)), .ref (A 3), .ref (A 4), .ref (A 5), .ref (A 6), .ref (A 7), .int (nI (v 8)), .ref (A 9), .ref (A 10), .ref (A 11), .ref (A 12), .ref (A 13), .ref (A 14), .ref (A 15), .ref (A 16), .int (nI (v 17)), .int (nI (v 18)), .int (bI df)])), bank (A 5) 65535 fr vs, pt (A 7) (.inl (0, 32, .inl (fun i => nI (lm i))))] h := hL
    have hL : stars [pt d (.inr (1, [.int (nI (v 0)), .int (nI (v 1)), .int (nI (v 2)), .ref (A 3), .ref (A 4), .ref (A 5), .ref (A 6), .ref (A 7), .int (nI (v 8)), .ref (A 9), .ref (A 10), .ref (A 11), .ref (A 12), .ref (A 13), .ref (A 14), .ref (A 15), .ref (A 16), .int (nI (v 17)), .int (nI (v 18)), .int (bI df)])), bank (A 5) 65535 fr vs, pt (A 7) (.inl (0, 32, .inl (fun i => nI (lm i)))), row b cb q] h := stars_ixn hL 4 rfl [1, 2, 3, 0] (by decide) rfl
    refine e_aload_n 34 dX6_maskFault_33 rfl rfl ?_
    refine e_iconst 35 (v := (nI 5)) dX6_maskFault_34 rfl (by decide) ?_
    refine p_callV 38 hL [3, 0, 1, 2] 4 rfl (by decide) (L1 := [row b cb q]) (L2 := [pt d (.inr (1, [.int (nI (v 0)), .int (nI (v 1)), .int (nI (v 2)), .ref (A 3), .ref (A 4), .ref (A 5), .ref (A 6), .ref (A 7), .int (nI (v 8)), .ref (A 9), .ref (A 10), .ref (A 11), .ref (A 12), .ref (A 13), .ref (A 14), .ref (A 15), .ref (A 16), .int (nI (v 17)), .int (nI (v 18)), .int (bI df)])), bank (A 5) 65535 fr vs, pt (A 7) (.inl (0, 32, .inl (fun i => nI (lm i))))]) rfl row_O 3 rfl dX6_maskFault_35 rfl cv_X6_54 (k_X4_word (by omega)) rfl rfl (Nat.le_of_ble_eq_true rfl) ⟨by decide, by omega, by omega⟩ (fun r1 L1 h q hL => ?_)
    obtain ⟨rfl, rfl⟩ := q
    have hL : stars [row b cb q, pt d (.inr (1, [.int (nI (v 0)), .int (nI (v 1)), .int (nI (v 2)), .ref (A 3), .ref (A 4), .ref (A 5), .ref (A 6), .ref (A 7), .int (nI (v 8)), .ref (A 9), .ref (A 10), .ref (A 11), .ref (A 12), .ref (A 13), .ref (A 14), .ref (A 15), .ref (A 16), .int (nI (v 17)), .int (nI (v 18)), .int (bI df)])), bank (A 5) 65535 fr vs, pt (A 7) (.inl (0, 32, .inl (fun i => nI (lm i))))] h := hL
    have hL : stars [pt d (.inr (1, [.int (nI (v 0)), .int (nI (v 1)), .int (nI (v 2)), .ref (A 3), .ref (A 4), .ref (A 5), .ref (A 6), .ref (A 7), .int (nI (v 8)), .ref (A 9), .ref (A 10), .ref (A 11), .ref (A 12), .ref (A 13), .ref (A 14), .ref (A 15), .ref (A 16), .int (nI (v 17)), .int (nI (v 18)), .int (bI df)])), bank (A 5) 65535 fr vs, pt (A 7) (.inl (0, 32, .inl (fun i => nI (lm i)))), row b cb q] h := stars_ixn hL 4 rfl [1, 2, 3, 0] (by decide) rfl
    have hv9 : vs.getD (wd q 1 - fr) 0 < 65536 := gd_lt hvs (by decide)
    have hm9 := mkN_lt (v := vs.getD (wd q 1 - fr) 0) (a := wd q 3) (o := wd q 5) hv9 w5
    rw [show vlI fr vs (nI (wd q 1)) = nI (vs.getD (wd q 1 - fr) 0) by rw [vlI, if_pos k15, nI_clamp (by omega)]]
    refine p_callS 41 hL [0, 1, 2, 3] 4 rfl (by decide) (L1 := []) (L2 := [pt d (.inr (1, [.int (nI (v 0)), .int (nI (v 1)), .int (nI (v 2)), .ref (A 3), .ref (A 4), .ref (A 5), .ref (A 6), .ref (A 7), .int (nI (v 8)), .ref (A 9), .ref (A 10), .ref (A 11), .ref (A 12), .ref (A 13), .ref (A 14), .ref (A 15), .ref (A 16), .int (nI (v 17)), .int (nI (v 18)), .int (bI df)])), bank (A 5) 65535 fr vs, pt (A 7) (.inl (0, 32, .inl (fun i => nI (lm i)))), row b cb q]) rfl dX6_maskFault_38 rfl cs_X6_113 (k_X6_masked (by omega) (by omega)) rfl rfl (Nat.le_of_ble_eq_true rfl) ⟨by decide, by omega, by omega⟩ (fun r1 L1 h q hL => ?_)
    obtain ⟨rfl, rfl⟩ := q
    have hL : stars [pt d (.inr (1, [.int (nI (v 0)), .int (nI (v 1)), .int (nI (v 2)), .ref (A 3), .ref (A 4), .ref (A 5), .ref (A 6), .ref (A 7), .int (nI (v 8)), .ref (A 9), .ref (A 10), .ref (A 11), .ref (A 12), .ref (A 13), .ref (A 14), .ref (A 15), .ref (A 16), .int (nI (v 17)), .int (nI (v 18)), .int (bI df)])), bank (A 5) 65535 fr vs, pt (A 7) (.inl (0, 32, .inl (fun i => nI (lm i)))), row b cb q] h := hL
    refine e_istore_n 42 (ls' := [some (.ref d), some (.ref b), some (.int (nI (wd q 1))), some (.int (nI (mkN (vs.getD (wd q 1 - fr) 0) (wd q 3) (wd q 5))))]) dX6_maskFault_41 rfl (by decide) rfl ?_
    refine e_aload_n 43 dX6_maskFault_42 rfl rfl ?_
    refine e_iload_n 44 dX6_maskFault_43 rfl rfl ?_
    refine e_iload_n 45 dX6_maskFault_44 rfl rfl ?_
    refine p_callV 48 hL [0, 2, 1, 3] 4 rfl (by decide) (L1 := [pt d (.inr (1, [.int (nI (v 0)), .int (nI (v 1)), .int (nI (v 2)), .ref (A 3), .ref (A 4), .ref (A 5), .ref (A 6), .ref (A 7), .int (nI (v 8)), .ref (A 9), .ref (A 10), .ref (A 11), .ref (A 12), .ref (A 13), .ref (A 14), .ref (A 15), .ref (A 16), .int (nI (v 17)), .int (nI (v 18)), .int (bI df)])), pt (A 7) (.inl (0, 32, .inl (fun i => nI (lm i))))]) (L2 := [bank (A 5) 65535 fr vs, row b cb q]) rfl isO_pt 0 rfl dX6_maskFault_45 rfl cv_X6_117 (k_X1_mayBeGiven (A := A) (v := v) (df := df) h8 hb (by omega) (by omega)) rfl rfl (Nat.le_of_ble_eq_true rfl) ⟨by decide, by omega, by omega⟩ (fun r1 L1 h q hL => ?_)
    obtain ⟨rfl, rfl⟩ := q
    have hL : stars [pt d (.inr (1, [.int (nI (v 0)), .int (nI (v 1)), .int (nI (v 2)), .ref (A 3), .ref (A 4), .ref (A 5), .ref (A 6), .ref (A 7), .int (nI (v 8)), .ref (A 9), .ref (A 10), .ref (A 11), .ref (A 12), .ref (A 13), .ref (A 14), .ref (A 15), .ref (A 16), .int (nI (v 17)), .int (nI (v 18)), .int (bI df)])), pt (A 7) (.inl (0, 32, .inl (fun i => nI (lm i)))), bank (A 5) 65535 fr vs, row b cb q] h := hL
    have hL : stars [pt d (.inr (1, [.int (nI (v 0)), .int (nI (v 1)), .int (nI (v 2)), .ref (A 3), .ref (A 4), .ref (A 5), .ref (A 6), .ref (A 7), .int (nI (v 8)), .ref (A 9), .ref (A 10), .ref (A 11), .ref (A 12), .ref (A 13), .ref (A 14), .ref (A 15), .ref (A 16), .int (nI (v 17)), .int (nI (v 18)), .int (bI df)])), bank (A 5) 65535 fr vs, pt (A 7) (.inl (0, 32, .inl (fun i => nI (lm i)))), row b cb q] h := stars_ixn hL 4 rfl [0, 2, 1, 3] (by decide) rfl
    refine e_if_eq 55 51 dX6_maskFault_48 rfl rfl (fun c48 => ?_) (fun c48 => ?_)
    · have k48 := jb_eq_t c48
      refine e_iconst 56 (v := (nI 3)) dX6_maskFault_55 rfl (by decide) ?_
      exact e_iret dX6_maskFault_56 rfl (by omega) (by omega) (⟨_, ⟨by rw [mfF, if_pos k15, if_neg (by rw [k48]; decide)], rfl⟩, hL⟩)
    · have k48 := jb_eq_f c48
      refine e_iconst 52 (v := (nI 0)) dX6_maskFault_51 rfl (by decide) ?_
      refine e_goto 56 dX6_maskFault_52 rfl ?_
      exact e_iret dX6_maskFault_56 rfl (by omega) (by omega) (⟨_, ⟨by rw [mfF, if_pos k15, if_pos k48], rfl⟩, hL⟩)
  · have k15 := jb_ne_f c15
    refine e_iconst 19 (v := (nI 2)) dX6_maskFault_18 rfl (by decide) ?_
    exact e_iret dX6_maskFault_19 rfl (by omega) (by omega) (⟨_, ⟨by rw [mfF, if_neg (by rw [k15]; decide)], rfl⟩, hL⟩)
set_option maxRecDepth 20000 in
set_option maxHeartbeats 2000000 in
/-- queueFault(device, at) -/
theorem k_X6_queueFault {d : Nat} {A v : Nat → Nat} {df : Bool} {M : List (Nat × List Nat)} {x : Int32} : CA mX6_queueFault [.ref d, .int x] [dvO d A v df, shf (A 10) 4 40 M] (fun r L => r = some (.int (nI (qfF M x))) ∧ L = [dvO d A v df, shf (A 10) 4 40 M]) 1 24 0 0 := by
  refine CA.mk 1 (ls := [some (.ref d), some (.int x), none]) rfl rfl (Nat.le_of_ble_eq_true rfl) rfl (fun h hL => ?_)
  refine e_aload_n 1 dX6_queueFault_0 rfl rfl ?_
  refine e_get 4 dX6_queueFault_1 rfl fl_X6_120_1 (stars_at _ 0 hL rfl) rfl ?_
  refine e_iload_n 5 dX6_queueFault_4 rfl rfl ?_
  have hL : stars [shf (A 10) 4 40 M, pt d (.inr (1, [.int (nI (v 0)), .int (nI (v 1)), .int (nI (v 2)), .ref (A 3), .ref (A 4), .ref (A 5), .ref (A 6), .ref (A 7), .int (nI (v 8)), .ref (A 9), .ref (A 10), .ref (A 11), .ref (A 12), .ref (A 13), .ref (A 14), .ref (A 15), .ref (A 16), .int (nI (v 17)), .int (nI (v 18)), .int (bI df)]))] h := stars_ixn hL 2 rfl [1, 0] (by decide) rfl
  obtain ⟨K5, C5, hM5, hL⟩ := shf_o hL
  refine p_callV 8 hL [0, 1, 2] 3 rfl (by decide) (L1 := [shB (A 10) 4 40 K5]) (L2 := [rws 40 K5 C5, pt d (.inr (1, [.int (nI (v 0)), .int (nI (v 1)), .int (nI (v 2)), .ref (A 3), .ref (A 4), .ref (A 5), .ref (A 6), .ref (A 7), .int (nI (v 8)), .ref (A 9), .ref (A 10), .ref (A 11), .ref (A 12), .ref (A 13), .ref (A 14), .ref (A 15), .ref (A 16), .int (nI (v 17)), .int (nI (v 18)), .int (bI df)]))]) rfl shB_O 0 rfl dX6_queueFault_5 rfl cv_X6_98 k_X8_find rfl rfl (Nat.le_of_ble_eq_true rfl) ⟨by decide, by omega, by omega⟩ (fun r1 L1 h q hL => ?_)
  obtain ⟨rfl, rfl⟩ := q
  have hL : stars [shB (A 10) 4 40 K5, rws 40 K5 C5, pt d (.inr (1, [.int (nI (v 0)), .int (nI (v 1)), .int (nI (v 2)), .ref (A 3), .ref (A 4), .ref (A 5), .ref (A 6), .ref (A 7), .int (nI (v 8)), .ref (A 9), .ref (A 10), .ref (A 11), .ref (A 12), .ref (A 13), .ref (A 14), .ref (A 15), .ref (A 16), .int (nI (v 17)), .int (nI (v 18)), .int (bI df)]))] h := hL
  rcases shf_r x hM5 hL with ⟨hx5, hk5, hL⟩ | ⟨i5, a5, R5, hx5, hi5, hk5, hL, hb5⟩
  · rw [hk5]
    refine e_astore_nN 9 (ls' := [some (.ref d), some (.int x), some .null]) dX6_queueFault_8 rfl (by decide) rfl ?_
    refine e_aload_nN 10 dX6_queueFault_9 rfl rfl ?_
    refine e_ifnonnullN 13 dX6_queueFault_10 rfl ?_
    refine e_iconst 14 (v := (nI 2)) dX6_queueFault_13 rfl (by decide) ?_
    exact e_iret dX6_queueFault_14 rfl (by omega) (by omega) (⟨_, ⟨by rw [qfF, hx5], rfl⟩, (stars_ixn hL 2 rfl [1, 0] (by decide) rfl)⟩)
  · rw [hk5]
    have hle5 := row_len _ 0 hL rfl
    refine e_astore_n 9 (ls' := [some (.ref d), some (.int x), some (.ref a5)]) dX6_queueFault_8 rfl (by decide) rfl ?_
    refine e_aload_n 10 dX6_queueFault_9 rfl rfl ?_
    refine e_ifnonnull 15 dX6_queueFault_10 rfl ?_
    refine e_aload_n 16 dX6_queueFault_15 rfl rfl ?_
    obtain ⟨z16, y16⟩ := row_at _ 0 hL rfl
    refine e_get 19 dX6_queueFault_16 rfl fl_X6_104_4 y16 rfl ?_
    refine e_bipush 21 (v := (nI 31)) dX6_queueFault_19 rfl (by decide) ?_
    refine e_icmp_le 28 24 dX6_queueFault_21 rfl rfl (fun c21 => ?_) (fun c21 => ?_)
    · have k21 := j_le_t (a := (rwM M i5).length) (b := 31) (by omega) (by omega) c21
      refine e_iconst 29 (v := (nI 0)) dX6_queueFault_28 rfl (by decide) ?_
      have hL := hb5 _ _ _ hL
      rw [stM_self hi5] at hL
      have hL : stars [shf (A 10) 4 40 M, pt d (.inr (1, [.int (nI (v 0)), .int (nI (v 1)), .int (nI (v 2)), .ref (A 3), .ref (A 4), .ref (A 5), .ref (A 6), .ref (A 7), .int (nI (v 8)), .ref (A 9), .ref (A 10), .ref (A 11), .ref (A 12), .ref (A 13), .ref (A 14), .ref (A 15), .ref (A 16), .int (nI (v 17)), .int (nI (v 18)), .int (bI df)]))] h := hL
      exact e_iret dX6_queueFault_29 rfl (by omega) (by omega) (⟨_, ⟨by simp only [qfF, hx5]; rw [if_neg (by omega)], rfl⟩, (stars_ixn hL 2 rfl [1, 0] (by decide) rfl)⟩)
    · have k21 := j_le_f (a := (rwM M i5).length) (b := 31) (by omega) (by omega) c21
      refine e_iconst 25 (v := (nI 3)) dX6_queueFault_24 rfl (by decide) ?_
      refine e_goto 29 dX6_queueFault_25 rfl ?_
      have hL := hb5 _ _ _ hL
      rw [stM_self hi5] at hL
      have hL : stars [shf (A 10) 4 40 M, pt d (.inr (1, [.int (nI (v 0)), .int (nI (v 1)), .int (nI (v 2)), .ref (A 3), .ref (A 4), .ref (A 5), .ref (A 6), .ref (A 7), .int (nI (v 8)), .ref (A 9), .ref (A 10), .ref (A 11), .ref (A 12), .ref (A 13), .ref (A 14), .ref (A 15), .ref (A 16), .int (nI (v 17)), .int (nI (v 18)), .int (bI df)]))] h := hL
      exact e_iret dX6_queueFault_29 rfl (by omega) (by omega) (⟨_, ⟨by simp only [qfF, hx5]; rw [if_pos (by omega)], rfl⟩, (stars_ixn hL 2 rfl [1, 0] (by decide) rfl)⟩)
set_option maxRecDepth 20000 in
set_option maxHeartbeats 2000000 in
theorem l_X6_filesFault {d b cb vb : Nat} {A v : Nat → Nat} {df : Bool} {M : List (Nat × List Nat)} {q : List Nat} (hq : ∀ x ∈ q, x < 256) (hvb : vb = 0 ∨ vb = 2) (hl9 : q.length ≤ 300) : ∀ (n : Nat) (p t i : Nat) (h : eH), t < n → p + t = 36 → i ≤ q.length + 140000 → ffF M q vb t i = ffF M q vb 36 2 → stars [pt d (.inr (1, [.int (nI (v 0)), .int (nI (v 1)), .int (nI (v 2)), .ref (A 3), .ref (A 4), .ref (A 5), .ref (A 6), .ref (A 7), .int (nI (v 8)), .ref (A 9), .ref (A 10), .ref (A 11), .ref (A 12), .ref (A 13), .ref (A 14), .ref (A 15), .ref (A 16), .int (nI (v 17)), .int (nI (v 18)), .int (bI df)])), shf (A 9) 4 120 M, row b cb q] h → EE mX6_filesFault 1 24 0 0 (fun r h' => ∃ L', (r = some (.int (nI (ffF M q vb 36 2))) ∧ L' = [dvO d A v df, shf (A 9) 4 120 M, row b cb q]) ∧ stars L' h') 21 [some (.ref d), some (.ref b), some (.int (nI vb)), some (.int (nI i)), some (.int (nI p)), none, none] [] h 0 0 := by
  intro n
  induction n with
  | zero => intro p t i h hlt hpt hi he hL; exact absurd hlt (by omega)
  | succ n ih =>
    intro p t i h hlt hpt hi he hL
    have hw1 := wd_lt (k := i + 1) hq
    have hw3 := wd_lt (k := i + 3) hq
    have hw5 := wd_lt (k := i + 5) hq
    have hg := gd_lt (i := i) hq (by decide)
    refine e_iload 23 dX6_filesFault_21 rfl rfl ?_
    refine e_bipush 25 (v := (nI 36)) dX6_filesFault_23 rfl (by decide) ?_
    refine e_icmp_ge 112 28 dX6_filesFault_25 rfl rfl (fun c25 => ?_) (fun c25 => ?_)
    · have k25 := j_ge_t (a := p) (b := 36) (by omega) (by omega) c25
      refine e_iconst 113 (v := (nI 0)) dX6_filesFault_112 rfl (by decide) ?_
      exact e_iret dX6_filesFault_113 rfl (by omega) (by omega) (⟨_, ⟨by rw [← he]; cases t with | zero => rfl | succ t => rw [ffF, if_neg (by omega)], rfl⟩, hL⟩)
    · have k25 := j_ge_f (a := p) (b := 36) (by omega) (by omega) c25
      refine e_iload_n 29 dX6_filesFault_28 rfl rfl ?_
      refine e_aload_n 30 dX6_filesFault_29 rfl rfl ?_
      obtain ⟨z30, y30⟩ := row_at _ 2 hL rfl
      refine e_get 33 dX6_filesFault_30 rfl fl_X6_104_4 y30 rfl ?_
      refine e_icmp_ge 112 36 dX6_filesFault_33 rfl rfl (fun c33 => ?_) (fun c33 => ?_)
      · have k33 := j_ge_t (a := i) (b := q.length) (by omega) (by omega) c33
        refine e_iconst 113 (v := (nI 0)) dX6_filesFault_112 rfl (by decide) ?_
        exact e_iret dX6_filesFault_113 rfl (by omega) (by omega) (⟨_, ⟨by rw [← he]; cases t with | zero => rfl | succ t => rw [ffF, if_neg (by omega)], rfl⟩, hL⟩)
      · have k33 := j_ge_f (a := i) (b := q.length) (by omega) (by omega) c33
        refine e_aload_n 37 dX6_filesFault_36 rfl rfl ?_
        refine e_get 40 dX6_filesFault_37 rfl fl_X6_107_1 (stars_at _ 0 hL rfl) rfl ?_
        refine e_aload_n 41 dX6_filesFault_40 rfl rfl ?_
        refine e_iload_n 42 dX6_filesFault_41 rfl rfl ?_
        refine e_iconst 43 (v := (nI 1)) dX6_filesFault_42 rfl (by decide) ?_
        refine e_iadd 44 (v := (nI (i + 1))) dX6_filesFault_43 rfl (nI_add i 1) ?_
        refine p_callV 47 hL [2, 0, 1] 3 rfl (by decide) (L1 := [row b cb q]) (L2 := [pt d (.inr (1, [.int (nI (v 0)), .int (nI (v 1)), .int (nI (v 2)), .ref (A 3), .ref (A 4), .ref (A 5), .ref (A 6), .ref (A 7), .int (nI (v 8)), .ref (A 9), .ref (A 10), .ref (A 11), .ref (A 12), .ref (A 13), .ref (A 14), .ref (A 15), .ref (A 16), .int (nI (v 17)), .int (nI (v 18)), .int (bI df)])), shf (A 9) 4 120 M]) rfl row_O 2 rfl dX6_filesFault_44 rfl cv_X6_54 (k_X4_word (by omega)) rfl rfl (Nat.le_of_ble_eq_true rfl) ⟨by decide, by omega, by omega⟩ (fun r1 L1 h q hL => ?_)
        obtain ⟨rfl, rfl⟩ := q
        have hL : stars [row b cb q, pt d (.inr (1, [.int (nI (v 0)), .int (nI (v 1)), .int (nI (v 2)), .ref (A 3), .ref (A 4), .ref (A 5), .ref (A 6), .ref (A 7), .int (nI (v 8)), .ref (A 9), .ref (A 10), .ref (A 11), .ref (A 12), .ref (A 13), .ref (A 14), .ref (A 15), .ref (A 16), .int (nI (v 17)), .int (nI (v 18)), .int (bI df)])), shf (A 9) 4 120 M] h := hL
        have hL : stars [pt d (.inr (1, [.int (nI (v 0)), .int (nI (v 1)), .int (nI (v 2)), .ref (A 3), .ref (A 4), .ref (A 5), .ref (A 6), .ref (A 7), .int (nI (v 8)), .ref (A 9), .ref (A 10), .ref (A 11), .ref (A 12), .ref (A 13), .ref (A 14), .ref (A 15), .ref (A 16), .int (nI (v 17)), .int (nI (v 18)), .int (bI df)])), shf (A 9) 4 120 M, row b cb q] h := stars_ixn hL 3 rfl [1, 2, 0] (by decide) rfl
        have hL : stars [shf (A 9) 4 120 M, pt d (.inr (1, [.int (nI (v 0)), .int (nI (v 1)), .int (nI (v 2)), .ref (A 3), .ref (A 4), .ref (A 5), .ref (A 6), .ref (A 7), .int (nI (v 8)), .ref (A 9), .ref (A 10), .ref (A 11), .ref (A 12), .ref (A 13), .ref (A 14), .ref (A 15), .ref (A 16), .int (nI (v 17)), .int (nI (v 18)), .int (bI df)])), row b cb q] h := stars_ixn hL 3 rfl [1, 0, 2] (by decide) rfl
        obtain ⟨K47, C47, hM47, hL⟩ := shf_o hL
        refine p_callV 50 hL [0, 1, 2, 3] 4 rfl (by decide) (L1 := [shB (A 9) 4 120 K47]) (L2 := [rws 120 K47 C47, pt d (.inr (1, [.int (nI (v 0)), .int (nI (v 1)), .int (nI (v 2)), .ref (A 3), .ref (A 4), .ref (A 5), .ref (A 6), .ref (A 7), .int (nI (v 8)), .ref (A 9), .ref (A 10), .ref (A 11), .ref (A 12), .ref (A 13), .ref (A 14), .ref (A 15), .ref (A 16), .int (nI (v 17)), .int (nI (v 18)), .int (bI df)])), row b cb q]) rfl shB_O 0 rfl dX6_filesFault_47 rfl cv_X6_98 k_X8_find rfl rfl (Nat.le_of_ble_eq_true rfl) ⟨by decide, by omega, by omega⟩ (fun r1 L1 h q hL => ?_)
        obtain ⟨rfl, rfl⟩ := q
        have hL : stars [shB (A 9) 4 120 K47, rws 120 K47 C47, pt d (.inr (1, [.int (nI (v 0)), .int (nI (v 1)), .int (nI (v 2)), .ref (A 3), .ref (A 4), .ref (A 5), .ref (A 6), .ref (A 7), .int (nI (v 8)), .ref (A 9), .ref (A 10), .ref (A 11), .ref (A 12), .ref (A 13), .ref (A 14), .ref (A 15), .ref (A 16), .int (nI (v 17)), .int (nI (v 18)), .int (bI df)])), row b cb q] h := hL
        rcases shf_r (nI (wd q (i + 1))) hM47 hL with ⟨hx47, hk47, hL⟩ | ⟨i47, a47, R47, hx47, hi47, hk47, hL, hb47⟩
        · rw [hk47]
          refine e_astoreN 52 (ls' := [some (.ref d), some (.ref b), some (.int (nI vb)), some (.int (nI i)), some (.int (nI p)), some .null, none]) dX6_filesFault_50 rfl (by decide) rfl ?_
          refine e_aload_n 53 dX6_filesFault_52 rfl rfl ?_
          refine e_iload_n 54 dX6_filesFault_53 rfl rfl ?_
          refine e_iconst 55 (v := (nI 5)) dX6_filesFault_54 rfl (by decide) ?_
          refine e_iadd 56 (v := (nI (i + 5))) dX6_filesFault_55 rfl (nI_add i 5) ?_
          refine p_callV 59 hL [2, 0, 1] 3 rfl (by decide) (L1 := [row b cb q]) (L2 := [shf (A 9) 4 120 M, pt d (.inr (1, [.int (nI (v 0)), .int (nI (v 1)), .int (nI (v 2)), .ref (A 3), .ref (A 4), .ref (A 5), .ref (A 6), .ref (A 7), .int (nI (v 8)), .ref (A 9), .ref (A 10), .ref (A 11), .ref (A 12), .ref (A 13), .ref (A 14), .ref (A 15), .ref (A 16), .int (nI (v 17)), .int (nI (v 18)), .int (bI df)]))]) rfl row_O 2 rfl dX6_filesFault_56 rfl cv_X6_54 (k_X4_word (by omega)) rfl rfl (Nat.le_of_ble_eq_true rfl) ⟨by decide, by omega, by omega⟩ (fun r1 L1 h q hL => ?_)
          obtain ⟨rfl, rfl⟩ := q
          have hL : stars [row b cb q, shf (A 9) 4 120 M, pt d (.inr (1, [.int (nI (v 0)), .int (nI (v 1)), .int (nI (v 2)), .ref (A 3), .ref (A 4), .ref (A 5), .ref (A 6), .ref (A 7), .int (nI (v 8)), .ref (A 9), .ref (A 10), .ref (A 11), .ref (A 12), .ref (A 13), .ref (A 14), .ref (A 15), .ref (A 16), .int (nI (v 17)), .int (nI (v 18)), .int (bI df)]))] h := hL
          have hL : stars [shf (A 9) 4 120 M, pt d (.inr (1, [.int (nI (v 0)), .int (nI (v 1)), .int (nI (v 2)), .ref (A 3), .ref (A 4), .ref (A 5), .ref (A 6), .ref (A 7), .int (nI (v 8)), .ref (A 9), .ref (A 10), .ref (A 11), .ref (A 12), .ref (A 13), .ref (A 14), .ref (A 15), .ref (A 16), .int (nI (v 17)), .int (nI (v 18)), .int (bI df)])), row b cb q] h := stars_ixn hL 3 rfl [1, 2, 0] (by decide) rfl
          refine e_istore 61 (ls' := [some (.ref d), some (.ref b), some (.int (nI vb)), some (.int (nI i)), some (.int (nI p)), some .null, some (.int (nI (wd q (i + 5))))]) dX6_filesFault_59 rfl (by decide) rfl ?_
          refine e_aload_n 62 dX6_filesFault_61 rfl rfl ?_
          refine e_iload_n 63 dX6_filesFault_62 rfl rfl ?_
          refine p_callV 66 hL [2, 0, 1] 3 rfl (by decide) (L1 := [row b cb q]) (L2 := [shf (A 9) 4 120 M, pt d (.inr (1, [.int (nI (v 0)), .int (nI (v 1)), .int (nI (v 2)), .ref (A 3), .ref (A 4), .ref (A 5), .ref (A 6), .ref (A 7), .int (nI (v 8)), .ref (A 9), .ref (A 10), .ref (A 11), .ref (A 12), .ref (A 13), .ref (A 14), .ref (A 15), .ref (A 16), .int (nI (v 17)), .int (nI (v 18)), .int (bI df)]))]) rfl row_O 2 rfl dX6_filesFault_63 rfl cv_X6_36 (k_X4_at (by omega)) rfl rfl (Nat.le_of_ble_eq_true rfl) ⟨by decide, by omega, by omega⟩ (fun r1 L1 h q hL => ?_)
          obtain ⟨rfl, rfl⟩ := q
          have hL : stars [row b cb q, shf (A 9) 4 120 M, pt d (.inr (1, [.int (nI (v 0)), .int (nI (v 1)), .int (nI (v 2)), .ref (A 3), .ref (A 4), .ref (A 5), .ref (A 6), .ref (A 7), .int (nI (v 8)), .ref (A 9), .ref (A 10), .ref (A 11), .ref (A 12), .ref (A 13), .ref (A 14), .ref (A 15), .ref (A 16), .int (nI (v 17)), .int (nI (v 18)), .int (bI df)]))] h := hL
          have hL : stars [shf (A 9) 4 120 M, pt d (.inr (1, [.int (nI (v 0)), .int (nI (v 1)), .int (nI (v 2)), .ref (A 3), .ref (A 4), .ref (A 5), .ref (A 6), .ref (A 7), .int (nI (v 8)), .ref (A 9), .ref (A 10), .ref (A 11), .ref (A 12), .ref (A 13), .ref (A 14), .ref (A 15), .ref (A 16), .int (nI (v 17)), .int (nI (v 18)), .int (bI df)])), row b cb q] h := stars_ixn hL 3 rfl [1, 2, 0] (by decide) rfl
          refine e_bipush 68 (v := (nI 6)) dX6_filesFault_66 rfl (by decide) ?_
          refine e_icmp_ne 94 71 dX6_filesFault_68 rfl rfl (fun c68 => ?_) (fun c68 => ?_)
          · have k68 := j_ne_t (a := (q.getD i 0)) (b := 6) (by omega) (by omega) c68
            have hL : stars [pt d (.inr (1, [.int (nI (v 0)), .int (nI (v 1)), .int (nI (v 2)), .ref (A 3), .ref (A 4), .ref (A 5), .ref (A 6), .ref (A 7), .int (nI (v 8)), .ref (A 9), .ref (A 10), .ref (A 11), .ref (A 12), .ref (A 13), .ref (A 14), .ref (A 15), .ref (A 16), .int (nI (v 17)), .int (nI (v 18)), .int (bI df)])), shf (A 9) 4 120 M, row b cb q] h := stars_ixn hL 3 rfl [1, 0, 2] (by decide) rfl
            refine e_iconst 95 (v := (nI 2)) dX6_filesFault_94 rfl (by decide) ?_
            exact e_iret dX6_filesFault_95 rfl (by omega) (by omega) (⟨_, ⟨by rw [← he, show t = t - 1 + 1 by omega, ffF, if_pos (by omega), if_neg (by rw [fpF_n hx47]; decide)], rfl⟩, hL⟩)
          · have k68 := j_ne_f (a := (q.getD i 0)) (b := 6) (by omega) (by omega) c68
            refine e_aloadN 73 dX6_filesFault_71 rfl rfl ?_
            refine e_ifnullN 94 dX6_filesFault_73 rfl ?_
            have hL : stars [pt d (.inr (1, [.int (nI (v 0)), .int (nI (v 1)), .int (nI (v 2)), .ref (A 3), .ref (A 4), .ref (A 5), .ref (A 6), .ref (A 7), .int (nI (v 8)), .ref (A 9), .ref (A 10), .ref (A 11), .ref (A 12), .ref (A 13), .ref (A 14), .ref (A 15), .ref (A 16), .int (nI (v 17)), .int (nI (v 18)), .int (bI df)])), shf (A 9) 4 120 M, row b cb q] h := stars_ixn hL 3 rfl [1, 0, 2] (by decide) rfl
            refine e_iconst 95 (v := (nI 2)) dX6_filesFault_94 rfl (by decide) ?_
            exact e_iret dX6_filesFault_95 rfl (by omega) (by omega) (⟨_, ⟨by rw [← he, show t = t - 1 + 1 by omega, ffF, if_pos (by omega), if_neg (by rw [fpF_n hx47]; decide)], rfl⟩, hL⟩)
        · rw [hk47]
          have hle47 := row_len _ 0 hL rfl
          refine e_astore 52 (ls' := [some (.ref d), some (.ref b), some (.int (nI vb)), some (.int (nI i)), some (.int (nI p)), some (.ref a47), none]) dX6_filesFault_50 rfl (by decide) rfl ?_
          refine e_aload_n 53 dX6_filesFault_52 rfl rfl ?_
          refine e_iload_n 54 dX6_filesFault_53 rfl rfl ?_
          refine e_iconst 55 (v := (nI 5)) dX6_filesFault_54 rfl (by decide) ?_
          refine e_iadd 56 (v := (nI (i + 5))) dX6_filesFault_55 rfl (nI_add i 5) ?_
          refine p_callV 59 hL [3, 0, 1, 2] 4 rfl (by decide) (L1 := [row b cb q]) (L2 := [row a47 120 (rwM M i47), R47, pt d (.inr (1, [.int (nI (v 0)), .int (nI (v 1)), .int (nI (v 2)), .ref (A 3), .ref (A 4), .ref (A 5), .ref (A 6), .ref (A 7), .int (nI (v 8)), .ref (A 9), .ref (A 10), .ref (A 11), .ref (A 12), .ref (A 13), .ref (A 14), .ref (A 15), .ref (A 16), .int (nI (v 17)), .int (nI (v 18)), .int (bI df)]))]) rfl row_O 3 rfl dX6_filesFault_56 rfl cv_X6_54 (k_X4_word (by omega)) rfl rfl (Nat.le_of_ble_eq_true rfl) ⟨by decide, by omega, by omega⟩ (fun r1 L1 h q hL => ?_)
          obtain ⟨rfl, rfl⟩ := q
          have hL : stars [row b cb q, row a47 120 (rwM M i47), R47, pt d (.inr (1, [.int (nI (v 0)), .int (nI (v 1)), .int (nI (v 2)), .ref (A 3), .ref (A 4), .ref (A 5), .ref (A 6), .ref (A 7), .int (nI (v 8)), .ref (A 9), .ref (A 10), .ref (A 11), .ref (A 12), .ref (A 13), .ref (A 14), .ref (A 15), .ref (A 16), .int (nI (v 17)), .int (nI (v 18)), .int (bI df)]))] h := hL
          have hL : stars [row a47 120 (rwM M i47), R47, pt d (.inr (1, [.int (nI (v 0)), .int (nI (v 1)), .int (nI (v 2)), .ref (A 3), .ref (A 4), .ref (A 5), .ref (A 6), .ref (A 7), .int (nI (v 8)), .ref (A 9), .ref (A 10), .ref (A 11), .ref (A 12), .ref (A 13), .ref (A 14), .ref (A 15), .ref (A 16), .int (nI (v 17)), .int (nI (v 18)), .int (bI df)])), row b cb q] h := stars_ixn hL 4 rfl [1, 2, 3, 0] (by decide) rfl
          refine e_istore 61 (ls' := [some (.ref d), some (.ref b), some (.int (nI vb)), some (.int (nI i)), some (.int (nI p)), some (.ref a47), some (.int (nI (wd q (i + 5))))]) dX6_filesFault_59 rfl (by decide) rfl ?_
          refine e_aload_n 62 dX6_filesFault_61 rfl rfl ?_
          refine e_iload_n 63 dX6_filesFault_62 rfl rfl ?_
          refine p_callV 66 hL [3, 0, 1, 2] 4 rfl (by decide) (L1 := [row b cb q]) (L2 := [row a47 120 (rwM M i47), R47, pt d (.inr (1, [.int (nI (v 0)), .int (nI (v 1)), .int (nI (v 2)), .ref (A 3), .ref (A 4), .ref (A 5), .ref (A 6), .ref (A 7), .int (nI (v 8)), .ref (A 9), .ref (A 10), .ref (A 11), .ref (A 12), .ref (A 13), .ref (A 14), .ref (A 15), .ref (A 16), .int (nI (v 17)), .int (nI (v 18)), .int (bI df)]))]) rfl row_O 3 rfl dX6_filesFault_63 rfl cv_X6_36 (k_X4_at (by omega)) rfl rfl (Nat.le_of_ble_eq_true rfl) ⟨by decide, by omega, by omega⟩ (fun r1 L1 h q hL => ?_)
          obtain ⟨rfl, rfl⟩ := q
          have hL : stars [row b cb q, row a47 120 (rwM M i47), R47, pt d (.inr (1, [.int (nI (v 0)), .int (nI (v 1)), .int (nI (v 2)), .ref (A 3), .ref (A 4), .ref (A 5), .ref (A 6), .ref (A 7), .int (nI (v 8)), .ref (A 9), .ref (A 10), .ref (A 11), .ref (A 12), .ref (A 13), .ref (A 14), .ref (A 15), .ref (A 16), .int (nI (v 17)), .int (nI (v 18)), .int (bI df)]))] h := hL
          have hL : stars [row a47 120 (rwM M i47), R47, pt d (.inr (1, [.int (nI (v 0)), .int (nI (v 1)), .int (nI (v 2)), .ref (A 3), .ref (A 4), .ref (A 5), .ref (A 6), .ref (A 7), .int (nI (v 8)), .ref (A 9), .ref (A 10), .ref (A 11), .ref (A 12), .ref (A 13), .ref (A 14), .ref (A 15), .ref (A 16), .int (nI (v 17)), .int (nI (v 18)), .int (bI df)])), row b cb q] h := stars_ixn hL 4 rfl [1, 2, 3, 0] (by decide) rfl
          refine e_bipush 68 (v := (nI 6)) dX6_filesFault_66 rfl (by decide) ?_
          refine e_icmp_ne 94 71 dX6_filesFault_68 rfl rfl (fun c68 => ?_) (fun c68 => ?_)
          · have k68 := j_ne_t (a := (q.getD i 0)) (b := 6) (by omega) (by omega) c68
            have hL := hb47 _ _ _ hL
            rw [stM_self hi47] at hL
            have hL : stars [shf (A 9) 4 120 M, pt d (.inr (1, [.int (nI (v 0)), .int (nI (v 1)), .int (nI (v 2)), .ref (A 3), .ref (A 4), .ref (A 5), .ref (A 6), .ref (A 7), .int (nI (v 8)), .ref (A 9), .ref (A 10), .ref (A 11), .ref (A 12), .ref (A 13), .ref (A 14), .ref (A 15), .ref (A 16), .int (nI (v 17)), .int (nI (v 18)), .int (bI df)])), row b cb q] h := hL
            have hL : stars [pt d (.inr (1, [.int (nI (v 0)), .int (nI (v 1)), .int (nI (v 2)), .ref (A 3), .ref (A 4), .ref (A 5), .ref (A 6), .ref (A 7), .int (nI (v 8)), .ref (A 9), .ref (A 10), .ref (A 11), .ref (A 12), .ref (A 13), .ref (A 14), .ref (A 15), .ref (A 16), .int (nI (v 17)), .int (nI (v 18)), .int (bI df)])), shf (A 9) 4 120 M, row b cb q] h := stars_ixn hL 3 rfl [1, 0, 2] (by decide) rfl
            refine e_iconst 95 (v := (nI 2)) dX6_filesFault_94 rfl (by decide) ?_
            exact e_iret dX6_filesFault_95 rfl (by omega) (by omega) (⟨_, ⟨by rw [← he, show t = t - 1 + 1 by omega, ffF, if_pos (by omega), if_neg (by rw [fpF_s hx47, decide_eq_true_eq]; omega)], rfl⟩, hL⟩)
          · have k68 := j_ne_f (a := (q.getD i 0)) (b := 6) (by omega) (by omega) c68
            refine e_aload 73 dX6_filesFault_71 rfl rfl ?_
            refine e_ifnull 76 dX6_filesFault_73 rfl ?_
            refine e_aload_n 77 dX6_filesFault_76 rfl rfl ?_
            refine e_iload_n 78 dX6_filesFault_77 rfl rfl ?_
            refine e_iconst 79 (v := (nI 3)) dX6_filesFault_78 rfl (by decide) ?_
            refine e_iadd 80 (v := (nI (i + 3))) dX6_filesFault_79 rfl (nI_add i 3) ?_
            refine p_callV 83 hL [3, 0, 1, 2] 4 rfl (by decide) (L1 := [row b cb q]) (L2 := [row a47 120 (rwM M i47), R47, pt d (.inr (1, [.int (nI (v 0)), .int (nI (v 1)), .int (nI (v 2)), .ref (A 3), .ref (A 4), .ref (A 5), .ref (A 6), .ref (A 7), .int (nI (v 8)), .ref (A 9), .ref (A 10), .ref (A 11), .ref (A 12), .ref (A 13), .ref (A 14), .ref (A 15), .ref (A 16), .int (nI (v 17)), .int (nI (v 18)), .int (bI df)]))]) rfl row_O 3 rfl dX6_filesFault_80 rfl cv_X6_54 (k_X4_word (by omega)) rfl rfl (Nat.le_of_ble_eq_true rfl) ⟨by decide, by omega, by omega⟩ (fun r1 L1 h q hL => ?_)
            obtain ⟨rfl, rfl⟩ := q
            have hL : stars [row b cb q, row a47 120 (rwM M i47), R47, pt d (.inr (1, [.int (nI (v 0)), .int (nI (v 1)), .int (nI (v 2)), .ref (A 3), .ref (A 4), .ref (A 5), .ref (A 6), .ref (A 7), .int (nI (v 8)), .ref (A 9), .ref (A 10), .ref (A 11), .ref (A 12), .ref (A 13), .ref (A 14), .ref (A 15), .ref (A 16), .int (nI (v 17)), .int (nI (v 18)), .int (bI df)]))] h := hL
            have hL : stars [row a47 120 (rwM M i47), R47, pt d (.inr (1, [.int (nI (v 0)), .int (nI (v 1)), .int (nI (v 2)), .ref (A 3), .ref (A 4), .ref (A 5), .ref (A 6), .ref (A 7), .int (nI (v 8)), .ref (A 9), .ref (A 10), .ref (A 11), .ref (A 12), .ref (A 13), .ref (A 14), .ref (A 15), .ref (A 16), .int (nI (v 17)), .int (nI (v 18)), .int (bI df)])), row b cb q] h := stars_ixn hL 4 rfl [1, 2, 3, 0] (by decide) rfl
            refine e_iload 85 dX6_filesFault_83 rfl rfl ?_
            refine e_iadd 86 (v := (nI ((wd q (i + 3)) + (wd q (i + 5))))) dX6_filesFault_85 rfl (nI_add (wd q (i + 3)) (wd q (i + 5))) ?_
            refine e_aload 88 dX6_filesFault_86 rfl rfl ?_
            obtain ⟨z88, y88⟩ := row_at _ 0 hL rfl
            refine e_get 91 dX6_filesFault_88 rfl fl_X6_104_4 y88 rfl ?_
            refine e_icmp_le 96 94 dX6_filesFault_91 rfl rfl (fun c91 => ?_) (fun c91 => ?_)
            · have k91 := j_le_t (a := ((wd q (i + 3)) + (wd q (i + 5)))) (b := (rwM M i47).length) (by omega) (by omega) c91
              refine e_iload_n 97 dX6_filesFault_96 rfl rfl ?_
              refine e_bipush 99 (v := (nI 7)) dX6_filesFault_97 rfl (by decide) ?_
              refine e_iload_n 100 dX6_filesFault_99 rfl rfl ?_
              refine e_iload 102 dX6_filesFault_100 rfl rfl ?_
              refine e_imul 103 (v := (nI (vb * (wd q (i + 5))))) dX6_filesFault_102 rfl (pk_mul vb (wd q (i + 5))) ?_
              refine e_iadd 104 (v := (nI (7 + (vb * (wd q (i + 5)))))) dX6_filesFault_103 rfl (nI_add 7 (vb * (wd q (i + 5)))) ?_
              refine e_iadd 105 (v := (nI (i + (7 + (vb * (wd q (i + 5))))))) dX6_filesFault_104 rfl (nI_add i (7 + (vb * (wd q (i + 5))))) ?_
              refine e_istore_n 106 (ls' := [some (.ref d), some (.ref b), some (.int (nI vb)), some (.int (nI (i + (7 + (vb * (wd q (i + 5))))))), some (.int (nI p)), some (.ref a47), some (.int (nI (wd q (i + 5))))]) dX6_filesFault_105 rfl (by decide) rfl ?_
              refine e_iinc 109 (v := (nI (p + 1))) (ls' := [some (.ref d), some (.ref b), some (.int (nI vb)), some (.int (nI (i + (7 + (vb * (wd q (i + 5))))))), some (.int (nI (p + 1))), some (.ref a47), some (.int (nI (wd q (i + 5))))]) dX6_filesFault_106 rfl rfl (nI_add p 1) (by decide) rfl ?_
              refine e_goto 21 dX6_filesFault_109 rfl ?_
              have hL := hb47 _ _ _ hL
              rw [stM_self hi47] at hL
              have hL : stars [shf (A 9) 4 120 M, pt d (.inr (1, [.int (nI (v 0)), .int (nI (v 1)), .int (nI (v 2)), .ref (A 3), .ref (A 4), .ref (A 5), .ref (A 6), .ref (A 7), .int (nI (v 8)), .ref (A 9), .ref (A 10), .ref (A 11), .ref (A 12), .ref (A 13), .ref (A 14), .ref (A 15), .ref (A 16), .int (nI (v 17)), .int (nI (v 18)), .int (bI df)])), row b cb q] h := hL
              have hL : stars [pt d (.inr (1, [.int (nI (v 0)), .int (nI (v 1)), .int (nI (v 2)), .ref (A 3), .ref (A 4), .ref (A 5), .ref (A 6), .ref (A 7), .int (nI (v 8)), .ref (A 9), .ref (A 10), .ref (A 11), .ref (A 12), .ref (A 13), .ref (A 14), .ref (A 15), .ref (A 16), .int (nI (v 17)), .int (nI (v 18)), .int (bI df)])), shf (A 9) 4 120 M, row b cb q] h := stars_ixn hL 3 rfl [1, 0, 2] (by decide) rfl
              obtain ⟨t, rfl⟩ : ∃ t1, t = t1 + 1 := ⟨t - 1, by omega⟩
              refine e_wk [some (.ref d), some (.ref b), some (.int (nI vb)), some (.int (nI (i + (7 + vb * wd q (i + 5))))), some (.int (nI (p + 1))), none, none] ⟨rfl, rfl, rfl, rfl, rfl, trivial⟩ ?_
              exact ih (p + 1) t (i + (7 + vb * wd q (i + 5))) h (by omega) (by omega) (by rcases hvb with z | z <;> subst z <;> omega) (by rw [← he, ffF, if_pos (by omega), if_pos (by rw [fpF_s hx47, decide_eq_true_eq]; omega)]) hL
            · have k91 := j_le_f (a := ((wd q (i + 3)) + (wd q (i + 5)))) (b := (rwM M i47).length) (by omega) (by omega) c91
              have hL := hb47 _ _ _ hL
              rw [stM_self hi47] at hL
              have hL : stars [shf (A 9) 4 120 M, pt d (.inr (1, [.int (nI (v 0)), .int (nI (v 1)), .int (nI (v 2)), .ref (A 3), .ref (A 4), .ref (A 5), .ref (A 6), .ref (A 7), .int (nI (v 8)), .ref (A 9), .ref (A 10), .ref (A 11), .ref (A 12), .ref (A 13), .ref (A 14), .ref (A 15), .ref (A 16), .int (nI (v 17)), .int (nI (v 18)), .int (bI df)])), row b cb q] h := hL
              have hL : stars [pt d (.inr (1, [.int (nI (v 0)), .int (nI (v 1)), .int (nI (v 2)), .ref (A 3), .ref (A 4), .ref (A 5), .ref (A 6), .ref (A 7), .int (nI (v 8)), .ref (A 9), .ref (A 10), .ref (A 11), .ref (A 12), .ref (A 13), .ref (A 14), .ref (A 15), .ref (A 16), .int (nI (v 17)), .int (nI (v 18)), .int (bI df)])), shf (A 9) 4 120 M, row b cb q] h := stars_ixn hL 3 rfl [1, 0, 2] (by decide) rfl
              refine e_iconst 95 (v := (nI 2)) dX6_filesFault_94 rfl (by decide) ?_
              exact e_iret dX6_filesFault_95 rfl (by omega) (by omega) (⟨_, ⟨by rw [← he, show t = t - 1 + 1 by omega, ffF, if_pos (by omega), if_neg (by rw [fpF_s hx47, decide_eq_true_eq]; omega)], rfl⟩, hL⟩)
set_option maxRecDepth 20000 in
set_option maxHeartbeats 2000000 in
/-- filesFault(device, q) -/
theorem k_X6_filesFault {d b : Nat} {A v : Nat → Nat} {df : Bool} {M : List (Nat × List Nat)} {q : List Nat} {cb : Nat} (hq : ∀ x ∈ q, x < 256) (hl9 : q.length ≤ 300) : CA mX6_filesFault [.ref d, .ref b] [dvO d A v df, shf (A 9) 4 120 M, row b cb q] (fun r L => r = some (.int (nI (ffF M q (if q.getD 0 0 = 21 then 2 else 0) 36 2))) ∧ L = [dvO d A v df, shf (A 9) 4 120 M, row b cb q]) 1 24 0 0 := by
  refine CA.mk 5 (ls := [some (.ref d), some (.ref b), none, none, none, none, none]) rfl rfl (Nat.le_of_ble_eq_true rfl) rfl (fun h hL => ?_)
  have g0 := gd_lt (i := 0) hq (by decide)
  refine e_aload_n 1 dX6_filesFault_0 rfl rfl ?_
  refine e_iconst 2 (v := (nI 0)) dX6_filesFault_1 rfl (by decide) ?_
  refine p_callV 5 hL [2, 0, 1] 3 rfl (by decide) (L1 := [row b cb q]) (L2 := [pt d (.inr (1, [.int (nI (v 0)), .int (nI (v 1)), .int (nI (v 2)), .ref (A 3), .ref (A 4), .ref (A 5), .ref (A 6), .ref (A 7), .int (nI (v 8)), .ref (A 9), .ref (A 10), .ref (A 11), .ref (A 12), .ref (A 13), .ref (A 14), .ref (A 15), .ref (A 16), .int (nI (v 17)), .int (nI (v 18)), .int (bI df)])), shf (A 9) 4 120 M]) rfl row_O 2 rfl dX6_filesFault_2 rfl cv_X6_36 (k_X4_at (by omega)) rfl rfl (Nat.le_of_ble_eq_true rfl) ⟨by decide, by omega, by omega⟩ (fun r1 L1 h q hL => ?_)
  obtain ⟨rfl, rfl⟩ := q
  have hL : stars [row b cb q, pt d (.inr (1, [.int (nI (v 0)), .int (nI (v 1)), .int (nI (v 2)), .ref (A 3), .ref (A 4), .ref (A 5), .ref (A 6), .ref (A 7), .int (nI (v 8)), .ref (A 9), .ref (A 10), .ref (A 11), .ref (A 12), .ref (A 13), .ref (A 14), .ref (A 15), .ref (A 16), .int (nI (v 17)), .int (nI (v 18)), .int (bI df)])), shf (A 9) 4 120 M] h := hL
  have hL : stars [pt d (.inr (1, [.int (nI (v 0)), .int (nI (v 1)), .int (nI (v 2)), .ref (A 3), .ref (A 4), .ref (A 5), .ref (A 6), .ref (A 7), .int (nI (v 8)), .ref (A 9), .ref (A 10), .ref (A 11), .ref (A 12), .ref (A 13), .ref (A 14), .ref (A 15), .ref (A 16), .int (nI (v 17)), .int (nI (v 18)), .int (bI df)])), shf (A 9) 4 120 M, row b cb q] h := stars_ixn hL 3 rfl [1, 2, 0] (by decide) rfl
  refine e_bipush 7 (v := (nI 21)) dX6_filesFault_5 rfl (by decide) ?_
  refine e_icmp_ne 14 10 dX6_filesFault_7 rfl rfl (fun c7 => ?_) (fun c7 => ?_)
  · have k7 := j_ne_t (a := (q.getD 0 0)) (b := 21) (by omega) (by omega) c7
    refine e_iconst 15 (v := (nI 0)) dX6_filesFault_14 rfl (by decide) ?_
    refine e_istore_n 16 (ls' := [some (.ref d), some (.ref b), some (.int (nI 0)), none, none, none, none]) dX6_filesFault_15 rfl (by decide) rfl ?_
    refine e_iconst 17 (v := (nI 2)) dX6_filesFault_16 rfl (by decide) ?_
    refine e_istore_n 18 (ls' := [some (.ref d), some (.ref b), some (.int (nI 0)), some (.int (nI 2)), none, none, none]) dX6_filesFault_17 rfl (by decide) rfl ?_
    refine e_iconst 19 (v := (nI 0)) dX6_filesFault_18 rfl (by decide) ?_
    refine e_istore 21 (ls' := [some (.ref d), some (.ref b), some (.int (nI 0)), some (.int (nI 2)), some (.int (nI 0)), none, none]) dX6_filesFault_19 rfl (by decide) rfl ?_
    have hq9 : (if q.getD 0 0 = 21 then 2 else 0) = 0 := if_neg (by omega)
    rw [hq9]
    exact l_X6_filesFault hq (by omega) (by omega) 37 0 36 2 h (by omega) (by omega) (by omega) rfl hL
  · have k7 := j_ne_f (a := (q.getD 0 0)) (b := 21) (by omega) (by omega) c7
    refine e_iconst 11 (v := (nI 2)) dX6_filesFault_10 rfl (by decide) ?_
    refine e_goto 15 dX6_filesFault_11 rfl ?_
    refine e_istore_n 16 (ls' := [some (.ref d), some (.ref b), some (.int (nI 2)), none, none, none, none]) dX6_filesFault_15 rfl (by decide) rfl ?_
    refine e_iconst 17 (v := (nI 2)) dX6_filesFault_16 rfl (by decide) ?_
    refine e_istore_n 18 (ls' := [some (.ref d), some (.ref b), some (.int (nI 2)), some (.int (nI 2)), none, none, none]) dX6_filesFault_17 rfl (by decide) rfl ?_
    refine e_iconst 19 (v := (nI 0)) dX6_filesFault_18 rfl (by decide) ?_
    refine e_istore 21 (ls' := [some (.ref d), some (.ref b), some (.int (nI 2)), some (.int (nI 2)), some (.int (nI 0)), none, none]) dX6_filesFault_19 rfl (by decide) rfl ?_
    have hq9 : (if q.getD 0 0 = 21 then 2 else 0) = 2 := if_pos (by omega)
    rw [hq9]
    exact l_X6_filesFault hq (by omega) (by omega) 37 0 36 2 h (by omega) (by omega) (by omega) rfl hL
