theorem sw_nat {x : Int32} {lo hi : Int} (hlo : 0 ≤ lo) (h : ¬ (x.toInt < lo ∨ hi < x.toInt)) : ∃ k : Nat, x = nI k ∧ (lo ≤ (k : Int) ∧ (k : Int) ≤ hi) ∧ k < 2 ^ 31 := by
  have h0 : ¬ x < 0 := by
    intro z
    rw [Int32.lt_iff_toInt_lt] at z
    have : (0 : Int32).toInt = 0 := rfl
    omega
  obtain ⟨k, hk, rfl⟩ := nI_of h0
  rw [nI_toInt hk] at h
  exact ⟨k, rfl, by omega, hk⟩
/-- which bank is of a kind -/
def bokA (A : Nat → Nat) (x : Int32) : Option Nat := if x.toInt < 0 ∨ 3 < x.toInt then none else some (A (3 + x.toNatClampNeg))
theorem bok_in {A : Nat → Nat} {k : Nat} (h : k ≤ 3) : bokA A (nI k) = some (A (3 + k)) := by
  unfold bokA
  rw [if_neg (by rw [nI_toInt (by omega)]; omega), nI_clamp (by omega)]
set_option maxRecDepth 20000 in
set_option maxHeartbeats 2000000 in
/-- bankOfKind(kind) -/
theorem k_X1_bankOfKind {d : Nat} {A v : Nat → Nat} {df : Bool} {x : Int32} : CA mX1_bankOfKind [.ref d, .int x] [dvO d A v df] (fun r L => r = some (va_rf (bokA A x)) ∧ L = [dvO d A v df]) 0 0 0 0 := by
  refine CA.mk 0 (ls := [some (.ref d), some (.int x)]) rfl rfl (Nat.le_of_ble_eq_true rfl) rfl (fun h hL => ?_)
  refine e_iload_n 1 dX1_bankOfKind_0 rfl rfl ?_
  by_cases hx1 : x.toInt < 0 ∨ 3 < x.toInt
  · refine e_tableOut 52 dX1_bankOfKind_1 hx1 rfl ?_
    refine e_null 53 dX1_bankOfKind_52 rfl ?_
    exact e_aret dX1_bankOfKind_53 rfl (Or.inl rfl) (by omega) (by omega) (⟨_, ⟨by rw [bokA, if_pos hx1]; rfl, rfl⟩, hL⟩)
  · obtain ⟨n1, e1, r1, t1⟩ := sw_nat (by decide) hx1
    subst e1
    rcases (show (n1 = 0) ∨ (n1 = 1) ∨ (n1 = 2) ∨ (n1 = 3) by omega) with s1 | s1 | s1 | s1
    · refine e_tableIn 32 (off := 31) dX1_bankOfKind_1 (by rw [nI_toInt (by omega)]; omega) (by rw [nI_toInt (by omega)]; omega) (by rw [s1]; decide) rfl ?_
      refine e_aload_n 33 dX1_bankOfKind_32 rfl rfl ?_
      refine e_get 36 dX1_bankOfKind_33 rfl fl_X1_26_1 (stars_at _ 0 hL rfl) rfl ?_
      exact e_aret dX1_bankOfKind_36 rfl (Or.inr ⟨_, rfl⟩) (by omega) (by omega) (⟨_, ⟨by rw [bok_in (by omega), s1]; rfl, rfl⟩, hL⟩)
    · refine e_tableIn 37 (off := 36) dX1_bankOfKind_1 (by rw [nI_toInt (by omega)]; omega) (by rw [nI_toInt (by omega)]; omega) (by rw [s1]; decide) rfl ?_
      refine e_aload_n 38 dX1_bankOfKind_37 rfl rfl ?_
      refine e_get 41 dX1_bankOfKind_38 rfl fl_X1_30_1 (stars_at _ 0 hL rfl) rfl ?_
      exact e_aret dX1_bankOfKind_41 rfl (Or.inr ⟨_, rfl⟩) (by omega) (by omega) (⟨_, ⟨by rw [bok_in (by omega), s1]; rfl, rfl⟩, hL⟩)
    · refine e_tableIn 42 (off := 41) dX1_bankOfKind_1 (by rw [nI_toInt (by omega)]; omega) (by rw [nI_toInt (by omega)]; omega) (by rw [s1]; decide) rfl ?_
      refine e_aload_n 43 dX1_bankOfKind_42 rfl rfl ?_
      refine e_get 46 dX1_bankOfKind_43 rfl fl_X1_34_1 (stars_at _ 0 hL rfl) rfl ?_
      exact e_aret dX1_bankOfKind_46 rfl (Or.inr ⟨_, rfl⟩) (by omega) (by omega) (⟨_, ⟨by rw [bok_in (by omega), s1]; rfl, rfl⟩, hL⟩)
    · refine e_tableIn 47 (off := 46) dX1_bankOfKind_1 (by rw [nI_toInt (by omega)]; omega) (by rw [nI_toInt (by omega)]; omega) (by rw [s1]; decide) rfl ?_
      refine e_aload_n 48 dX1_bankOfKind_47 rfl rfl ?_
      refine e_get 51 dX1_bankOfKind_48 rfl fl_X1_37_1 (stars_at _ 0 hL rfl) rfl ?_
      exact e_aret dX1_bankOfKind_51 rfl (Or.inr ⟨_, rfl⟩) (by omega) (by omega) (⟨_, ⟨by rw [bok_in (by omega), s1]; rfl, rfl⟩, hL⟩)
/-- the rows of a shelf, their contents by address -/
def rws (rm : Nat) (K : List (Nat × Nat)) (C : Nat → List Nat) : sA := fun h => stars (K.map (fun e => row e.2 rm (C e.2))) h
def upC (C : Nat → List Nat) (a : Nat) (r : List Nat) : Nat → List Nat := fun b => if b = a then r else C b
theorem row_ne {a b ca cb : Nat} {r q : List Nat} {h1 h2 : eH} (ha : row a ca r h1) (hb : row b cb q h2) (hj : e_dj h1 h2) : a ≠ b := by
  obtain ⟨c, ⟨f, h3, -⟩, -⟩ := ha
  obtain ⟨c', ⟨f', h4, -⟩, -⟩ := hb
  intro e
  subst e
  rcases hj a with z | z
  · rw [h3] at z; cases z
  · rw [h4] at z; cases z
theorem rws_out : ∀ (K : List (Nat × Nat)) {rm a cap : Nat} {C : Nat → List Nat} {r r' : List Nat} {h : eH}, star (row a cap r) (stars (K.map (fun e => row e.2 rm (C e.2)))) h → K.map (fun e => row e.2 rm (upC C a r' e.2)) = K.map (fun e => row e.2 rm (C e.2))
  | [], _, _, _, _, _, _, _, _ => rfl
  | e :: K, rm, a, cap, C, r, r', h, k => by
    obtain ⟨h1, h2, hu, hj, p, h3, h4, hu2, hj2, q, q2⟩ := k
    subst hu2
    have hd := e_dj_un'.mp hj
    have n1 : e.2 ≠ a := fun z => row_ne p q hd.1 z.symm
    rw [List.map_cons, List.map_cons, rws_out K (r := r) (cap := cap) ⟨h1, h4, rfl, hd.2, p, q2⟩]
    congr 1
    rw [upC, if_neg n1]
/-- one row of a shelf, and the others beside it -/
theorem rws_get : ∀ (K : List (Nat × Nat)) {rm a : Nat} {C : Nat → List Nat} {L : List sA} {h : eH}, (∃ k, (k, a) ∈ K) → stars (rws rm K C :: L) h → ∃ R : sA, stars (row a rm (C a) :: R :: L) h ∧ ∀ (r' : List Nat) (L' : List sA) (h' : eH), stars (row a rm r' :: R :: L') h' → stars (rws rm K (upC C a r') :: L') h' := by
  intro K rm a C L h hm k
  obtain ⟨k0, hm⟩ := hm
  obtain ⟨K1, K2, rfl⟩ := List.append_of_mem hm
  refine ⟨stars ((K1 ++ K2).map (fun e => row e.2 rm (C e.2))), ?_, ?_⟩
  · have p : ((K1 ++ (k0, a) :: K2).map (fun e => row e.2 rm (C e.2))).Perm (row a rm (C a) :: (K1 ++ K2).map (fun e => row e.2 rm (C e.2))) := by
      simp only [List.map_append, List.map_cons]
      exact List.perm_middle
    have k2 : star (stars ((K1 ++ (k0, a) :: K2).map (fun e => row e.2 rm (C e.2)))) (stars L) h := k
    have k3 := star_mono k2 (fun _ z => stars_perm p z) (fun _ z => z)
    exact star_assoc' k3
  · intro r' L' h' k'
    have k2 : star (star (row a rm r') (stars ((K1 ++ K2).map (fun e => row e.2 rm (C e.2))))) (stars L') h' := star_assoc k'
    obtain ⟨h1, h2, hu, hj, q1, q2⟩ := k2
    refine ⟨h1, h2, hu, hj, ?_, q2⟩
    have e := rws_out (K1 ++ K2) (r' := r') q1
    have p : (row a rm r' :: (K1 ++ K2).map (fun e => row e.2 rm (C e.2))).Perm ((K1 ++ (k0, a) :: K2).map (fun e => row e.2 rm (upC C a r' e.2))) := by
      rw [← e]
      simp only [List.map_append, List.map_cons]
      rw [show upC C a r' a = r' from if_pos rfl]
      exact List.perm_middle.symm
    exact stars_perm p q1
theorem lkS_mem {K : List (Nat × Nat)} {x : Int32} {a : Nat} (h : lkS K x = some a) : ∃ k, (k, a) ∈ K := by
  unfold lkS at h
  rw [Option.map_eq_some_iff] at h
  obtain ⟨e, h1, rfl⟩ := h
  exact ⟨e.1, List.mem_of_find?_eq_some h1⟩
/-- a value comes into a queue -/
def poC (K : List (Nat × Nat)) (C : Nat → List Nat) (x t : Nat) : Nat → List Nat := match lkS K (nI t) with
  | none => C
  | some a => upC C a (lat 40 (C a) x)
set_option maxRecDepth 20000 in
set_option maxHeartbeats 2000000 in
/-- pour(v, at) -/
theorem k_X1_pour {d x t : Nat} {A v : Nat → Nat} {df : Bool} {K : List (Nat × Nat)} {C : Nat → List Nat} : CA mX1_pour [.ref d, .int (nI x), .int (nI t)] [dvO d A v df, shB (A 10) 4 40 K, rws 40 K C] (fun r L => r = none ∧ L = [dvO d A v df, shB (A 10) 4 40 K, rws 40 K (poC K C x t)]) 1 22 0 0 := by
  refine CA.mk 1 (ls := [some (.ref d), some (.int (nI x)), some (.int (nI t)), none]) rfl rfl (Nat.le_of_ble_eq_true rfl) rfl (fun h hL => ?_)
  refine e_aload_n 1 dX1_pour_0 rfl rfl ?_
  refine e_get 4 dX1_pour_1 rfl fl_X1_53_1 (stars_at _ 0 hL rfl) rfl ?_
  refine e_iload_n 5 dX1_pour_4 rfl rfl ?_
  refine p_callV 8 hL [1, 0, 2] 3 rfl (by decide) (L1 := [shB (A 10) 4 40 K]) (L2 := [pt d (.inr (1, [.int (nI (v 0)), .int (nI (v 1)), .int (nI (v 2)), .ref (A 3), .ref (A 4), .ref (A 5), .ref (A 6), .ref (A 7), .int (nI (v 8)), .ref (A 9), .ref (A 10), .ref (A 11), .ref (A 12), .ref (A 13), .ref (A 14), .ref (A 15), .ref (A 16), .int (nI (v 17)), .int (nI (v 18)), .int (bI df)])), rws 40 K C]) rfl shB_O 1 rfl dX1_pour_5 rfl cv_X1_158 k_X8_find rfl rfl (Nat.le_of_ble_eq_true rfl) ⟨by decide, by omega, by omega⟩ (fun r1 L1 h q hL => ?_)
  obtain ⟨rfl, rfl⟩ := q
  have hL : stars [shB (A 10) 4 40 K, pt d (.inr (1, [.int (nI (v 0)), .int (nI (v 1)), .int (nI (v 2)), .ref (A 3), .ref (A 4), .ref (A 5), .ref (A 6), .ref (A 7), .int (nI (v 8)), .ref (A 9), .ref (A 10), .ref (A 11), .ref (A 12), .ref (A 13), .ref (A 14), .ref (A 15), .ref (A 16), .int (nI (v 17)), .int (nI (v 18)), .int (bI df)])), rws 40 K C] h := hL
  cases hlk : lkS K (nI t) with
  | none =>
    refine e_astore_nN 9 (ls' := [some (.ref d), some (.int (nI x)), some (.int (nI t)), some .null]) dX1_pour_8 rfl (by decide) rfl ?_
    refine e_aload_nN 10 dX1_pour_9 rfl rfl ?_
    refine e_ifnullN 18 dX1_pour_10 rfl ?_
    exact e_vret dX1_pour_18 rfl (by omega) (by omega) (⟨_, ⟨rfl, rfl⟩, by rw [poC, hlk]; exact stars_ix hL [1, 0, 2] rfl rfl⟩)
  | some a =>
    obtain ⟨R, hL, hback⟩ := rws_get K (lkS_mem hlk) (stars_ix (L' := [rws 40 K C, shB (A 10) 4 40 K, dvO d A v df]) hL [2, 0, 1] rfl rfl)
    refine e_astore_n 9 (ls' := [some (.ref d), some (.int (nI x)), some (.int (nI t)), some (.ref a)]) dX1_pour_8 rfl (by decide) rfl ?_
    refine e_aload_n 10 dX1_pour_9 rfl rfl ?_
    refine e_ifnull 13 dX1_pour_10 rfl ?_
    refine e_aload_n 14 dX1_pour_13 rfl rfl ?_
    refine e_iload_n 15 dX1_pour_14 rfl rfl ?_
    refine p_callV 18 hL [0, 1, 2, 3] 4 rfl (by decide) (L1 := [row a 40 (C a)]) (L2 := [R, shB (A 10) 4 40 K, pt d (.inr (1, [.int (nI (v 0)), .int (nI (v 1)), .int (nI (v 2)), .ref (A 3), .ref (A 4), .ref (A 5), .ref (A 6), .ref (A 7), .int (nI (v 8)), .ref (A 9), .ref (A 10), .ref (A 11), .ref (A 12), .ref (A 13), .ref (A 14), .ref (A 15), .ref (A 16), .int (nI (v 17)), .int (nI (v 18)), .int (bI df)]))]) rfl row_O 0 rfl dX1_pour_15 rfl cv_X1_110 k_X4_addLatest rfl rfl (Nat.le_of_ble_eq_true rfl) ⟨by decide, by omega, by omega⟩ (fun r1 L1 h q hL => ?_)
    obtain ⟨rfl, rfl⟩ := q
    have hL : stars [row a 40 (lat 40 (C a) x), R, shB (A 10) 4 40 K, pt d (.inr (1, [.int (nI (v 0)), .int (nI (v 1)), .int (nI (v 2)), .ref (A 3), .ref (A 4), .ref (A 5), .ref (A 6), .ref (A 7), .int (nI (v 8)), .ref (A 9), .ref (A 10), .ref (A 11), .ref (A 12), .ref (A 13), .ref (A 14), .ref (A 15), .ref (A 16), .int (nI (v 17)), .int (nI (v 18)), .int (bI df)]))] h := hL
    exact e_vret dX1_pour_18 rfl (by omega) (by omega) (⟨_, ⟨rfl, rfl⟩, by rw [poC, hlk]; exact stars_ix (hback _ _ _ hL) [2, 1, 0] rfl rfl⟩)
