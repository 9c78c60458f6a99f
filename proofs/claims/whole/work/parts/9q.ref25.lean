/-! the reference: rows -/
set_option maxRecDepth 20000 in
set_option maxHeartbeats 2000000 in
theorem l_X13_adds {a b N nm bn t c : Nat} {E : List EN} {src : List Nat} (hE : E.length < N) (hn : N < 100) (hc : c ≤ 253) (ht : t + c ≤ src.length) (hbn : bn < 100000) {A : Nat → Nat} {b0 : Nat} {R0 : sA} (hR : ∀ h, R0 h → grP (A 0) N E.length b0 h) (hC : ∀ (r' : List Nat) (K' : List sA) (h' : eH), stars (iar b0 256 r' :: R0 :: K') h' → stars (grd (A 0) N 256 (upL (rE1 E) E.length r') :: K') h') : ∀ (n : Nat) (i : Nat) (h : eH), c - i < n → i ≤ c → stars [iar b0 256 (pf src t i), R0, pt a (.inr (11, [.ref (A 0), .ref (A 1), .ref (A 2), .int (nI E.length)])), iar (A 1) N (rZ E), grd (A 2) N nm (rE2 E), iar b bn src] h → EE mX13_adds 0 0 0 0 (fun x9 h' => ∃ K, (x9 = some (.int (nI E.length)) ∧ K = [rrw a N nm (E ++ [(pf src t c, [])]), iar b bn src]) ∧ stars K h') 3 [some (.ref a), some (.ref b), some (.int (nI t)), some (.int (nI c)), some (.int (nI i))] [] h 0 0 := by
  intro n
  induction n with
  | zero => intro i h hlt hle hL; exact absurd hlt (by omega)
  | succ n ih =>
    intro i h hlt hle hL
    have hle9 := (iar_V _ 5 hL rfl).le
    refine e_iload 5 dX13_adds_3 rfl rfl ?_
    refine e_iload_n 6 dX13_adds_5 rfl rfl ?_
    refine e_icmp_ge 33 9 dX13_adds_6 rfl rfl (fun c6 => ?_) (fun c6 => ?_)
    · have k6 := j_ge_t (a := i) (b := c) (by omega) (by omega) c6
      have e9 : i = c := by omega
      rw [e9] at hL
      have hL : stars [iar b0 256 (pf src t c), R0, pt a (.inr (11, [.ref (A 0), .ref (A 1), .ref (A 2), .int (nI E.length)])), iar (A 1) N (rZ E), grd (A 2) N nm (rE2 E), iar b bn src] h := hL
      have hL := hC _ _ _ hL
      have hL : stars [grd (A 0) N 256 (upL (rE1 E) E.length (pf src t c)), pt a (.inr (11, [.ref (A 0), .ref (A 1), .ref (A 2), .int (nI E.length)])), iar (A 1) N (rZ E), grd (A 2) N nm (rE2 E), iar b bn src] h := hL
      refine e_aload_n 34 dX13_adds_33 rfl rfl ?_
      refine e_get 37 dX13_adds_34 rfl fl_X13_14_11 (stars_at _ 1 hL rfl) rfl ?_
      refine e_aload_n 38 dX13_adds_37 rfl rfl ?_
      refine e_get 41 dX13_adds_38 rfl fl_X13_21_11 (stars_at _ 1 hL rfl) rfl ?_
      refine e_iload_n 42 dX13_adds_41 rfl rfl ?_
      refine p_iastR 43 hL 2 (r := (rZ E)) (r' := (rZ E ++ [(pf src t c).length])) (k := E.length) (v := c) (L' := [grd (A 0) N 256 (upL (rE1 E) E.length (pf src t c)), pt a (.inr (11, [.ref (A 0), .ref (A 1), .ref (A 2), .int (nI E.length)])), iar (A 1) N (rZ E ++ [(pf src t c).length]), grd (A 2) N nm (rE2 E), iar b bn src]) rfl dX13_adds_42 rfl (by omega) (by omega) (by rw [pf_len]; exact iw_ap rZ_len.symm (by rw [rZ_len]; omega)) rfl (fun h hL => ?_)
      refine e_aload_n 44 dX13_adds_43 rfl rfl ?_
      refine e_dup 45 dX13_adds_44 rfl rfl ?_
      refine e_get 48 dX13_adds_45 rfl fl_X13_21_11 (stars_at _ 1 hL rfl) rfl ?_
      refine e_iconst 49 (v := (nI 1)) dX13_adds_48 rfl (by decide) ?_
      refine e_iadd 50 (v := (nI (E.length + 1))) dX13_adds_49 rfl (nI_add E.length 1) ?_
      refine p_put 53 hL 1 (fs' := [.ref (A 0), .ref (A 1), .ref (A 2), .int (nI (E.length + 1))]) (L' := [grd (A 0) N 256 (upL (rE1 E) E.length (pf src t c)), pt a (.inr (11, [.ref (A 0), .ref (A 1), .ref (A 2), .int (nI (E.length + 1))])), iar (A 1) N (rZ E ++ [(pf src t c).length]), grd (A 2) N nm (rE2 E), iar b bn src]) rfl rfl dX13_adds_50 rfl fp_X13_21_11 (Or.inl rfl) (Nat.le_of_ble_eq_true rfl) rfl rfl rfl (fun h hL => ?_)
      refine e_aload_n 54 dX13_adds_53 rfl rfl ?_
      refine e_get 57 dX13_adds_54 rfl fl_X13_21_11 (stars_at _ 1 hL rfl) rfl ?_
      refine e_iconst 58 (v := (nI 1)) dX13_adds_57 rfl (by decide) ?_
      refine e_isub 59 (v := (nI E.length)) dX13_adds_58 rfl (by rw [pk_sub (by omega), Nat.add_sub_cancel]) ?_
      exact e_iret dX13_adds_59 rfl (by omega) (by omega) (⟨_, ⟨rfl, rfl⟩, rrw_add hE (stars_ixn hL 5 rfl [1, 0, 2, 3, 4] (by decide) rfl)⟩)
    · have k6 := j_ge_f (a := i) (b := c) (by omega) (by omega) c6
      refine e_aload_n 10 dX13_adds_9 rfl rfl ?_
      refine e_get 13 dX13_adds_10 rfl fl_X13_9_11 (stars_at _ 2 hL rfl) rfl ?_
      refine e_aload_n 14 dX13_adds_13 rfl rfl ?_
      refine e_get 17 dX13_adds_14 rfl fl_X13_21_11 (stars_at _ 2 hL rfl) rfl ?_
      refine v_aaldP 18 (grP_V _ 1 hL rfl hR) dX13_adds_17 rfl (by omega) (by omega) ?_
      refine e_iload 20 dX13_adds_18 rfl rfl ?_
      refine e_aload_n 21 dX13_adds_20 rfl rfl ?_
      refine e_iload_n 22 dX13_adds_21 rfl rfl ?_
      refine e_iload 24 dX13_adds_22 rfl rfl ?_
      refine e_iadd 25 (v := (nI (t + i))) dX13_adds_24 rfl (nI_add t i) ?_
      refine v_iald 26 (r := src) (iar_V _ 5 hL rfl) (k := (t + i)) (x := (src.getD (t + i) 0)) dX13_adds_25 rfl (by omega) (by omega) rfl ?_
      refine p_iastR 27 hL 0 (r := (pf src t i)) (r' := (pf src t (i + 1))) (k := i) (v := (src.getD (t + i) 0)) (L' := [iar b0 256 (pf src t (i + 1)), R0, pt a (.inr (11, [.ref (A 0), .ref (A 1), .ref (A 2), .int (nI E.length)])), iar (A 1) N (rZ E), grd (A 2) N nm (rE2 E), iar b bn src]) rfl dX13_adds_26 rfl (by omega) (by omega) (by rw [pf_succ]; exact iw_ap pf_len.symm (by rw [pf_len]; omega)) rfl (fun h hL => ?_)
      refine e_iinc 30 (v := (nI (i + 1))) (ls' := [some (.ref a), some (.ref b), some (.int (nI t)), some (.int (nI c)), some (.int (nI (i + 1)))]) dX13_adds_27 rfl rfl (nI_add i 1) (by decide) rfl ?_
      refine e_goto 3 dX13_adds_30 rfl ?_
      refine e_wk [some (.ref a), some (.ref b), some (.int (nI t)), some (.int (nI c)), some (.int (nI (i + 1)))] ⟨rfl, rfl, rfl, rfl, rfl, trivial⟩ ?_
      exact ih (i + 1) h (by omega) (by omega) hL
set_option maxRecDepth 20000 in
set_option maxHeartbeats 2000000 in
theorem k_X13_adds {a b N nm bn t c : Nat} {E : List EN} {src : List Nat} (hE : E.length < N) (hn : N < 100) (hc : c ≤ 253) (ht : t + c ≤ src.length) (hbn : bn < 100000) : CA mX13_adds [.ref a, .ref b, .int (nI t), .int (nI c)] [rrw a N nm E, iar b bn src] (fun x9 K => x9 = some (.int (nI E.length)) ∧ K = [rrw a N nm (E ++ [(pf src t c, [])]), iar b bn src]) 0 0 0 0 := by
  refine CA.mk 1 (ls := [some (.ref a), some (.ref b), some (.int (nI t)), some (.int (nI c)), none]) rfl rfl (Nat.le_of_ble_eq_true rfl) rfl (fun h hL => ?_)
  refine e_iconst 1 (v := (nI 0)) dX13_adds_0 rfl (by decide) ?_
  refine e_istore 3 (ls' := [some (.ref a), some (.ref b), some (.int (nI t)), some (.int (nI c)), some (.int (nI 0))]) dX13_adds_1 rfl (by decide) rfl ?_
  obtain ⟨A, hnA, hL⟩ := rrw_o hL
  have hL : stars [pt a (.inr (11, [.ref (A 0), .ref (A 1), .ref (A 2), .int (nI E.length)])), grd (A 0) N 256 (rE1 E), iar (A 1) N (rZ E), grd (A 2) N nm (rE2 E), iar b bn src] h := hL
  have hL : stars [grd (A 0) N 256 (rE1 E), pt a (.inr (11, [.ref (A 0), .ref (A 1), .ref (A 2), .int (nI E.length)])), iar (A 1) N (rZ E), grd (A 2) N nm (rE2 E), iar b bn src] h := stars_ixn hL 5 rfl [1, 0, 2, 3, 4] (by decide) rfl
  obtain ⟨b0, R0, hL, hR0, hC0⟩ := grd_at (i := E.length) (by omega) hL
  have hL : stars [iar b0 256 ((rE1 E) E.length), R0, pt a (.inr (11, [.ref (A 0), .ref (A 1), .ref (A 2), .int (nI E.length)])), iar (A 1) N (rZ E), grd (A 2) N nm (rE2 E), iar b bn src] h := hL
  rw [rE1_out (Nat.le_refl _)] at hL
  have hL : stars [iar b0 256 (pf src t 0), R0, pt a (.inr (11, [.ref (A 0), .ref (A 1), .ref (A 2), .int (nI E.length)])), iar (A 1) N (rZ E), grd (A 2) N nm (rE2 E), iar b bn src] h := hL
  exact l_X13_adds hE hn hc ht hbn hR0 hC0 _ 0 h (Nat.lt_succ_self _) (Nat.zero_le _) hL
theorem gOK_ad {N i : Nat} {C : Nat → List Nat} {B : List (Nat × List Nat)} (g : gOK N C B) (hi : i < N) : ∃ b, adP B i = some b ∧ B[i]? = some (b, C i) := by
  obtain ⟨b, hb⟩ := gOK_at g hi
  exact ⟨b, adP_at hb, hb⟩
theorem lst_row {rm : Nat} {B : List (Nat × List Nat)} {i b : Nat} {r : List Nat} (L : List sA) (j : Nat) {h : eH} (hL : stars L h) (hj : L[j]? = some (lst (iaE rm) B)) (hb : B[i]? = some (b, r)) : ∃ f : Nat → Int32, h b = some (.inl (0, rm, .inl f)) := by
  obtain ⟨h1, p, e⟩ := lst_part L j hL hj hb
  obtain ⟨f, -, p⟩ := p
  exact ⟨f, e _ _ (pt_at p)⟩
section ER
variable {M : MD} {fr lo mc ms : Nat} {Q : Option Value → eH → Prop} {pc ce sl : Nat} {ls : List (Option Value)} {st : List Value} {h : eH}
theorem p_aastA (np : Nat) {L L' : List sA} (hL : stars L h) (i : Nat) {a n v k rm : Nat} {fv : Nat → Int32} {f : Nat → Option Nat} (hi : L[i]? = some (pt a (.inl (7, n, .inr (.inr (.inr (.inr f))))))) (hv : h v = some (.inl (0, rm, .inl fv))) (hL' : L.set i (pt a (.inl (7, n, .inr (.inr (.inr (.inr (va_up f k (some v)))))))) = L') (hd : decode M.2.1 pc = .ok (.aastore, 1)) (hn : pc + 1 = np) (hk : k < n) (hb : n < 2 ^ 31) (kk : ∀ h' : eH, stars L' h' → EE M fr lo mc ms Q np ls st h' ce sl) : EE M fr lo mc ms Q pc ls (.ref v :: .int (nI k) :: .ref a :: st) h ce sl := by
  have e := e_aastA (st := st) (ls := ls) (Q := Q) (fr := fr) (lo := lo) (mc := mc) (ms := ms) (ce := ce) (sl := sl) (M := M) (i := nI k) np hd hn (stars_at L i hL hi) hv (vp_in_nI hk hb)
  rw [nI_clamp (by omega)] at e
  exact e (kk _ (hL' ▸ stars_set L i hL hi))
theorem p_aaldF (np : Nat) {L : List sA} (hL : stars L h) (i : Nat) {a n v k : Nat} {f : Nat → Option Nat} (hi : L[i]? = some (pt a (.inl (7, n, .inr (.inr (.inr (.inr f))))))) (hv : f k = some v) (hd : decode M.2.1 pc = .ok (.aaload, 1)) (hn : pc + 1 = np) (hk : k < n) (hb : n < 2 ^ 31) (kk : EE M fr lo mc ms Q np ls (.ref v :: st) h ce sl) : EE M fr lo mc ms Q pc ls (.int (nI k) :: .ref a :: st) h ce sl :=
  e_aald np (v := .ref v) hd hn (stars_at L i hL hi) rfl (Or.inr ⟨_, rfl⟩) (vp_in_nI hk hb) (by rw [nI_clamp (by omega), hv]; rfl) kk
end ER
set_option maxRecDepth 20000 in
set_option maxHeartbeats 2000000 in
theorem l_X13_goes {a N nm : Nat} {E : List EN} {A : Nat → Nat} {B1 B2 : List (Nat × List Nat)} {f : Nat → Int32} {b1 b2 : Nat} (hE : 1 ≤ E.length) (hn : E.length ≤ N) (hn9 : N < 100) (o1 : gOK N (rE1 E) B1) (o2 : gOK N (rE2 E) B2) (hf : ∀ i, i < E.length → f i = nI ((rZ E).getD i 0)) (e1 : adP B1 0 = some b1) (e2 : adP B2 0 = some b2) : ∀ (n : Nat) (k : Nat) (g1 g2 : Nat → Option Nat) (z : Nat → Int32) (h : eH), E.length - k < n → 1 ≤ k → k ≤ E.length → (∀ j, j + 1 < k → g1 j = adP B1 (j + 1)) → (∀ j, k ≤ j + 1 → g1 j = adP B1 j) → (∀ j, j + 1 < k → g2 j = adP B2 (j + 1)) → (∀ j, k ≤ j + 1 → g2 j = adP B2 j) → (∀ j, j + 1 < k → z j = f (j + 1)) → (∀ j, k ≤ j + 1 → z j = f j) → stars [pt a (.inr (11, [.ref (A 0), .ref (A 1), .ref (A 2), .int (nI E.length)])), pt (A 0) (.inl (7, N, .inr (.inr (.inr (.inr g1))))), pt (A 1) (.inl (0, N, .inl z)), pt (A 2) (.inl (7, N, .inr (.inr (.inr (.inr g2))))), lst (iaE 256) B1, lst (iaE nm) B2] h → EE mX13_goes 0 0 0 0 (fun x9 h' => ∃ K, (x9 = none ∧ K = [rrw a N nm E.tail]) ∧ stars K h') 16 [some (.ref a), some (.ref b1), some (.ref b2), some (.int (nI k))] [] h 0 0 := by
  intro n
  induction n with
  | zero => intro k g1 g2 z h hlt hk1 hkE h1 h2 h3 h4 h5 h6 hL; exact absurd hlt (by omega)
  | succ n ih =>
    intro k g1 g2 z h hlt hk1 hkE h1 h2 h3 h4 h5 h6 hL
    refine e_iload_n 17 dX13_goes_16 rfl rfl ?_
    refine e_aload_n 18 dX13_goes_17 rfl rfl ?_
    refine e_get 21 dX13_goes_18 rfl fl_X13_21_11 (stars_at _ 0 hL rfl) rfl ?_
    refine e_icmp_ge 72 24 dX13_goes_21 rfl rfl (fun c21 => ?_) (fun c21 => ?_)
    · have k21 := j_ge_t (a := k) (b := E.length) (by omega) (by omega) c21
      have ek : k = E.length := by omega
      subst ek
      obtain ⟨c1, ea1, ob1⟩ := gOK_ad o1 (show 0 < N by omega)
      obtain ⟨c2, ea2, ob2⟩ := gOK_ad o2 (show 0 < N by omega)
      have ec1 : c1 = b1 := Option.some.inj (ea1.symm.trans e1)
      have ec2 : c2 = b2 := Option.some.inj (ea2.symm.trans e2)
      rw [ec1] at ea1 ob1
      rw [ec2] at ea2 ob2
      refine e_aload_n 73 dX13_goes_72 rfl rfl ?_
      refine e_dup 74 dX13_goes_73 rfl rfl ?_
      refine e_get 77 dX13_goes_74 rfl fl_X13_21_11 (stars_at _ 0 hL rfl) rfl ?_
      refine e_iconst 78 (v := (nI 1)) dX13_goes_77 rfl (by decide) ?_
      refine e_isub 79 (v := (nI (E.length - 1))) dX13_goes_78 rfl (pk_sub (by omega)) ?_
      refine p_put 82 hL 0 (fs' := [.ref (A 0), .ref (A 1), .ref (A 2), .int (nI (E.length - 1))]) (L' := [pt a (.inr (11, [.ref (A 0), .ref (A 1), .ref (A 2), .int (nI (E.length - 1))])), pt (A 0) (.inl (7, N, .inr (.inr (.inr (.inr g1))))), pt (A 1) (.inl (0, N, .inl z)), pt (A 2) (.inl (7, N, .inr (.inr (.inr (.inr g2))))), lst (iaE 256) B1, lst (iaE nm) B2]) rfl rfl dX13_goes_79 rfl fp_X13_21_11 (Or.inl rfl) (Nat.le_of_ble_eq_true rfl) rfl rfl rfl (fun h hL => ?_)
      refine e_aload_n 83 dX13_goes_82 rfl rfl ?_
      refine e_get 86 dX13_goes_83 rfl fl_X13_9_11 (stars_at _ 0 hL rfl) rfl ?_
      refine e_aload_n 87 dX13_goes_86 rfl rfl ?_
      refine e_get 90 dX13_goes_87 rfl fl_X13_21_11 (stars_at _ 0 hL rfl) rfl ?_
      refine e_aload_n 91 dX13_goes_90 rfl rfl ?_
      obtain ⟨fv91, hv91⟩ := lst_row _ 4 hL rfl ob1
      refine p_aastA 92 hL 1 (k := (E.length - 1)) (L' := [pt a (.inr (11, [.ref (A 0), .ref (A 1), .ref (A 2), .int (nI (E.length - 1))])), pt (A 0) (.inl (7, N, .inr (.inr (.inr (.inr (va_up g1 (E.length - 1) (some b1))))))), pt (A 1) (.inl (0, N, .inl z)), pt (A 2) (.inl (7, N, .inr (.inr (.inr (.inr g2))))), lst (iaE 256) B1, lst (iaE nm) B2]) rfl hv91 rfl dX13_goes_91 rfl (by omega) (by omega) (fun h hL => ?_)
      refine e_aload_n 93 dX13_goes_92 rfl rfl ?_
      refine e_get 96 dX13_goes_93 rfl fl_X13_18_11 (stars_at _ 0 hL rfl) rfl ?_
      refine e_aload_n 97 dX13_goes_96 rfl rfl ?_
      refine e_get 100 dX13_goes_97 rfl fl_X13_21_11 (stars_at _ 0 hL rfl) rfl ?_
      refine e_aload_n 101 dX13_goes_100 rfl rfl ?_
      obtain ⟨fv101, hv101⟩ := lst_row _ 5 hL rfl ob2
      refine p_aastA 102 hL 3 (k := (E.length - 1)) (L' := [pt a (.inr (11, [.ref (A 0), .ref (A 1), .ref (A 2), .int (nI (E.length - 1))])), pt (A 0) (.inl (7, N, .inr (.inr (.inr (.inr (va_up g1 (E.length - 1) (some b1))))))), pt (A 1) (.inl (0, N, .inl z)), pt (A 2) (.inl (7, N, .inr (.inr (.inr (.inr (va_up g2 (E.length - 1) (some b2))))))), lst (iaE 256) B1, lst (iaE nm) B2]) rfl hv101 rfl dX13_goes_101 rfl (by omega) (by omega) (fun h hL => ?_)
      exact e_vret dX13_goes_102 rfl (by omega) (by omega) (⟨_, ⟨rfl, rfl⟩, goes_c hE hn o1 o2 hf ea1 ea2 h1 (fun j hj => h2 j (by omega)) h3 (fun j hj => h4 j (by omega)) h5 hL⟩)
    · have k21 := j_ge_f (a := k) (b := E.length) (by omega) (by omega) c21
      obtain ⟨c1, ea1, eb1⟩ := gOK_ad o1 (show k < N by omega)
      obtain ⟨c2, ea2, eb2⟩ := gOK_ad o2 (show k < N by omega)
      refine e_aload_n 25 dX13_goes_24 rfl rfl ?_
      refine e_get 28 dX13_goes_25 rfl fl_X13_9_11 (stars_at _ 0 hL rfl) rfl ?_
      refine e_iload_n 29 dX13_goes_28 rfl rfl ?_
      refine e_iconst 30 (v := (nI 1)) dX13_goes_29 rfl (by decide) ?_
      refine e_isub 31 (v := (nI (k - 1))) dX13_goes_30 rfl (pk_sub (by omega)) ?_
      refine e_aload_n 32 dX13_goes_31 rfl rfl ?_
      refine e_get 35 dX13_goes_32 rfl fl_X13_9_11 (stars_at _ 0 hL rfl) rfl ?_
      refine e_iload_n 36 dX13_goes_35 rfl rfl ?_
      refine p_aaldF 37 hL 1 (v := c1) (k := k) rfl (by rw [h2 k (by omega)]; exact ea1) dX13_goes_36 rfl (by omega) (by omega) ?_
      obtain ⟨fv37, hv37⟩ := lst_row _ 4 hL rfl eb1
      refine p_aastA 38 hL 1 (k := (k - 1)) (L' := [pt a (.inr (11, [.ref (A 0), .ref (A 1), .ref (A 2), .int (nI E.length)])), pt (A 0) (.inl (7, N, .inr (.inr (.inr (.inr (va_up g1 (k - 1) (some c1))))))), pt (A 1) (.inl (0, N, .inl z)), pt (A 2) (.inl (7, N, .inr (.inr (.inr (.inr g2))))), lst (iaE 256) B1, lst (iaE nm) B2]) rfl hv37 rfl dX13_goes_37 rfl (by omega) (by omega) (fun h hL => ?_)
      refine e_aload_n 39 dX13_goes_38 rfl rfl ?_
      refine e_get 42 dX13_goes_39 rfl fl_X13_14_11 (stars_at _ 0 hL rfl) rfl ?_
      refine e_iload_n 43 dX13_goes_42 rfl rfl ?_
      refine e_iconst 44 (v := (nI 1)) dX13_goes_43 rfl (by decide) ?_
      refine e_isub 45 (v := (nI (k - 1))) dX13_goes_44 rfl (pk_sub (by omega)) ?_
      refine e_aload_n 46 dX13_goes_45 rfl rfl ?_
      refine e_get 49 dX13_goes_46 rfl fl_X13_14_11 (stars_at _ 0 hL rfl) rfl ?_
      refine e_iload_n 50 dX13_goes_49 rfl rfl ?_
      refine e_iald 51 (v := (z k)) dX13_goes_50 rfl (stars_at _ 2 hL rfl) (vp_in_nI (by omega) (by omega)) (congrArg z (nI_clamp (by omega))) ?_
      refine p_iast 52 hL 2 (k := (k - 1)) (L' := [pt a (.inr (11, [.ref (A 0), .ref (A 1), .ref (A 2), .int (nI E.length)])), pt (A 0) (.inl (7, N, .inr (.inr (.inr (.inr (va_up g1 (k - 1) (some c1))))))), pt (A 1) (.inl (0, N, .inl (upd z (k - 1) (z k)))), pt (A 2) (.inl (7, N, .inr (.inr (.inr (.inr g2))))), lst (iaE 256) B1, lst (iaE nm) B2]) rfl rfl dX13_goes_51 rfl (vp_in_nI (by omega) (by omega)) (nI_clamp (by omega)) (fun h hL => ?_)
      refine e_aload_n 53 dX13_goes_52 rfl rfl ?_
      refine e_get 56 dX13_goes_53 rfl fl_X13_18_11 (stars_at _ 0 hL rfl) rfl ?_
      refine e_iload_n 57 dX13_goes_56 rfl rfl ?_
      refine e_iconst 58 (v := (nI 1)) dX13_goes_57 rfl (by decide) ?_
      refine e_isub 59 (v := (nI (k - 1))) dX13_goes_58 rfl (pk_sub (by omega)) ?_
      refine e_aload_n 60 dX13_goes_59 rfl rfl ?_
      refine e_get 63 dX13_goes_60 rfl fl_X13_18_11 (stars_at _ 0 hL rfl) rfl ?_
      refine e_iload_n 64 dX13_goes_63 rfl rfl ?_
      refine p_aaldF 65 hL 3 (v := c2) (k := k) rfl (by rw [h4 k (by omega)]; exact ea2) dX13_goes_64 rfl (by omega) (by omega) ?_
      obtain ⟨fv65, hv65⟩ := lst_row _ 5 hL rfl eb2
      refine p_aastA 66 hL 3 (k := (k - 1)) (L' := [pt a (.inr (11, [.ref (A 0), .ref (A 1), .ref (A 2), .int (nI E.length)])), pt (A 0) (.inl (7, N, .inr (.inr (.inr (.inr (va_up g1 (k - 1) (some c1))))))), pt (A 1) (.inl (0, N, .inl (upd z (k - 1) (z k)))), pt (A 2) (.inl (7, N, .inr (.inr (.inr (.inr (va_up g2 (k - 1) (some c2))))))), lst (iaE 256) B1, lst (iaE nm) B2]) rfl hv65 rfl dX13_goes_65 rfl (by omega) (by omega) (fun h hL => ?_)
      refine e_iinc 69 (v := (nI (k + 1))) (ls' := [some (.ref a), some (.ref b1), some (.ref b2), some (.int (nI (k + 1)))]) dX13_goes_66 rfl rfl (nI_add k 1) (by decide) rfl ?_
      refine e_goto 16 dX13_goes_69 rfl ?_
      have u1 := shft (G := va_up g1 (k - 1) (some c1)) (f0 := adP B1) (i := k) (by rw [h2 k (by omega)]; exact ea1) (fun j => rfl) h1 h2 hk1
      have u2 := shft (G := va_up g2 (k - 1) (some c2)) (f0 := adP B2) (i := k) (by rw [h4 k (by omega)]; exact ea2) (fun j => rfl) h3 h4 hk1
      have u3 := shft (G := upd z (k - 1) (z k)) (f0 := f) (i := k) rfl (fun j => rfl) h5 h6 hk1
      refine e_wk [some (.ref a), some (.ref b1), some (.ref b2), some (.int (nI (k + 1)))] ⟨rfl, rfl, rfl, rfl, trivial⟩ ?_
      exact ih (k + 1) _ _ _ h (by omega) (by omega) (by omega) u1.1 u1.2 u2.1 u2.2 u3.1 u3.2 hL
set_option maxRecDepth 20000 in
set_option maxHeartbeats 2000000 in
theorem k_X13_goes {a N nm : Nat} {E : List EN} (hE : 1 ≤ E.length) (hn9 : N < 100) : CA mX13_goes [.ref a] [rrw a N nm E] (fun x9 K => x9 = none ∧ K = [rrw a N nm E.tail]) 0 0 0 0 := by
  refine CA.mk 3 (ls := [some (.ref a), none, none, none]) rfl rfl (Nat.le_of_ble_eq_true rfl) rfl (fun h hL => ?_)
  obtain ⟨A, B1, B2, f, ⟨hnE, o1, o2, hf⟩, hL⟩ := goes_o hL
  obtain ⟨b1, ea1, ob1⟩ := gOK_ad o1 (show 0 < N by omega)
  obtain ⟨b2, ea2, ob2⟩ := gOK_ad o2 (show 0 < N by omega)
  have hL : stars [pt a (.inr (11, [.ref (A 0), .ref (A 1), .ref (A 2), .int (nI E.length)])), pt (A 0) (.inl (7, N, .inr (.inr (.inr (.inr (adP B1)))))), pt (A 1) (.inl (0, N, .inl f)), pt (A 2) (.inl (7, N, .inr (.inr (.inr (.inr (adP B2)))))), lst (iaE 256) B1, lst (iaE nm) B2] h := hL
  refine e_aload_n 1 dX13_goes_0 rfl rfl ?_
  refine e_get 4 dX13_goes_1 rfl fl_X13_9_11 (stars_at _ 0 hL rfl) rfl ?_
  refine e_iconst 5 (v := (nI 0)) dX13_goes_4 rfl (by decide) ?_
  refine p_aaldF 6 hL 1 (v := b1) (k := 0) rfl ea1 dX13_goes_5 rfl (by omega) (by omega) ?_
  refine e_astore_n 7 (ls' := [some (.ref a), some (.ref b1), none, none]) dX13_goes_6 rfl (by decide) rfl ?_
  refine e_aload_n 8 dX13_goes_7 rfl rfl ?_
  refine e_get 11 dX13_goes_8 rfl fl_X13_18_11 (stars_at _ 0 hL rfl) rfl ?_
  refine e_iconst 12 (v := (nI 0)) dX13_goes_11 rfl (by decide) ?_
  refine p_aaldF 13 hL 3 (v := b2) (k := 0) rfl ea2 dX13_goes_12 rfl (by omega) (by omega) ?_
  refine e_astore_n 14 (ls' := [some (.ref a), some (.ref b1), some (.ref b2), none]) dX13_goes_13 rfl (by decide) rfl ?_
  refine e_iconst 15 (v := (nI 1)) dX13_goes_14 rfl (by decide) ?_
  refine e_istore_n 16 (ls' := [some (.ref a), some (.ref b1), some (.ref b2), some (.int (nI 1))]) dX13_goes_15 rfl (by decide) rfl ?_
  exact l_X13_goes hE hnE hn9 o1 o2 hf ea1 ea2 _ 1 _ _ _ h (Nat.lt_succ_self _) (Nat.le_refl _) hE (fun j hj => absurd hj (by omega)) (fun j _ => rfl) (fun j hj => absurd hj (by omega)) (fun j _ => rfl) (fun j hj => absurd hj (by omega)) (fun j _ => rfl) hL
