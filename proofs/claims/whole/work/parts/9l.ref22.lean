/-! the reference: looks -/
theorem ans_A (L : List sA) (i : Nat) {m : Nat} {F w : Nat → Nat} {bg : Bool} {r : List Nat} {h : eH} (hL : stars L h) (hi : L[i]? = some (ansP m F w bg r)) : iaR (F 3) 300 r h := by
  obtain ⟨h1, p, e⟩ := stars_part L i hL hi
  exact (iar_V _ 1 p rfl).up e
theorem iw_ap {n v k : Nat} {r : List Nat} (hk : k = r.length) (hl : r.length < n) : (r ++ [v]).length ≤ n ∧ ∀ j, j < (r ++ [v]).length → (j = k ∧ (r ++ [v]).getD j 0 = v) ∨ (j ≠ k ∧ j < r.length ∧ (r ++ [v]).getD j 0 = r.getD j 0) := by
  subst hk
  exact iw_app hl
theorem okD_6 {s : DS} (h : okD s) : ∀ x ∈ dL s 6, x < 256 := h.2.2.2.2.2.2.2.2.1
theorem ttL_h {T : List (Nat × List Nat)} {code last : Nat} : ∀ (t : Nat) (o : Option Nat) (n : Nat) (s : List Nat), 7 ≤ s.length → (ttL T code last t o n s).2.2.getD 0 0 = s.getD 0 0 ∧ 7 ≤ (ttL T code last t o n s).2.2.length
  | 0, o, n, s, h => ⟨rfl, h⟩
  | t + 1, none, n, s, h => ⟨rfl, h⟩
  | t + 1, some k, n, s, h => by
    cases hx : ixM T (nI k) with
    | none => rw [ttL_n hx]; exact ⟨rfl, h⟩
    | some i =>
      by_cases z : s.length + 2 + (rwM T i).length ≤ 253
      · rw [ttL_s hx z]
        have ih := ttL_h (T := T) (code := code) (last := last) t (if code = 4 then none else lsT T (k + 1) last) (n + 1) (((s ++ [k]) ++ [(rwM T i).length]) ++ rwM T i) (by simp only [List.length_append]; omega)
        rw [gd_ap3 (by omega)] at ih
        exact ih
      · rw [ttL_f hx z]; exact ⟨rfl, h⟩
theorem gd0_set {r : List Nat} {k v : Nat} (h : k ≠ 0) : (r.set k v).getD 0 0 = r.getD 0 0 := by simp [List.getD, List.getElem?_set_ne h]
theorem ttA_h {T : List (Nat × List Nat)} {q : List Nat} : (ttA T q).getD 0 0 = q.getD 0 0 := by
  unfold ttA ttE
  rw [gd0_set (by decide), gd0_set (by decide), gd0_set (by decide)]
  have h := ttL_h (T := T) (code := q.getD 2 0) (last := ttM (q.getD 2 0)) 10 (ttI T q) 0 (ttH T q) (by unfold ttH; simp only [List.length_append, pf_len, List.length_cons, List.length_nil]; decide)
  rw [h.1]
  rfl
theorem rfR_h {M : List (Nat × List Nat)} {q : List Nat} : ∀ j, (rfR M q j).getD 0 0 = 20
  | 0 => rfl
  | j + 1 => by
    rw [rfR, gd_ap (by rw [rfR_len]; have := rdS_ge (q := q) j; omega)]
    exact rfR_h j
/-- an answer that refuses nothing begins with its function -/
theorem sv9A_h {s : DS} {q : List Nat} (h1 : 1 ≤ q.length) (hsh : shF q = 0) : sv9A s q = [] ∨ (sv9A s q).getD 0 0 = q.getD 0 0 := by
  have ht := sh_told hsh
  by_cases hi : q.getD 0 0 = 7 ∨ q.getD 0 0 = 11 ∨ q.getD 0 0 = 12 ∨ q.getD 0 0 = 17 ∨ q.getD 0 0 = 20 ∨ q.getD 0 0 = 24 ∨ q.getD 0 0 = 43
  · right
    rw [sv9A, if_pos (it_t hi), tlA]
    rcases hi with z | z | z | z | z | z | z
    · rw [if_pos z, z]; rfl
    · rw [if_neg (by omega), if_pos z, z]; rfl
    · rw [if_neg (by omega), if_neg (by omega), if_pos z, z]; rfl
    · rw [if_neg (by omega), if_neg (by omega), if_neg (by omega), if_pos z, z]; rfl
    · rw [if_neg (by omega), if_neg (by omega), if_neg (by omega), if_neg (by omega), if_pos z, gd0_set (by decide), rfR_h, z]
    · rw [if_neg (by omega), if_neg (by omega), if_neg (by omega), if_neg (by omega), if_neg (by omega), if_pos z, z]; rfl
    · rw [if_neg (by omega), if_neg (by omega), if_neg (by omega), if_neg (by omega), if_neg (by omega), if_neg (by omega)]; exact ttA_h
  · rw [sv9A, if_neg (it_f hi), pfA]
    by_cases e1 : q.getD 0 0 = 1
    · rw [if_pos e1]; exact Or.inr rfl
    rw [if_neg e1]
    by_cases e2 : q.getD 0 0 = 2
    · rw [if_pos e2]; exact Or.inr rfl
    rw [if_neg e2]
    by_cases e3 : q.getD 0 0 = 3
    · rw [if_pos e3]; exact Or.inr rfl
    rw [if_neg e3]
    by_cases e4 : q.getD 0 0 = 4
    · rw [if_pos e4]; exact Or.inr rfl
    rw [if_neg e4]
    by_cases e5 : q.getD 0 0 = 5 ∨ q.getD 0 0 = 6 ∨ q.getD 0 0 = 21 ∨ q.getD 0 0 = 22
    · rw [if_pos e5]; exact Or.inr rfl
    rw [if_neg e5]
    by_cases e8 : q.getD 0 0 = 8
    · rw [if_pos e8, dnA]
      by_cases k4 : wd q 1 = 4
      · rw [if_pos k4]; exact Or.inl rfl
      rw [if_neg k4]
      by_cases k11 : 11 ≤ wd q 1 ∧ wd q 1 ≤ 18
      · rw [if_pos k11]
        right
        rw [gd_ap (by rw [List.length_take]; omega)]
        match q, h1 with
        | a :: l, _ => rfl
      · rw [if_neg k11]; exact Or.inr rfl
    rw [if_neg e8]
    by_cases e15 : q.getD 0 0 = 15 ∨ q.getD 0 0 = 16
    · rw [if_pos e15]; exact Or.inr rfl
    rw [if_neg e15]
    by_cases e23 : q.getD 0 0 = 23
    · rw [if_pos e23]; exact Or.inr rfl
    · exfalso; omega
theorem svA_c {s : DS} {q : List Nat} (h1 : 1 ≤ q.length) (hq : q.getD 0 0 < 256) : (svC s q = 0 ∧ (svA s q = [] ∨ (svA s q).getD 0 0 ≠ (q.getD 0 0 + 128) % 2 ^ 8)) ∨ (svC s q ≠ 0 ∧ svA s q = [(q.getD 0 0 + 128) % 2 ^ 8, svC s q]) := by
  by_cases z : svC s q = 0
  · left
    refine ⟨z, ?_⟩
    have hb : s.1 18 = 0 := by
      rw [svC] at z
      split at z
      · cases z
      · omega
    have hr : rfA s q = 0 := by rw [svC, if_neg (by omega)] at z; exact z
    rw [(sv_91 hb hr).2]
    rcases sv9A_h (s := zcD s (svT s q)) h1 (rf_0 hr).1 with y | y
    · exact Or.inl y
    · right; rw [y]; omega
  · right
    exact ⟨z, by rw [svA, if_pos z]⟩
set_option maxRecDepth 20000 in
set_option maxHeartbeats 2000000 in
theorem l_looks1 {m d : Nat} {F w : Nat → Nat} {bg : Bool} {s : DS} (he : okE s) (hok : okD s) {to : Nat} {r : List Nat} (h3 : 4 ≤ (dL s 6).length) {Q : Option Value → eH → Prop} (kk : ∀ h : eH, stars [ansP m F w bg r, rdv d s, iar (F 5) 260 (pf (dL s 6) 1 ((dL s 6).length - 3))] h → EE mX15_looks 5 130 0 0 Q 161 [some (.ref m), some (.ref d), some (.int (nI to)), some (.int (nI ((dL s 6).length - 3))), none, none, none] [] h 0 0) : ∀ (n : Nat) (i : Nat) (h : eH), ((dL s 6).length - 3) - i < n → i ≤ ((dL s 6).length - 3) → stars [ansP m F w bg r, rdv d s, iar (F 5) 260 (pf (dL s 6) 1 i)] h → EE mX15_looks 5 130 0 0 (Q) 133 [some (.ref m), some (.ref d), some (.int (nI to)), some (.int (nI ((dL s 6).length - 3))), some (.int (nI i)), none, none] [] h 0 0 := by
  intro n
  induction n with
  | zero => intro i h hlt hle hL; exact absurd hlt (by omega)
  | succ n ih =>
    intro i h hlt hle hL
    have h6l := (okE_ln he).2.2.1
    refine e_iload 135 dX15_looks_133 rfl rfl ?_
    refine e_iload_n 136 dX15_looks_135 rfl rfl ?_
    refine e_icmp_ge 161 139 dX15_looks_136 rfl rfl (fun c136 => ?_) (fun c136 => ?_)
    · have k136 := j_ge_t (a := i) (b := ((dL s 6).length - 3)) (by omega) (by omega) c136
      have e9 : i = ((dL s 6).length - 3) := by omega
      rw [e9] at hL
      refine e_wk [some (.ref m), some (.ref d), some (.int (nI to)), some (.int (nI ((dL s 6).length - 3))), none, none, none] ⟨rfl, rfl, rfl, rfl, trivial⟩ ?_
      exact kk h hL
    · have k136 := j_ge_f (a := i) (b := ((dL s 6).length - 3)) (by omega) (by omega) c136
      refine e_aload_n 140 dX15_looks_139 rfl rfl ?_
      refine e_get 143 dX15_looks_140 rfl fl_X15_19_13 (ans_V _ 0 hL rfl) rfl ?_
      refine e_iload 145 dX15_looks_143 rfl rfl ?_
      refine e_aload_n 146 dX15_looks_145 rfl rfl ?_
      obtain ⟨A146, v146_0, v146_1, v146_2, v146_3, v146_4, v146_5, v146_6, v146_7, v146_8, v146_9, v146_10, v146_11, v146_12, v146_13, v146_14, v146_15, v146_16, v146_17, v146_18, v146_19, v146_20, v146_21⟩ := rdv_V _ 1 hL rfl
      refine e_get 149 dX15_looks_146 rfl fl_X15_245_10 v146_0 rfl ?_
      refine e_iconst 150 (v := (nI 1)) dX15_looks_149 rfl (by decide) ?_
      refine e_iload 152 dX15_looks_150 rfl rfl ?_
      refine e_iadd 153 (v := (nI (1 + i))) dX15_looks_152 rfl (nI_add 1 i) ?_
      have b153 := gd_lt (i := (1 + i)) (okD_6 hok) (by decide)
      refine v_iald 154 v146_1 (k := (1 + i)) (x := ((dL s 6).getD (1 + i) 0)) dX15_looks_153 rfl (by omega) (by omega) rfl ?_
      refine p_iastR 155 hL 2 (r := (pf (dL s 6) 1 i)) (r' := (pf (dL s 6) 1 (i + 1))) (k := i) (v := ((dL s 6).getD (1 + i) 0)) (L' := [ansP m F w bg r, rdv d s, iar (F 5) 260 (pf (dL s 6) 1 (i + 1))]) rfl dX15_looks_154 rfl (by omega) (by omega) (by rw [pf_succ]; exact iw_ap pf_len.symm (by rw [pf_len]; omega)) rfl (fun h hL => ?_)
      refine e_iinc 158 (v := (nI (i + 1))) (ls' := [some (.ref m), some (.ref d), some (.int (nI to)), some (.int (nI ((dL s 6).length - 3))), some (.int (nI (i + 1))), none, none]) dX15_looks_155 rfl rfl (nI_add i 1) (by decide) rfl ?_
      refine e_goto 133 dX15_looks_158 rfl ?_
      refine e_wk [some (.ref m), some (.ref d), some (.int (nI to)), some (.int (nI ((dL s 6).length - 3))), some (.int (nI (i + 1))), none, none] ⟨rfl, rfl, rfl, rfl, rfl, trivial⟩ ?_
      exact ih (i + 1) h (by omega) (by omega) hL
set_option maxRecDepth 20000 in
set_option maxHeartbeats 2000000 in
theorem l_looks2 {m d f : Nat} {F w : Nat → Nat} {bg : Bool} {s : DS} {A : Nat → Nat} {p pd : List Nat} (hp : ∀ x ∈ p, x < 256) (hpl : p.length ≤ 253) {Q : Option Value → eH → Prop} (kk : ∀ h : eH, stars [pt d (.inr (10, rdF A s)), iar (A 37) 260 p, rRy A s, ansP m F w bg p, iar (F 5) 260 pd] h → EE mX15_looks 5 130 0 0 Q 375 [some (.ref m), some (.ref d), none, none, some (.int (nI f)), none, none] [] h 0 0) : ∀ (n : Nat) (i : Nat) (h : eH), p.length - i < n → i ≤ p.length → stars [pt d (.inr (10, rdF A s)), iar (A 37) 260 (p.take i), rRy A s, ansP m F w bg p, iar (F 5) 260 pd] h → EE mX15_looks 5 130 0 0 (Q) 346 [some (.ref m), some (.ref d), none, none, some (.int (nI f)), none, some (.int (nI i))] [] h 0 0 := by
  intro n
  induction n with
  | zero => intro i h hlt hle hL; exact absurd hlt (by omega)
  | succ n ih =>
    intro i h hlt hle hL
    refine e_iload 348 dX15_looks_346 rfl rfl ?_
    refine e_aload_n 349 dX15_looks_348 rfl rfl ?_
    refine e_get 352 dX15_looks_349 rfl fl_X15_89_13 (ans_V _ 3 hL rfl) rfl ?_
    refine e_icmp_ge 375 355 dX15_looks_352 rfl rfl (fun c352 => ?_) (fun c352 => ?_)
    · have k352 := j_ge_t (a := i) (b := p.length) (by omega) (by omega) c352
      rw [List.take_of_length_le (by omega)] at hL
      refine e_wk [some (.ref m), some (.ref d), none, none, some (.int (nI f)), none, none] ⟨rfl, rfl, rfl, trivial⟩ ?_
      exact kk h hL
    · have k352 := j_ge_f (a := i) (b := p.length) (by omega) (by omega) c352
      refine e_aload_n 356 dX15_looks_355 rfl rfl ?_
      refine e_get 359 dX15_looks_356 rfl fl_X15_257_10 (stars_at _ 0 hL rfl) rfl ?_
      refine e_iload 361 dX15_looks_359 rfl rfl ?_
      refine e_aload_n 362 dX15_looks_361 rfl rfl ?_
      refine e_get 365 dX15_looks_362 rfl fl_X15_15_13 (ans_V _ 3 hL rfl) rfl ?_
      refine e_iload 367 dX15_looks_365 rfl rfl ?_
      have b367 := gd_lt (i := i) hp (by decide)
      refine v_iald 368 (ans_A _ 3 hL rfl) (k := i) (x := (p.getD i 0)) dX15_looks_367 rfl (by omega) (by omega) rfl ?_
      refine p_iastR 369 hL 1 (r := (p.take i)) (r' := ((p.take i) ++ [(p.getD i 0)])) (k := i) (v := (p.getD i 0)) (L' := [pt d (.inr (10, rdF A s)), iar (A 37) 260 ((p.take i) ++ [(p.getD i 0)]), rRy A s, ansP m F w bg p, iar (F 5) 260 pd]) rfl dX15_looks_368 rfl (by omega) (by omega) (iw_ap (by rw [List.length_take]; omega) (by rw [List.length_take]; omega)) rfl (fun h hL => ?_)
      refine e_iinc 372 (v := (nI (i + 1))) (ls' := [some (.ref m), some (.ref d), none, none, some (.int (nI f)), none, some (.int (nI (i + 1)))]) dX15_looks_369 rfl rfl (nI_add i 1) (by decide) rfl ?_
      refine e_goto 346 dX15_looks_372 rfl ?_
      rw [← take_gd (by omega)] at hL
      have hL : stars [pt d (.inr (10, rdF A s)), iar (A 37) 260 (p.take (i + 1)), rRy A s, ansP m F w bg p, iar (F 5) 260 pd] h := hL
      refine e_wk [some (.ref m), some (.ref d), none, none, some (.int (nI f)), none, some (.int (nI (i + 1)))] ⟨rfl, rfl, rfl, rfl, trivial⟩ ?_
      exact ih (i + 1) h (by omega) (by omega) hL
