/-! Service: texts -/
def lsT (T : List (Nat × List Nat)) (a b : Nat) : Option Nat := (T.map (·.1)).foldl (lsK a b) none
def gtT (T : List (Nat × List Nat)) : Option Nat := (T.map (·.1)).foldl gtK none
theorem lsT_lt {T : List (Nat × List Nat)} {a b : Nat} (h : ∀ e ∈ T, e.1 < 65536) : ∀ z, lsT T a b = some z → z < 65536 := by
  refine lsK_in _ none (fun z hz => by cases hz) (fun x hx => ?_)
  obtain ⟨e, he, rfl⟩ := List.mem_map.mp hx
  exact h e he
theorem gtT_lt {T : List (Nat × List Nat)} (h : ∀ e ∈ T, e.1 < 65536) : ∀ z, gtT T = some z → z < 65536 := by
  refine gtK_in _ none (fun z hz => by cases hz) (fun x hx => ?_)
  obtain ⟨e, he, rfl⟩ := List.mem_map.mp hx
  exact h e he
def ttL (T : List (Nat × List Nat)) (code last : Nat) : Nat → Option Nat → Nat → List Nat → Option Nat × Nat × List Nat
  | 0, o, n, s => (o, n, s)
  | _ + 1, none, n, s => (none, n, s)
  | t + 1, some k, n, s => match ixM T (nI k) with
    | none => (some k, n, s)
    | some i => if s.length + 2 + (rwM T i).length ≤ 253 then ttL T code last t (if code = 4 then none else lsT T (k + 1) last) (n + 1) (((s ++ [k]) ++ [(rwM T i).length]) ++ rwM T i) else (some k, n, s)
theorem ttL_none {T : List (Nat × List Nat)} {code last n : Nat} {s : List Nat} : ∀ t, ttL T code last t none n s = (none, n, s)
  | 0 => rfl
  | _ + 1 => rfl
theorem ttL_n {T : List (Nat × List Nat)} {code last t k n : Nat} {s : List Nat} (h : ixM T (nI k) = none) : ttL T code last (t + 1) (some k) n s = (some k, n, s) := by simp only [ttL, h]
theorem ttL_s {T : List (Nat × List Nat)} {code last t k n i : Nat} {s : List Nat} (h : ixM T (nI k) = some i) (h2 : s.length + 2 + (rwM T i).length ≤ 253) : ttL T code last (t + 1) (some k) n s = ttL T code last t (if code = 4 then none else lsT T (k + 1) last) (n + 1) (((s ++ [k]) ++ [(rwM T i).length]) ++ rwM T i) := by simp only [ttL, h]; rw [if_pos h2]
theorem ttL_f {T : List (Nat × List Nat)} {code last t k n i : Nat} {s : List Nat} (h : ixM T (nI k) = some i) (h2 : ¬ s.length + 2 + (rwM T i).length ≤ 253) : ttL T code last (t + 1) (some k) n s = (some k, n, s) := by simp only [ttL, h]; rw [if_neg h2]
def ttE (x : Option Nat × Nat × List Nat) : List Nat := ((x.2.2.set 4 (match x.1 with
  | none => 0
  | some _ => 255)).set 5 (match x.1 with
  | none => 0
  | some k => k)).set 6 x.2.1
def ttM (code : Nat) : Nat := if code = 1 then 2 else if code = 2 then 6 else 255
def ttG (T : List (Nat × List Nat)) : Nat := match gtT T with
  | none => 129
  | some g => if 6 < g then 131 else if 2 < g then 130 else 129
def ttH (T : List (Nat × List Nat)) (q : List Nat) : List Nat := ((((pf q 0 3 ++ [ttG T]) ++ [0]) ++ [0]) ++ [0])
def ttI (T : List (Nat × List Nat)) (q : List Nat) : Option Nat := if q.getD 3 0 ≤ ttM (q.getD 2 0) ∧ (ixM T (nI (q.getD 3 0))).isSome = true then some (q.getD 3 0) else lsT T 0 (ttM (q.getD 2 0))
def ttA (T : List (Nat × List Nat)) (q : List Nat) : List Nat := ttE (ttL T (q.getD 2 0) (ttM (q.getD 2 0)) 10 (ttI T q) 0 (ttH T q))
theorem nI_ne_m1 {k : Nat} (hk : k < 2 ^ 31) : ¬ nI k = -1 := fun e => nI_pos hk (by rw [e]; decide)
set_option maxRecDepth 20000 in
set_option maxHeartbeats 2000000 in
theorem l_X6_tellTexts {c b cb b2 code last : Nat} {T : List (Nat × List Nat)} {q : List Nat} {X : Option Nat × Nat × List Nat} (hcode : code < 256) (hlast : last < 256) : ∀ (n : Nat) (t i told : Nat) (o : Option Nat) (s : List Nat) (h : eH), t < n → i + t = 10 → told ≤ i → 7 ≤ s.length ∧ s.length ≤ 253 → (∀ z, o = some z → z < 65536) → ttL T code last t o told s = X → stars [shf c 10 40 T, row b cb q, row b2 253 s] h → EE mX6_tellTexts 1 40 0 0 (fun r h' => ∃ L', (r = none ∧ L' = [shf c 10 40 T, row b cb q, row b2 253 (ttE X)]) ∧ stars L' h') 128 [some (.ref c), some (.ref b), some (.ref b2), some (.int (nI code)), some (.int (nI last)), some (.int (oI o)), none, some (.int (nI told)), some (.int (nI i)), none] [] h 0 0 := by
  intro n
  induction n with
  | zero => intro t i told o s h hlt hit htd hs ho he hL; exact absurd hlt (by omega)
  | succ n ih =>
    intro t i told o s h hlt hit htd hs ho he hL
    have hle9 := shf_le _ 0 hL rfl
    rcases o with _ | k
    · refine e_wk [some (.ref c), some (.ref b), some (.ref b2), some (.int (nI code)), some (.int (nI last)), some (.int (-1)), none, some (.int (nI told)), some (.int (nI i)), none] ⟨rfl, rfl, rfl, rfl, rfl, rfl, rfl, rfl, trivial⟩ ?_
      skip
      refine e_iload 130 dX6_tellTexts_128 rfl rfl ?_
      refine e_bipush 132 (v := (nI 10)) dX6_tellTexts_130 rfl (by decide) ?_
      refine e_icmp_ge 232 135 dX6_tellTexts_132 rfl rfl (fun c132 => ?_) (fun c132 => ?_)
      · have k132 := j_ge_t (a := i) (b := 10) (by omega) (by omega) c132
        have hX : X = (none, told, s) := by rw [← he, show t = 0 by omega]; rfl
        refine e_aload_n 233 dX6_tellTexts_232 rfl rfl ?_
        refine e_iconst 234 (v := (nI 4)) dX6_tellTexts_233 rfl (by decide) ?_
        refine e_iload 236 dX6_tellTexts_234 rfl rfl ?_
        refine e_iconst 237 (v := (-1)) dX6_tellTexts_236 rfl (by decide) ?_
        refine e_icmp_ne 244 240 dX6_tellTexts_237 rfl rfl (fun c237 => absurd c237 (fun z => z rfl)) (fun c237 => ?_)
        refine e_iconst 241 (v := (nI 0)) dX6_tellTexts_240 rfl (by decide) ?_
        refine e_goto 247 dX6_tellTexts_241 rfl ?_
        refine p_callV 250 hL [2, 0, 1] 3 rfl (by decide) (L1 := [row b2 253 s]) (L2 := [shf c 10 40 T, row b cb q]) rfl row_O 2 rfl dX6_tellTexts_247 rfl cv_X6_208 (k_X4_change (by omega)) rfl rfl (Nat.le_of_ble_eq_true rfl) ⟨by decide, by omega, by omega⟩ (fun r1 L1 h q hL => ?_)
        obtain ⟨rfl, rfl⟩ := q
        have hL : stars [row b2 253 (s.set 4 0), shf c 10 40 T, row b cb q] h := hL
        have hL : stars [shf c 10 40 T, row b cb q, row b2 253 (s.set 4 0)] h := stars_ixn hL 3 rfl [1, 2, 0] (by decide) rfl
        refine e_aload_n 251 dX6_tellTexts_250 rfl rfl ?_
        refine e_iconst 252 (v := (nI 5)) dX6_tellTexts_251 rfl (by decide) ?_
        refine e_iload 254 dX6_tellTexts_252 rfl rfl ?_
        refine e_iconst 255 (v := (-1)) dX6_tellTexts_254 rfl (by decide) ?_
        refine e_icmp_ne 262 258 dX6_tellTexts_255 rfl rfl (fun c255 => absurd c255 (fun z => z rfl)) (fun c255 => ?_)
        refine e_iconst 259 (v := (nI 0)) dX6_tellTexts_258 rfl (by decide) ?_
        refine e_goto 264 dX6_tellTexts_259 rfl ?_
        refine p_callV 267 hL [2, 0, 1] 3 rfl (by decide) (L1 := [row b2 253 (s.set 4 0)]) (L2 := [shf c 10 40 T, row b cb q]) rfl row_O 2 rfl dX6_tellTexts_264 rfl cv_X6_208 (k_X4_change (by omega)) rfl rfl (Nat.le_of_ble_eq_true rfl) ⟨by decide, by omega, by omega⟩ (fun r1 L1 h q hL => ?_)
        obtain ⟨rfl, rfl⟩ := q
        have hL : stars [row b2 253 ((s.set 4 0).set 5 0), shf c 10 40 T, row b cb q] h := hL
        have hL : stars [shf c 10 40 T, row b cb q, row b2 253 ((s.set 4 0).set 5 0)] h := stars_ixn hL 3 rfl [1, 2, 0] (by decide) rfl
        refine e_aload_n 268 dX6_tellTexts_267 rfl rfl ?_
        refine e_bipush 270 (v := (nI 6)) dX6_tellTexts_268 rfl (by decide) ?_
        refine e_iload 272 dX6_tellTexts_270 rfl rfl ?_
        refine p_callV 275 hL [2, 0, 1] 3 rfl (by decide) (L1 := [row b2 253 ((s.set 4 0).set 5 0)]) (L2 := [shf c 10 40 T, row b cb q]) rfl row_O 2 rfl dX6_tellTexts_272 rfl cv_X6_208 (k_X4_change (by omega)) rfl rfl (Nat.le_of_ble_eq_true rfl) ⟨by decide, by omega, by omega⟩ (fun r1 L1 h q hL => ?_)
        obtain ⟨rfl, rfl⟩ := q
        have hL : stars [row b2 253 (((s.set 4 0).set 5 0).set 6 told), shf c 10 40 T, row b cb q] h := hL
        have hL : stars [shf c 10 40 T, row b cb q, row b2 253 (((s.set 4 0).set 5 0).set 6 told)] h := stars_ixn hL 3 rfl [1, 2, 0] (by decide) rfl
        exact e_vret dX6_tellTexts_275 rfl (by omega) (by omega) (⟨_, ⟨rfl, rfl⟩, by rw [hX]; exact hL⟩)
      · have k132 := j_ge_f (a := i) (b := 10) (by omega) (by omega) c132
        refine e_iload 137 dX6_tellTexts_135 rfl rfl ?_
        refine e_iconst 138 (v := (-1)) dX6_tellTexts_137 rfl (by decide) ?_
        refine e_icmp_eq 232 141 dX6_tellTexts_138 rfl rfl (fun c138 => ?_) (fun c138 => absurd c138 (fun z => z rfl))
        have hX : X = (none, told, s) := by rw [← he, ttL_none]
        refine e_aload_n 233 dX6_tellTexts_232 rfl rfl ?_
        refine e_iconst 234 (v := (nI 4)) dX6_tellTexts_233 rfl (by decide) ?_
        refine e_iload 236 dX6_tellTexts_234 rfl rfl ?_
        refine e_iconst 237 (v := (-1)) dX6_tellTexts_236 rfl (by decide) ?_
        refine e_icmp_ne 244 240 dX6_tellTexts_237 rfl rfl (fun c237 => absurd c237 (fun z => z rfl)) (fun c237 => ?_)
        refine e_iconst 241 (v := (nI 0)) dX6_tellTexts_240 rfl (by decide) ?_
        refine e_goto 247 dX6_tellTexts_241 rfl ?_
        refine p_callV 250 hL [2, 0, 1] 3 rfl (by decide) (L1 := [row b2 253 s]) (L2 := [shf c 10 40 T, row b cb q]) rfl row_O 2 rfl dX6_tellTexts_247 rfl cv_X6_208 (k_X4_change (by omega)) rfl rfl (Nat.le_of_ble_eq_true rfl) ⟨by decide, by omega, by omega⟩ (fun r1 L1 h q hL => ?_)
        obtain ⟨rfl, rfl⟩ := q
        have hL : stars [row b2 253 (s.set 4 0), shf c 10 40 T, row b cb q] h := hL
        have hL : stars [shf c 10 40 T, row b cb q, row b2 253 (s.set 4 0)] h := stars_ixn hL 3 rfl [1, 2, 0] (by decide) rfl
        refine e_aload_n 251 dX6_tellTexts_250 rfl rfl ?_
        refine e_iconst 252 (v := (nI 5)) dX6_tellTexts_251 rfl (by decide) ?_
        refine e_iload 254 dX6_tellTexts_252 rfl rfl ?_
        refine e_iconst 255 (v := (-1)) dX6_tellTexts_254 rfl (by decide) ?_
        refine e_icmp_ne 262 258 dX6_tellTexts_255 rfl rfl (fun c255 => absurd c255 (fun z => z rfl)) (fun c255 => ?_)
        refine e_iconst 259 (v := (nI 0)) dX6_tellTexts_258 rfl (by decide) ?_
        refine e_goto 264 dX6_tellTexts_259 rfl ?_
        refine p_callV 267 hL [2, 0, 1] 3 rfl (by decide) (L1 := [row b2 253 (s.set 4 0)]) (L2 := [shf c 10 40 T, row b cb q]) rfl row_O 2 rfl dX6_tellTexts_264 rfl cv_X6_208 (k_X4_change (by omega)) rfl rfl (Nat.le_of_ble_eq_true rfl) ⟨by decide, by omega, by omega⟩ (fun r1 L1 h q hL => ?_)
        obtain ⟨rfl, rfl⟩ := q
        have hL : stars [row b2 253 ((s.set 4 0).set 5 0), shf c 10 40 T, row b cb q] h := hL
        have hL : stars [shf c 10 40 T, row b cb q, row b2 253 ((s.set 4 0).set 5 0)] h := stars_ixn hL 3 rfl [1, 2, 0] (by decide) rfl
        refine e_aload_n 268 dX6_tellTexts_267 rfl rfl ?_
        refine e_bipush 270 (v := (nI 6)) dX6_tellTexts_268 rfl (by decide) ?_
        refine e_iload 272 dX6_tellTexts_270 rfl rfl ?_
        refine p_callV 275 hL [2, 0, 1] 3 rfl (by decide) (L1 := [row b2 253 ((s.set 4 0).set 5 0)]) (L2 := [shf c 10 40 T, row b cb q]) rfl row_O 2 rfl dX6_tellTexts_272 rfl cv_X6_208 (k_X4_change (by omega)) rfl rfl (Nat.le_of_ble_eq_true rfl) ⟨by decide, by omega, by omega⟩ (fun r1 L1 h q hL => ?_)
        obtain ⟨rfl, rfl⟩ := q
        have hL : stars [row b2 253 (((s.set 4 0).set 5 0).set 6 told), shf c 10 40 T, row b cb q] h := hL
        have hL : stars [shf c 10 40 T, row b cb q, row b2 253 (((s.set 4 0).set 5 0).set 6 told)] h := stars_ixn hL 3 rfl [1, 2, 0] (by decide) rfl
        exact e_vret dX6_tellTexts_275 rfl (by omega) (by omega) (⟨_, ⟨rfl, rfl⟩, by rw [hX]; exact hL⟩)
    · have hk := ho k rfl
      refine e_wk [some (.ref c), some (.ref b), some (.ref b2), some (.int (nI code)), some (.int (nI last)), some (.int (nI k)), none, some (.int (nI told)), some (.int (nI i)), none] ⟨rfl, rfl, rfl, rfl, rfl, rfl, rfl, rfl, trivial⟩ ?_
      skip
      refine e_iload 130 dX6_tellTexts_128 rfl rfl ?_
      refine e_bipush 132 (v := (nI 10)) dX6_tellTexts_130 rfl (by decide) ?_
      refine e_icmp_ge 232 135 dX6_tellTexts_132 rfl rfl (fun c132 => ?_) (fun c132 => ?_)
      · have k132 := j_ge_t (a := i) (b := 10) (by omega) (by omega) c132
        have hX : X = ((some k), told, s) := by rw [← he, show t = 0 by omega]; rfl
        refine e_aload_n 233 dX6_tellTexts_232 rfl rfl ?_
        refine e_iconst 234 (v := (nI 4)) dX6_tellTexts_233 rfl (by decide) ?_
        refine e_iload 236 dX6_tellTexts_234 rfl rfl ?_
        refine e_iconst 237 (v := (-1)) dX6_tellTexts_236 rfl (by decide) ?_
        refine e_icmp_ne 244 240 dX6_tellTexts_237 rfl rfl (fun c237 => ?_) (fun c237 => absurd c237 (nI_ne_m1 (by omega)))
        refine e_sipush 247 (v := (nI 255)) dX6_tellTexts_244 rfl (by decide) ?_
        refine p_callV 250 hL [2, 0, 1] 3 rfl (by decide) (L1 := [row b2 253 s]) (L2 := [shf c 10 40 T, row b cb q]) rfl row_O 2 rfl dX6_tellTexts_247 rfl cv_X6_208 (k_X4_change (by omega)) rfl rfl (Nat.le_of_ble_eq_true rfl) ⟨by decide, by omega, by omega⟩ (fun r1 L1 h q hL => ?_)
        obtain ⟨rfl, rfl⟩ := q
        have hL : stars [row b2 253 (s.set 4 255), shf c 10 40 T, row b cb q] h := hL
        have hL : stars [shf c 10 40 T, row b cb q, row b2 253 (s.set 4 255)] h := stars_ixn hL 3 rfl [1, 2, 0] (by decide) rfl
        refine e_aload_n 251 dX6_tellTexts_250 rfl rfl ?_
        refine e_iconst 252 (v := (nI 5)) dX6_tellTexts_251 rfl (by decide) ?_
        refine e_iload 254 dX6_tellTexts_252 rfl rfl ?_
        refine e_iconst 255 (v := (-1)) dX6_tellTexts_254 rfl (by decide) ?_
        refine e_icmp_ne 262 258 dX6_tellTexts_255 rfl rfl (fun c255 => ?_) (fun c255 => absurd c255 (nI_ne_m1 (by omega)))
        refine e_iload 264 dX6_tellTexts_262 rfl rfl ?_
        refine p_callV 267 hL [2, 0, 1] 3 rfl (by decide) (L1 := [row b2 253 (s.set 4 255)]) (L2 := [shf c 10 40 T, row b cb q]) rfl row_O 2 rfl dX6_tellTexts_264 rfl cv_X6_208 (k_X4_change (by omega)) rfl rfl (Nat.le_of_ble_eq_true rfl) ⟨by decide, by omega, by omega⟩ (fun r1 L1 h q hL => ?_)
        obtain ⟨rfl, rfl⟩ := q
        have hL : stars [row b2 253 ((s.set 4 255).set 5 k), shf c 10 40 T, row b cb q] h := hL
        have hL : stars [shf c 10 40 T, row b cb q, row b2 253 ((s.set 4 255).set 5 k)] h := stars_ixn hL 3 rfl [1, 2, 0] (by decide) rfl
        refine e_aload_n 268 dX6_tellTexts_267 rfl rfl ?_
        refine e_bipush 270 (v := (nI 6)) dX6_tellTexts_268 rfl (by decide) ?_
        refine e_iload 272 dX6_tellTexts_270 rfl rfl ?_
        refine p_callV 275 hL [2, 0, 1] 3 rfl (by decide) (L1 := [row b2 253 ((s.set 4 255).set 5 k)]) (L2 := [shf c 10 40 T, row b cb q]) rfl row_O 2 rfl dX6_tellTexts_272 rfl cv_X6_208 (k_X4_change (by omega)) rfl rfl (Nat.le_of_ble_eq_true rfl) ⟨by decide, by omega, by omega⟩ (fun r1 L1 h q hL => ?_)
        obtain ⟨rfl, rfl⟩ := q
        have hL : stars [row b2 253 (((s.set 4 255).set 5 k).set 6 told), shf c 10 40 T, row b cb q] h := hL
        have hL : stars [shf c 10 40 T, row b cb q, row b2 253 (((s.set 4 255).set 5 k).set 6 told)] h := stars_ixn hL 3 rfl [1, 2, 0] (by decide) rfl
        exact e_vret dX6_tellTexts_275 rfl (by omega) (by omega) (⟨_, ⟨rfl, rfl⟩, by rw [hX]; exact hL⟩)
      · have k132 := j_ge_f (a := i) (b := 10) (by omega) (by omega) c132
        refine e_iload 137 dX6_tellTexts_135 rfl rfl ?_
        refine e_iconst 138 (v := (-1)) dX6_tellTexts_137 rfl (by decide) ?_
        refine e_icmp_eq 232 141 dX6_tellTexts_138 rfl rfl (fun c138 => absurd c138 (nI_ne_m1 (by omega))) (fun c138 => ?_)
        refine e_aload_n 142 dX6_tellTexts_141 rfl rfl ?_
        refine e_iload 144 dX6_tellTexts_142 rfl rfl ?_
        obtain ⟨K144, C144, hM144, hL⟩ := shf_o hL
        refine p_callV 147 hL [0, 1, 2, 3] 4 rfl (by decide) (L1 := [shB c 10 40 K144]) (L2 := [rws 40 K144 C144, row b cb q, row b2 253 s]) rfl shB_O 0 rfl dX6_tellTexts_144 rfl cv_X6_98 k_X8_find rfl rfl (Nat.le_of_ble_eq_true rfl) ⟨by decide, by omega, by omega⟩ (fun r1 L1 h q hL => ?_)
        obtain ⟨rfl, rfl⟩ := q
        have hL : stars [shB c 10 40 K144, rws 40 K144 C144, row b cb q, row b2 253 s] h := hL
        rcases shf_r (nI k) hM144 hL with ⟨hx144, hk144, hL⟩ | ⟨i144, a144, R144, hx144, hi144, hk144, hL, hb144⟩
        · rw [hk144]
          refine e_astoreN 149 (ls' := [some (.ref c), some (.ref b), some (.ref b2), some (.int (nI code)), some (.int (nI last)), some (.int (nI k)), none, some (.int (nI told)), some (.int (nI i)), some .null]) dX6_tellTexts_147 rfl (by decide) rfl ?_
          refine e_aloadN 151 dX6_tellTexts_149 rfl rfl ?_
          refine e_ifnullN 232 dX6_tellTexts_151 rfl ?_
          have hX : X = ((some k), told, s) := by rw [← he, show t = t - 1 + 1 by omega, ttL_n hx144]
          refine e_aload_n 233 dX6_tellTexts_232 rfl rfl ?_
          refine e_iconst 234 (v := (nI 4)) dX6_tellTexts_233 rfl (by decide) ?_
          refine e_iload 236 dX6_tellTexts_234 rfl rfl ?_
          refine e_iconst 237 (v := (-1)) dX6_tellTexts_236 rfl (by decide) ?_
          refine e_icmp_ne 244 240 dX6_tellTexts_237 rfl rfl (fun c237 => ?_) (fun c237 => absurd c237 (nI_ne_m1 (by omega)))
          refine e_sipush 247 (v := (nI 255)) dX6_tellTexts_244 rfl (by decide) ?_
          refine p_callV 250 hL [2, 0, 1] 3 rfl (by decide) (L1 := [row b2 253 s]) (L2 := [shf c 10 40 T, row b cb q]) rfl row_O 2 rfl dX6_tellTexts_247 rfl cv_X6_208 (k_X4_change (by omega)) rfl rfl (Nat.le_of_ble_eq_true rfl) ⟨by decide, by omega, by omega⟩ (fun r1 L1 h q hL => ?_)
          obtain ⟨rfl, rfl⟩ := q
          have hL : stars [row b2 253 (s.set 4 255), shf c 10 40 T, row b cb q] h := hL
          have hL : stars [shf c 10 40 T, row b cb q, row b2 253 (s.set 4 255)] h := stars_ixn hL 3 rfl [1, 2, 0] (by decide) rfl
          refine e_aload_n 251 dX6_tellTexts_250 rfl rfl ?_
          refine e_iconst 252 (v := (nI 5)) dX6_tellTexts_251 rfl (by decide) ?_
          refine e_iload 254 dX6_tellTexts_252 rfl rfl ?_
          refine e_iconst 255 (v := (-1)) dX6_tellTexts_254 rfl (by decide) ?_
          refine e_icmp_ne 262 258 dX6_tellTexts_255 rfl rfl (fun c255 => ?_) (fun c255 => absurd c255 (nI_ne_m1 (by omega)))
          refine e_iload 264 dX6_tellTexts_262 rfl rfl ?_
          refine p_callV 267 hL [2, 0, 1] 3 rfl (by decide) (L1 := [row b2 253 (s.set 4 255)]) (L2 := [shf c 10 40 T, row b cb q]) rfl row_O 2 rfl dX6_tellTexts_264 rfl cv_X6_208 (k_X4_change (by omega)) rfl rfl (Nat.le_of_ble_eq_true rfl) ⟨by decide, by omega, by omega⟩ (fun r1 L1 h q hL => ?_)
          obtain ⟨rfl, rfl⟩ := q
          have hL : stars [row b2 253 ((s.set 4 255).set 5 k), shf c 10 40 T, row b cb q] h := hL
          have hL : stars [shf c 10 40 T, row b cb q, row b2 253 ((s.set 4 255).set 5 k)] h := stars_ixn hL 3 rfl [1, 2, 0] (by decide) rfl
          refine e_aload_n 268 dX6_tellTexts_267 rfl rfl ?_
          refine e_bipush 270 (v := (nI 6)) dX6_tellTexts_268 rfl (by decide) ?_
          refine e_iload 272 dX6_tellTexts_270 rfl rfl ?_
          refine p_callV 275 hL [2, 0, 1] 3 rfl (by decide) (L1 := [row b2 253 ((s.set 4 255).set 5 k)]) (L2 := [shf c 10 40 T, row b cb q]) rfl row_O 2 rfl dX6_tellTexts_272 rfl cv_X6_208 (k_X4_change (by omega)) rfl rfl (Nat.le_of_ble_eq_true rfl) ⟨by decide, by omega, by omega⟩ (fun r1 L1 h q hL => ?_)
          obtain ⟨rfl, rfl⟩ := q
          have hL : stars [row b2 253 (((s.set 4 255).set 5 k).set 6 told), shf c 10 40 T, row b cb q] h := hL
          have hL : stars [shf c 10 40 T, row b cb q, row b2 253 (((s.set 4 255).set 5 k).set 6 told)] h := stars_ixn hL 3 rfl [1, 2, 0] (by decide) rfl
          exact e_vret dX6_tellTexts_275 rfl (by omega) (by omega) (⟨_, ⟨rfl, rfl⟩, by rw [hX]; exact hL⟩)
        · rw [hk144]
          have hle144 := row_len _ 0 hL rfl
          refine e_astore 149 (ls' := [some (.ref c), some (.ref b), some (.ref b2), some (.int (nI code)), some (.int (nI last)), some (.int (nI k)), none, some (.int (nI told)), some (.int (nI i)), some (.ref a144)]) dX6_tellTexts_147 rfl (by decide) rfl ?_
          refine e_aload 151 dX6_tellTexts_149 rfl rfl ?_
          refine e_ifnull 154 dX6_tellTexts_151 rfl ?_
          refine e_aload_n 155 dX6_tellTexts_154 rfl rfl ?_
          obtain ⟨z155, y155⟩ := row_at _ 3 hL rfl
          refine e_get 158 dX6_tellTexts_155 rfl fl_X6_104_4 y155 rfl ?_
          refine e_iconst 159 (v := (nI 2)) dX6_tellTexts_158 rfl (by decide) ?_
          refine e_iadd 160 (v := (nI (s.length + 2))) dX6_tellTexts_159 rfl (nI_add s.length 2) ?_
          refine e_aload 162 dX6_tellTexts_160 rfl rfl ?_
          obtain ⟨z162, y162⟩ := row_at _ 0 hL rfl
          refine e_get 165 dX6_tellTexts_162 rfl fl_X6_104_4 y162 rfl ?_
          refine e_iadd 166 (v := (nI ((s.length + 2) + (rwM T i144).length))) dX6_tellTexts_165 rfl (nI_add (s.length + 2) ((rwM T i144).length)) ?_
          refine e_sipush 169 (v := (nI 253)) dX6_tellTexts_166 rfl (by decide) ?_
          refine e_icmp_le 175 172 dX6_tellTexts_169 rfl rfl (fun c169 => ?_) (fun c169 => ?_)
          · have k169 := j_le_t (a := ((s.length + 2) + (rwM T i144).length)) (b := 253) (by omega) (by omega) c169
            refine e_aload_n 176 dX6_tellTexts_175 rfl rfl ?_
            refine e_iload 178 dX6_tellTexts_176 rfl rfl ?_
            refine p_callV 181 hL [3, 0, 1, 2] 4 rfl (by decide) (L1 := [row b2 253 s]) (L2 := [row a144 40 (rwM T i144), R144, row b cb q]) rfl row_O 3 rfl dX6_tellTexts_178 rfl cv_X6_40 (k_add1 (by (try simp only [List.length_append, List.length_cons, List.length_nil]); omega)) rfl rfl (Nat.le_of_ble_eq_true rfl) ⟨by decide, by omega, by omega⟩ (fun r1 L1 h q hL => ?_)
            obtain ⟨rfl, rfl⟩ := q
            have hL : stars [row b2 253 (s ++ [k]), row a144 40 (rwM T i144), R144, row b cb q] h := hL
            have hL : stars [row a144 40 (rwM T i144), R144, row b cb q, row b2 253 (s ++ [k])] h := stars_ixn hL 4 rfl [1, 2, 3, 0] (by decide) rfl
            refine e_aload_n 182 dX6_tellTexts_181 rfl rfl ?_
            refine e_aload 184 dX6_tellTexts_182 rfl rfl ?_
            obtain ⟨z184, y184⟩ := row_at _ 0 hL rfl
            refine e_get 187 dX6_tellTexts_184 rfl fl_X6_104_4 y184 rfl ?_
            refine p_callV 190 hL [3, 0, 1, 2] 4 rfl (by decide) (L1 := [row b2 253 (s ++ [k])]) (L2 := [row a144 40 (rwM T i144), R144, row b cb q]) rfl row_O 3 rfl dX6_tellTexts_187 rfl cv_X6_40 (k_add1 (by (try simp only [List.length_append, List.length_cons, List.length_nil]); omega)) rfl rfl (Nat.le_of_ble_eq_true rfl) ⟨by decide, by omega, by omega⟩ (fun r1 L1 h q hL => ?_)
            obtain ⟨rfl, rfl⟩ := q
            have hL : stars [row b2 253 ((s ++ [k]) ++ [(rwM T i144).length]), row a144 40 (rwM T i144), R144, row b cb q] h := hL
            have hL : stars [row a144 40 (rwM T i144), R144, row b cb q, row b2 253 ((s ++ [k]) ++ [(rwM T i144).length])] h := stars_ixn hL 4 rfl [1, 2, 3, 0] (by decide) rfl
            refine e_aload_n 191 dX6_tellTexts_190 rfl rfl ?_
            refine e_aload 193 dX6_tellTexts_191 rfl rfl ?_
            refine e_iconst 194 (v := (nI 0)) dX6_tellTexts_193 rfl (by decide) ?_
            refine e_aload 196 dX6_tellTexts_194 rfl rfl ?_
            obtain ⟨z196, y196⟩ := row_at _ 0 hL rfl
            refine e_get 199 dX6_tellTexts_196 rfl fl_X6_104_4 y196 rfl ?_
            refine p_callV 202 hL [3, 0, 1, 2] 4 rfl (by decide) (L1 := [row b2 253 ((s ++ [k]) ++ [(rwM T i144).length]), row a144 40 (rwM T i144)]) (L2 := [R144, row b cb q]) rfl row_O 3 rfl dX6_tellTexts_199 rfl cv_X6_134 (k_addP (by omega) (by omega) (by simp only [List.length_append, List.length_cons, List.length_nil, pf_len, w2_len, List.length_map, List.length_range]; omega)) rfl rfl (Nat.le_of_ble_eq_true rfl) ⟨by decide, by omega, by omega⟩ (fun r1 L1 h q hL => ?_)
            obtain ⟨rfl, rfl⟩ := q
            have hL : stars [row b2 253 (((s ++ [k]) ++ [(rwM T i144).length]) ++ pf (rwM T i144) 0 ((rwM T i144).length)), row a144 40 (rwM T i144), R144, row b cb q] h := hL
            have hL : stars [row a144 40 (rwM T i144), R144, row b cb q, row b2 253 (((s ++ [k]) ++ [(rwM T i144).length]) ++ pf (rwM T i144) 0 ((rwM T i144).length))] h := stars_ixn hL 4 rfl [1, 2, 3, 0] (by decide) rfl
            rw [pf_self] at hL
            have hL : stars [row a144 40 (rwM T i144), R144, row b cb q, row b2 253 (((s ++ [k]) ++ [(rwM T i144).length]) ++ rwM T i144)] h := hL
            refine e_iinc 205 (v := (nI (told + 1))) (ls' := [some (.ref c), some (.ref b), some (.ref b2), some (.int (nI code)), some (.int (nI last)), some (.int (nI k)), none, some (.int (nI (told + 1))), some (.int (nI i)), some (.ref a144)]) dX6_tellTexts_202 rfl rfl (nI_add told 1) (by decide) rfl ?_
            have hL := hb144 _ _ _ hL
            rw [stM_self hi144] at hL
            have hL : stars [shf c 10 40 T, row b cb q, row b2 253 (((s ++ [k]) ++ [(rwM T i144).length]) ++ rwM T i144)] h := hL
            refine e_iload_n 206 dX6_tellTexts_205 rfl rfl ?_
            refine e_iconst 207 (v := (nI 4)) dX6_tellTexts_206 rfl (by decide) ?_
            refine e_icmp_ne 214 210 dX6_tellTexts_207 rfl rfl (fun c207 => ?_) (fun c207 => ?_)
            · have k207 := j_ne_t (a := code) (b := 4) (by omega) (by omega) c207
              refine e_aload_n 215 dX6_tellTexts_214 rfl rfl ?_
              refine e_iload 217 dX6_tellTexts_215 rfl rfl ?_
              refine e_iconst 218 (v := (nI 1)) dX6_tellTexts_217 rfl (by decide) ?_
              refine e_iadd 219 (v := (nI (k + 1))) dX6_tellTexts_218 rfl (nI_add k 1) ?_
              refine e_iload 221 dX6_tellTexts_219 rfl rfl ?_
              obtain ⟨K221, C221, hM221, hL⟩ := shf_o hL
              refine p_callV 224 hL [0, 1, 2, 3] 4 rfl (by decide) (L1 := [shB c 10 40 K221]) (L2 := [rws 40 K221 C221, row b cb q, row b2 253 (((s ++ [k]) ++ [(rwM T i144).length]) ++ rwM T i144)]) rfl shB_O 0 rfl dX6_tellTexts_221 rfl cv_X6_211 (k_X8_leastKey (by omega) (by omega)) rfl rfl (Nat.le_of_ble_eq_true rfl) ⟨by decide, by omega, by omega⟩ (fun r1 L1 h q hL => ?_)
              obtain ⟨rfl, rfl⟩ := q
              have hL : stars [shB c 10 40 K221, rws 40 K221 C221, row b cb q, row b2 253 (((s ++ [k]) ++ [(rwM T i144).length]) ++ rwM T i144)] h := hL
              have hL := shf_c hM221 hL
              rw [mp_keys hM221]
              have hL : stars [shf c 10 40 T, row b cb q, row b2 253 (((s ++ [k]) ++ [(rwM T i144).length]) ++ rwM T i144)] h := hL
              refine e_istore 226 (ls' := [some (.ref c), some (.ref b), some (.ref b2), some (.int (nI code)), some (.int (nI last)), some (.int (oI (lsT T (k + 1) last))), none, some (.int (nI (told + 1))), some (.int (nI i)), some (.ref a144)]) dX6_tellTexts_224 rfl (by decide) rfl ?_
              refine e_iinc 229 (v := (nI (i + 1))) (ls' := [some (.ref c), some (.ref b), some (.ref b2), some (.int (nI code)), some (.int (nI last)), some (.int (oI (lsT T (k + 1) last))), none, some (.int (nI (told + 1))), some (.int (nI (i + 1))), some (.ref a144)]) dX6_tellTexts_226 rfl rfl (nI_add i 1) (by decide) rfl ?_
              refine e_goto 128 dX6_tellTexts_229 rfl ?_
              obtain ⟨t, rfl⟩ : ∃ t1, t = t1 + 1 := ⟨t - 1, by omega⟩
              refine e_wk [some (.ref c), some (.ref b), some (.ref b2), some (.int (nI code)), some (.int (nI last)), some (.int (oI (lsT T (k + 1) last))), none, some (.int (nI (told + 1))), some (.int (nI (i + 1))), none] ⟨rfl, rfl, rfl, rfl, rfl, rfl, rfl, rfl, trivial⟩ ?_
              exact ih t (i + 1) (told + 1) (lsT T (k + 1) last) (((s ++ [k]) ++ [(rwM T i144).length]) ++ rwM T i144) h (by omega) (by omega) (by omega) (by simp only [List.length_append, List.length_cons, List.length_nil]; omega) (lsT_lt hle9.2) (by rw [← he, ttL_s hx144 (by omega), if_neg (by omega)]) hL
            · have k207 := j_ne_f (a := code) (b := 4) (by omega) (by omega) c207
              refine e_iconst 211 (v := (-1)) dX6_tellTexts_210 rfl (by decide) ?_
              refine e_goto 224 dX6_tellTexts_211 rfl ?_
              refine e_istore 226 (ls' := [some (.ref c), some (.ref b), some (.ref b2), some (.int (nI code)), some (.int (nI last)), some (.int (-1)), none, some (.int (nI (told + 1))), some (.int (nI i)), some (.ref a144)]) dX6_tellTexts_224 rfl (by decide) rfl ?_
              refine e_iinc 229 (v := (nI (i + 1))) (ls' := [some (.ref c), some (.ref b), some (.ref b2), some (.int (nI code)), some (.int (nI last)), some (.int (-1)), none, some (.int (nI (told + 1))), some (.int (nI (i + 1))), some (.ref a144)]) dX6_tellTexts_226 rfl rfl (nI_add i 1) (by decide) rfl ?_
              refine e_goto 128 dX6_tellTexts_229 rfl ?_
              obtain ⟨t, rfl⟩ : ∃ t1, t = t1 + 1 := ⟨t - 1, by omega⟩
              refine e_wk [some (.ref c), some (.ref b), some (.ref b2), some (.int (nI code)), some (.int (nI last)), some (.int (oI none)), none, some (.int (nI (told + 1))), some (.int (nI (i + 1))), none] ⟨rfl, rfl, rfl, rfl, rfl, rfl, rfl, rfl, trivial⟩ ?_
              exact ih t (i + 1) (told + 1) none (((s ++ [k]) ++ [(rwM T i144).length]) ++ rwM T i144) h (by omega) (by omega) (by omega) (by simp only [List.length_append, List.length_cons, List.length_nil]; omega) (fun z hz => by cases hz) (by rw [← he, ttL_s hx144 (by omega), if_pos (by omega)]) hL
          · have k169 := j_le_f (a := ((s.length + 2) + (rwM T i144).length)) (b := 253) (by omega) (by omega) c169
            refine e_goto 232 dX6_tellTexts_172 rfl ?_
            have hL := hb144 _ _ _ hL
            rw [stM_self hi144] at hL
            have hL : stars [shf c 10 40 T, row b cb q, row b2 253 s] h := hL
            have hX : X = ((some k), told, s) := by rw [← he, show t = t - 1 + 1 by omega, ttL_f hx144 (by omega)]
            refine e_aload_n 233 dX6_tellTexts_232 rfl rfl ?_
            refine e_iconst 234 (v := (nI 4)) dX6_tellTexts_233 rfl (by decide) ?_
            refine e_iload 236 dX6_tellTexts_234 rfl rfl ?_
            refine e_iconst 237 (v := (-1)) dX6_tellTexts_236 rfl (by decide) ?_
            refine e_icmp_ne 244 240 dX6_tellTexts_237 rfl rfl (fun c237 => ?_) (fun c237 => absurd c237 (nI_ne_m1 (by omega)))
            refine e_sipush 247 (v := (nI 255)) dX6_tellTexts_244 rfl (by decide) ?_
            refine p_callV 250 hL [2, 0, 1] 3 rfl (by decide) (L1 := [row b2 253 s]) (L2 := [shf c 10 40 T, row b cb q]) rfl row_O 2 rfl dX6_tellTexts_247 rfl cv_X6_208 (k_X4_change (by omega)) rfl rfl (Nat.le_of_ble_eq_true rfl) ⟨by decide, by omega, by omega⟩ (fun r1 L1 h q hL => ?_)
            obtain ⟨rfl, rfl⟩ := q
            have hL : stars [row b2 253 (s.set 4 255), shf c 10 40 T, row b cb q] h := hL
            have hL : stars [shf c 10 40 T, row b cb q, row b2 253 (s.set 4 255)] h := stars_ixn hL 3 rfl [1, 2, 0] (by decide) rfl
            refine e_aload_n 251 dX6_tellTexts_250 rfl rfl ?_
            refine e_iconst 252 (v := (nI 5)) dX6_tellTexts_251 rfl (by decide) ?_
            refine e_iload 254 dX6_tellTexts_252 rfl rfl ?_
            refine e_iconst 255 (v := (-1)) dX6_tellTexts_254 rfl (by decide) ?_
            refine e_icmp_ne 262 258 dX6_tellTexts_255 rfl rfl (fun c255 => ?_) (fun c255 => absurd c255 (nI_ne_m1 (by omega)))
            refine e_iload 264 dX6_tellTexts_262 rfl rfl ?_
            refine p_callV 267 hL [2, 0, 1] 3 rfl (by decide) (L1 := [row b2 253 (s.set 4 255)]) (L2 := [shf c 10 40 T, row b cb q]) rfl row_O 2 rfl dX6_tellTexts_264 rfl cv_X6_208 (k_X4_change (by omega)) rfl rfl (Nat.le_of_ble_eq_true rfl) ⟨by decide, by omega, by omega⟩ (fun r1 L1 h q hL => ?_)
            obtain ⟨rfl, rfl⟩ := q
            have hL : stars [row b2 253 ((s.set 4 255).set 5 k), shf c 10 40 T, row b cb q] h := hL
            have hL : stars [shf c 10 40 T, row b cb q, row b2 253 ((s.set 4 255).set 5 k)] h := stars_ixn hL 3 rfl [1, 2, 0] (by decide) rfl
            refine e_aload_n 268 dX6_tellTexts_267 rfl rfl ?_
            refine e_bipush 270 (v := (nI 6)) dX6_tellTexts_268 rfl (by decide) ?_
            refine e_iload 272 dX6_tellTexts_270 rfl rfl ?_
            refine p_callV 275 hL [2, 0, 1] 3 rfl (by decide) (L1 := [row b2 253 ((s.set 4 255).set 5 k)]) (L2 := [shf c 10 40 T, row b cb q]) rfl row_O 2 rfl dX6_tellTexts_272 rfl cv_X6_208 (k_X4_change (by omega)) rfl rfl (Nat.le_of_ble_eq_true rfl) ⟨by decide, by omega, by omega⟩ (fun r1 L1 h q hL => ?_)
            obtain ⟨rfl, rfl⟩ := q
            have hL : stars [row b2 253 (((s.set 4 255).set 5 k).set 6 told), shf c 10 40 T, row b cb q] h := hL
            have hL : stars [shf c 10 40 T, row b cb q, row b2 253 (((s.set 4 255).set 5 k).set 6 told)] h := stars_ixn hL 3 rfl [1, 2, 0] (by decide) rfl
            exact e_vret dX6_tellTexts_275 rfl (by omega) (by omega) (⟨_, ⟨rfl, rfl⟩, by rw [hX]; exact hL⟩)
set_option maxRecDepth 20000 in
set_option maxHeartbeats 2000000 in
theorem l_X6_tellTexts_b {c b cb b2 code last : Nat} {T : List (Nat × List Nat)} {q : List Nat} {o : Option Nat} (hcode : code < 256) (hlast : last < 256) (ho : ∀ z, o = some z → z < 65536) (h : eH) (hL : stars [shf c 10 40 T, row b cb q, row b2 253 ([])] h) : EE mX6_tellTexts 1 40 0 0 (fun r h' => ∃ L', (r = none ∧ L' = [shf c 10 40 T, row b cb q, row b2 253 (ttE (ttL T code last 10 o 0 (ttH T q)))]) ∧ stars L' h') 62 [some (.ref c), some (.ref b), some (.ref b2), some (.int (nI code)), some (.int (nI last)), some (.int (oI o)), none, none, none, none] [] h 0 0 := by
  have hle9 := shf_le _ 0 hL rfl
  refine e_aload_n 63 dX6_tellTexts_62 rfl rfl ?_
  refine e_aload_n 64 dX6_tellTexts_63 rfl rfl ?_
  refine e_iconst 65 (v := (nI 0)) dX6_tellTexts_64 rfl (by decide) ?_
  refine e_iconst 66 (v := (nI 3)) dX6_tellTexts_65 rfl (by decide) ?_
  refine p_callV 69 hL [2, 1, 0] 3 rfl (by decide) (L1 := [row b2 253 ([]), row b cb q]) (L2 := [shf c 10 40 T]) rfl row_O 2 rfl dX6_tellTexts_66 rfl cv_X6_134 (k_addP (by omega) (by omega) (by simp only [List.length_append, List.length_cons, List.length_nil, pf_len, w2_len, List.length_map, List.length_range]; omega)) rfl rfl (Nat.le_of_ble_eq_true rfl) ⟨by decide, by omega, by omega⟩ (fun r1 L1 h q hL => ?_)
  obtain ⟨rfl, rfl⟩ := q
  have hL : stars [row b2 253 ([] ++ pf q 0 3), row b cb q, shf c 10 40 T] h := hL
  have hL : stars [shf c 10 40 T, row b cb q, row b2 253 ([] ++ pf q 0 3)] h := stars_ixn hL 3 rfl [2, 1, 0] (by decide) rfl
  refine e_aload_n 70 dX6_tellTexts_69 rfl rfl ?_
  obtain ⟨K70, C70, hM70, hL⟩ := shf_o hL
  refine p_callV 73 hL [0, 1, 2, 3] 4 rfl (by decide) (L1 := [shB c 10 40 K70]) (L2 := [rws 40 K70 C70, row b cb q, row b2 253 ([] ++ pf q 0 3)]) rfl shB_O 0 rfl dX6_tellTexts_70 rfl cv_X6_214 k_X8_greatestKey rfl rfl (Nat.le_of_ble_eq_true rfl) ⟨by decide, by omega, by omega⟩ (fun r1 L1 h q hL => ?_)
  obtain ⟨rfl, rfl⟩ := q
  have hL : stars [shB c 10 40 K70, rws 40 K70 C70, row b cb q, row b2 253 ([] ++ pf q 0 3)] h := hL
  have hL := shf_c hM70 hL
  rw [mp_keys hM70]
  have hL : stars [shf c 10 40 T, row b cb q, row b2 253 ([] ++ pf q 0 3)] h := hL
  refine e_istore 75 (ls' := [some (.ref c), some (.ref b), some (.ref b2), some (.int (nI code)), some (.int (nI last)), some (.int (oI o)), some (.int (oI (gtT T))), none, none, none]) dX6_tellTexts_73 rfl (by decide) rfl ?_
  have hg9 := gtT_lt hle9.2
  generalize hg : gtT T = g9
  rcases g9 with _ | g
  · refine e_wk [some (.ref c), some (.ref b), some (.ref b2), some (.int (nI code)), some (.int (nI last)), some (.int (oI o)), some (.int (-1)), none, none, none] ⟨rfl, rfl, rfl, rfl, rfl, rfl, rfl, trivial⟩ ?_
    skip
    refine e_aload_n 76 dX6_tellTexts_75 rfl rfl ?_
    refine e_iload 78 dX6_tellTexts_76 rfl rfl ?_
    refine e_bipush 80 (v := (nI 6)) dX6_tellTexts_78 rfl (by decide) ?_
    refine e_icmp_le 89 83 dX6_tellTexts_80 rfl rfl (fun c80 => ?_) (fun c80 => absurd c80 (fun z => z (by decide)))
    refine e_iload 91 dX6_tellTexts_89 rfl rfl ?_
    refine e_iconst 92 (v := (nI 2)) dX6_tellTexts_91 rfl (by decide) ?_
    refine e_icmp_le 101 95 dX6_tellTexts_92 rfl rfl (fun c92 => ?_) (fun c92 => absurd c92 (fun z => z (by decide)))
    refine e_sipush 104 (v := (nI 129)) dX6_tellTexts_101 rfl (by decide) ?_
    have hG : ttG T = 129 := by rw [ttG, show gtT T = none from hg]
    rw [← hG]
    refine p_callV 107 hL [2, 0, 1] 3 rfl (by decide) (L1 := [row b2 253 ([] ++ pf q 0 3)]) (L2 := [shf c 10 40 T, row b cb q]) rfl row_O 2 rfl dX6_tellTexts_104 rfl cv_X6_40 (k_add1 (by simp only [List.length_append, List.length_cons, List.length_nil, pf_len, w2_len, List.length_map, List.length_range]; omega)) rfl rfl (Nat.le_of_ble_eq_true rfl) ⟨by decide, by omega, by omega⟩ (fun r1 L1 h q hL => ?_)
    obtain ⟨rfl, rfl⟩ := q
    have hL : stars [row b2 253 (([] ++ pf q 0 3) ++ [(ttG T)]), shf c 10 40 T, row b cb q] h := hL
    have hL : stars [shf c 10 40 T, row b cb q, row b2 253 (([] ++ pf q 0 3) ++ [(ttG T)])] h := stars_ixn hL 3 rfl [1, 2, 0] (by decide) rfl
    refine e_aload_n 108 dX6_tellTexts_107 rfl rfl ?_
    refine e_iconst 109 (v := (nI 0)) dX6_tellTexts_108 rfl (by decide) ?_
    refine p_callV 112 hL [2, 0, 1] 3 rfl (by decide) (L1 := [row b2 253 (([] ++ pf q 0 3) ++ [(ttG T)])]) (L2 := [shf c 10 40 T, row b cb q]) rfl row_O 2 rfl dX6_tellTexts_109 rfl cv_X6_40 (k_add1 (by simp only [List.length_append, List.length_cons, List.length_nil, pf_len, w2_len, List.length_map, List.length_range]; omega)) rfl rfl (Nat.le_of_ble_eq_true rfl) ⟨by decide, by omega, by omega⟩ (fun r1 L1 h q hL => ?_)
    obtain ⟨rfl, rfl⟩ := q
    have hL : stars [row b2 253 ((([] ++ pf q 0 3) ++ [(ttG T)]) ++ [0]), shf c 10 40 T, row b cb q] h := hL
    have hL : stars [shf c 10 40 T, row b cb q, row b2 253 ((([] ++ pf q 0 3) ++ [(ttG T)]) ++ [0])] h := stars_ixn hL 3 rfl [1, 2, 0] (by decide) rfl
    refine e_aload_n 113 dX6_tellTexts_112 rfl rfl ?_
    refine e_iconst 114 (v := (nI 0)) dX6_tellTexts_113 rfl (by decide) ?_
    refine p_callV 117 hL [2, 0, 1] 3 rfl (by decide) (L1 := [row b2 253 ((([] ++ pf q 0 3) ++ [(ttG T)]) ++ [0])]) (L2 := [shf c 10 40 T, row b cb q]) rfl row_O 2 rfl dX6_tellTexts_114 rfl cv_X6_40 (k_add1 (by simp only [List.length_append, List.length_cons, List.length_nil, pf_len, w2_len, List.length_map, List.length_range]; omega)) rfl rfl (Nat.le_of_ble_eq_true rfl) ⟨by decide, by omega, by omega⟩ (fun r1 L1 h q hL => ?_)
    obtain ⟨rfl, rfl⟩ := q
    have hL : stars [row b2 253 (((([] ++ pf q 0 3) ++ [(ttG T)]) ++ [0]) ++ [0]), shf c 10 40 T, row b cb q] h := hL
    have hL : stars [shf c 10 40 T, row b cb q, row b2 253 (((([] ++ pf q 0 3) ++ [(ttG T)]) ++ [0]) ++ [0])] h := stars_ixn hL 3 rfl [1, 2, 0] (by decide) rfl
    refine e_aload_n 118 dX6_tellTexts_117 rfl rfl ?_
    refine e_iconst 119 (v := (nI 0)) dX6_tellTexts_118 rfl (by decide) ?_
    refine p_callV 122 hL [2, 0, 1] 3 rfl (by decide) (L1 := [row b2 253 (((([] ++ pf q 0 3) ++ [(ttG T)]) ++ [0]) ++ [0])]) (L2 := [shf c 10 40 T, row b cb q]) rfl row_O 2 rfl dX6_tellTexts_119 rfl cv_X6_40 (k_add1 (by simp only [List.length_append, List.length_cons, List.length_nil, pf_len, w2_len, List.length_map, List.length_range]; omega)) rfl rfl (Nat.le_of_ble_eq_true rfl) ⟨by decide, by omega, by omega⟩ (fun r1 L1 h q hL => ?_)
    obtain ⟨rfl, rfl⟩ := q
    have hL : stars [row b2 253 ((((([] ++ pf q 0 3) ++ [(ttG T)]) ++ [0]) ++ [0]) ++ [0]), shf c 10 40 T, row b cb q] h := hL
    have hL : stars [shf c 10 40 T, row b cb q, row b2 253 ((((([] ++ pf q 0 3) ++ [(ttG T)]) ++ [0]) ++ [0]) ++ [0])] h := stars_ixn hL 3 rfl [1, 2, 0] (by decide) rfl
    refine e_iconst 123 (v := (nI 0)) dX6_tellTexts_122 rfl (by decide) ?_
    refine e_istore 125 (ls' := [some (.ref c), some (.ref b), some (.ref b2), some (.int (nI code)), some (.int (nI last)), some (.int (oI o)), some (.int (-1)), some (.int (nI 0)), none, none]) dX6_tellTexts_123 rfl (by decide) rfl ?_
    refine e_iconst 126 (v := (nI 0)) dX6_tellTexts_125 rfl (by decide) ?_
    refine e_istore 128 (ls' := [some (.ref c), some (.ref b), some (.ref b2), some (.int (nI code)), some (.int (nI last)), some (.int (oI o)), some (.int (-1)), some (.int (nI 0)), some (.int (nI 0)), none]) dX6_tellTexts_126 rfl (by decide) rfl ?_
    refine e_wk [some (.ref c), some (.ref b), some (.ref b2), some (.int (nI code)), some (.int (nI last)), some (.int (oI o)), none, some (.int (nI 0)), some (.int (nI 0)), none] ⟨rfl, rfl, rfl, rfl, rfl, rfl, rfl, rfl, trivial⟩ ?_
    exact l_X6_tellTexts hcode hlast 11 10 0 0 o (ttH T q) h (by omega) (by omega) (by omega) (by simp only [ttH, List.length_append, List.length_cons, List.length_nil, pf_len]; omega) ho rfl hL
  · have hg8 := hg9 g hg
    refine e_wk [some (.ref c), some (.ref b), some (.ref b2), some (.int (nI code)), some (.int (nI last)), some (.int (oI o)), some (.int (nI g)), none, none, none] ⟨rfl, rfl, rfl, rfl, rfl, rfl, rfl, trivial⟩ ?_
    skip
    refine e_aload_n 76 dX6_tellTexts_75 rfl rfl ?_
    refine e_iload 78 dX6_tellTexts_76 rfl rfl ?_
    refine e_bipush 80 (v := (nI 6)) dX6_tellTexts_78 rfl (by decide) ?_
    refine e_icmp_le 89 83 dX6_tellTexts_80 rfl rfl (fun c80 => ?_) (fun c80 => ?_)
    · have k80 := j_le_t (a := g) (b := 6) (by omega) (by omega) c80
      refine e_iload 91 dX6_tellTexts_89 rfl rfl ?_
      refine e_iconst 92 (v := (nI 2)) dX6_tellTexts_91 rfl (by decide) ?_
      refine e_icmp_le 101 95 dX6_tellTexts_92 rfl rfl (fun c92 => ?_) (fun c92 => ?_)
      · have k92 := j_le_t (a := g) (b := 2) (by omega) (by omega) c92
        refine e_sipush 104 (v := (nI 129)) dX6_tellTexts_101 rfl (by decide) ?_
        have hG : ttG T = 129 := by simp only [ttG, show gtT T = some g from hg]; rw [if_neg (by omega), if_neg (by omega)]
        rw [← hG]
        refine p_callV 107 hL [2, 0, 1] 3 rfl (by decide) (L1 := [row b2 253 ([] ++ pf q 0 3)]) (L2 := [shf c 10 40 T, row b cb q]) rfl row_O 2 rfl dX6_tellTexts_104 rfl cv_X6_40 (k_add1 (by simp only [List.length_append, List.length_cons, List.length_nil, pf_len, w2_len, List.length_map, List.length_range]; omega)) rfl rfl (Nat.le_of_ble_eq_true rfl) ⟨by decide, by omega, by omega⟩ (fun r1 L1 h q hL => ?_)
        obtain ⟨rfl, rfl⟩ := q
        have hL : stars [row b2 253 (([] ++ pf q 0 3) ++ [(ttG T)]), shf c 10 40 T, row b cb q] h := hL
        have hL : stars [shf c 10 40 T, row b cb q, row b2 253 (([] ++ pf q 0 3) ++ [(ttG T)])] h := stars_ixn hL 3 rfl [1, 2, 0] (by decide) rfl
        refine e_aload_n 108 dX6_tellTexts_107 rfl rfl ?_
        refine e_iconst 109 (v := (nI 0)) dX6_tellTexts_108 rfl (by decide) ?_
        refine p_callV 112 hL [2, 0, 1] 3 rfl (by decide) (L1 := [row b2 253 (([] ++ pf q 0 3) ++ [(ttG T)])]) (L2 := [shf c 10 40 T, row b cb q]) rfl row_O 2 rfl dX6_tellTexts_109 rfl cv_X6_40 (k_add1 (by simp only [List.length_append, List.length_cons, List.length_nil, pf_len, w2_len, List.length_map, List.length_range]; omega)) rfl rfl (Nat.le_of_ble_eq_true rfl) ⟨by decide, by omega, by omega⟩ (fun r1 L1 h q hL => ?_)
        obtain ⟨rfl, rfl⟩ := q
        have hL : stars [row b2 253 ((([] ++ pf q 0 3) ++ [(ttG T)]) ++ [0]), shf c 10 40 T, row b cb q] h := hL
        have hL : stars [shf c 10 40 T, row b cb q, row b2 253 ((([] ++ pf q 0 3) ++ [(ttG T)]) ++ [0])] h := stars_ixn hL 3 rfl [1, 2, 0] (by decide) rfl
        refine e_aload_n 113 dX6_tellTexts_112 rfl rfl ?_
        refine e_iconst 114 (v := (nI 0)) dX6_tellTexts_113 rfl (by decide) ?_
        refine p_callV 117 hL [2, 0, 1] 3 rfl (by decide) (L1 := [row b2 253 ((([] ++ pf q 0 3) ++ [(ttG T)]) ++ [0])]) (L2 := [shf c 10 40 T, row b cb q]) rfl row_O 2 rfl dX6_tellTexts_114 rfl cv_X6_40 (k_add1 (by simp only [List.length_append, List.length_cons, List.length_nil, pf_len, w2_len, List.length_map, List.length_range]; omega)) rfl rfl (Nat.le_of_ble_eq_true rfl) ⟨by decide, by omega, by omega⟩ (fun r1 L1 h q hL => ?_)
        obtain ⟨rfl, rfl⟩ := q
        have hL : stars [row b2 253 (((([] ++ pf q 0 3) ++ [(ttG T)]) ++ [0]) ++ [0]), shf c 10 40 T, row b cb q] h := hL
        have hL : stars [shf c 10 40 T, row b cb q, row b2 253 (((([] ++ pf q 0 3) ++ [(ttG T)]) ++ [0]) ++ [0])] h := stars_ixn hL 3 rfl [1, 2, 0] (by decide) rfl
        refine e_aload_n 118 dX6_tellTexts_117 rfl rfl ?_
        refine e_iconst 119 (v := (nI 0)) dX6_tellTexts_118 rfl (by decide) ?_
        refine p_callV 122 hL [2, 0, 1] 3 rfl (by decide) (L1 := [row b2 253 (((([] ++ pf q 0 3) ++ [(ttG T)]) ++ [0]) ++ [0])]) (L2 := [shf c 10 40 T, row b cb q]) rfl row_O 2 rfl dX6_tellTexts_119 rfl cv_X6_40 (k_add1 (by simp only [List.length_append, List.length_cons, List.length_nil, pf_len, w2_len, List.length_map, List.length_range]; omega)) rfl rfl (Nat.le_of_ble_eq_true rfl) ⟨by decide, by omega, by omega⟩ (fun r1 L1 h q hL => ?_)
        obtain ⟨rfl, rfl⟩ := q
        have hL : stars [row b2 253 ((((([] ++ pf q 0 3) ++ [(ttG T)]) ++ [0]) ++ [0]) ++ [0]), shf c 10 40 T, row b cb q] h := hL
        have hL : stars [shf c 10 40 T, row b cb q, row b2 253 ((((([] ++ pf q 0 3) ++ [(ttG T)]) ++ [0]) ++ [0]) ++ [0])] h := stars_ixn hL 3 rfl [1, 2, 0] (by decide) rfl
        refine e_iconst 123 (v := (nI 0)) dX6_tellTexts_122 rfl (by decide) ?_
        refine e_istore 125 (ls' := [some (.ref c), some (.ref b), some (.ref b2), some (.int (nI code)), some (.int (nI last)), some (.int (oI o)), some (.int (nI g)), some (.int (nI 0)), none, none]) dX6_tellTexts_123 rfl (by decide) rfl ?_
        refine e_iconst 126 (v := (nI 0)) dX6_tellTexts_125 rfl (by decide) ?_
        refine e_istore 128 (ls' := [some (.ref c), some (.ref b), some (.ref b2), some (.int (nI code)), some (.int (nI last)), some (.int (oI o)), some (.int (nI g)), some (.int (nI 0)), some (.int (nI 0)), none]) dX6_tellTexts_126 rfl (by decide) rfl ?_
        refine e_wk [some (.ref c), some (.ref b), some (.ref b2), some (.int (nI code)), some (.int (nI last)), some (.int (oI o)), none, some (.int (nI 0)), some (.int (nI 0)), none] ⟨rfl, rfl, rfl, rfl, rfl, rfl, rfl, rfl, trivial⟩ ?_
        exact l_X6_tellTexts hcode hlast 11 10 0 0 o (ttH T q) h (by omega) (by omega) (by omega) (by simp only [ttH, List.length_append, List.length_cons, List.length_nil, pf_len]; omega) ho rfl hL
      · have k92 := j_le_f (a := g) (b := 2) (by omega) (by omega) c92
        refine e_sipush 98 (v := (nI 130)) dX6_tellTexts_95 rfl (by decide) ?_
        refine e_goto 104 dX6_tellTexts_98 rfl ?_
        have hG : ttG T = 130 := by simp only [ttG, show gtT T = some g from hg]; rw [if_neg (by omega), if_pos (by omega)]
        rw [← hG]
        refine p_callV 107 hL [2, 0, 1] 3 rfl (by decide) (L1 := [row b2 253 ([] ++ pf q 0 3)]) (L2 := [shf c 10 40 T, row b cb q]) rfl row_O 2 rfl dX6_tellTexts_104 rfl cv_X6_40 (k_add1 (by simp only [List.length_append, List.length_cons, List.length_nil, pf_len, w2_len, List.length_map, List.length_range]; omega)) rfl rfl (Nat.le_of_ble_eq_true rfl) ⟨by decide, by omega, by omega⟩ (fun r1 L1 h q hL => ?_)
        obtain ⟨rfl, rfl⟩ := q
        have hL : stars [row b2 253 (([] ++ pf q 0 3) ++ [(ttG T)]), shf c 10 40 T, row b cb q] h := hL
        have hL : stars [shf c 10 40 T, row b cb q, row b2 253 (([] ++ pf q 0 3) ++ [(ttG T)])] h := stars_ixn hL 3 rfl [1, 2, 0] (by decide) rfl
        refine e_aload_n 108 dX6_tellTexts_107 rfl rfl ?_
        refine e_iconst 109 (v := (nI 0)) dX6_tellTexts_108 rfl (by decide) ?_
        refine p_callV 112 hL [2, 0, 1] 3 rfl (by decide) (L1 := [row b2 253 (([] ++ pf q 0 3) ++ [(ttG T)])]) (L2 := [shf c 10 40 T, row b cb q]) rfl row_O 2 rfl dX6_tellTexts_109 rfl cv_X6_40 (k_add1 (by simp only [List.length_append, List.length_cons, List.length_nil, pf_len, w2_len, List.length_map, List.length_range]; omega)) rfl rfl (Nat.le_of_ble_eq_true rfl) ⟨by decide, by omega, by omega⟩ (fun r1 L1 h q hL => ?_)
        obtain ⟨rfl, rfl⟩ := q
        have hL : stars [row b2 253 ((([] ++ pf q 0 3) ++ [(ttG T)]) ++ [0]), shf c 10 40 T, row b cb q] h := hL
        have hL : stars [shf c 10 40 T, row b cb q, row b2 253 ((([] ++ pf q 0 3) ++ [(ttG T)]) ++ [0])] h := stars_ixn hL 3 rfl [1, 2, 0] (by decide) rfl
        refine e_aload_n 113 dX6_tellTexts_112 rfl rfl ?_
        refine e_iconst 114 (v := (nI 0)) dX6_tellTexts_113 rfl (by decide) ?_
        refine p_callV 117 hL [2, 0, 1] 3 rfl (by decide) (L1 := [row b2 253 ((([] ++ pf q 0 3) ++ [(ttG T)]) ++ [0])]) (L2 := [shf c 10 40 T, row b cb q]) rfl row_O 2 rfl dX6_tellTexts_114 rfl cv_X6_40 (k_add1 (by simp only [List.length_append, List.length_cons, List.length_nil, pf_len, w2_len, List.length_map, List.length_range]; omega)) rfl rfl (Nat.le_of_ble_eq_true rfl) ⟨by decide, by omega, by omega⟩ (fun r1 L1 h q hL => ?_)
        obtain ⟨rfl, rfl⟩ := q
        have hL : stars [row b2 253 (((([] ++ pf q 0 3) ++ [(ttG T)]) ++ [0]) ++ [0]), shf c 10 40 T, row b cb q] h := hL
        have hL : stars [shf c 10 40 T, row b cb q, row b2 253 (((([] ++ pf q 0 3) ++ [(ttG T)]) ++ [0]) ++ [0])] h := stars_ixn hL 3 rfl [1, 2, 0] (by decide) rfl
        refine e_aload_n 118 dX6_tellTexts_117 rfl rfl ?_
        refine e_iconst 119 (v := (nI 0)) dX6_tellTexts_118 rfl (by decide) ?_
        refine p_callV 122 hL [2, 0, 1] 3 rfl (by decide) (L1 := [row b2 253 (((([] ++ pf q 0 3) ++ [(ttG T)]) ++ [0]) ++ [0])]) (L2 := [shf c 10 40 T, row b cb q]) rfl row_O 2 rfl dX6_tellTexts_119 rfl cv_X6_40 (k_add1 (by simp only [List.length_append, List.length_cons, List.length_nil, pf_len, w2_len, List.length_map, List.length_range]; omega)) rfl rfl (Nat.le_of_ble_eq_true rfl) ⟨by decide, by omega, by omega⟩ (fun r1 L1 h q hL => ?_)
        obtain ⟨rfl, rfl⟩ := q
        have hL : stars [row b2 253 ((((([] ++ pf q 0 3) ++ [(ttG T)]) ++ [0]) ++ [0]) ++ [0]), shf c 10 40 T, row b cb q] h := hL
        have hL : stars [shf c 10 40 T, row b cb q, row b2 253 ((((([] ++ pf q 0 3) ++ [(ttG T)]) ++ [0]) ++ [0]) ++ [0])] h := stars_ixn hL 3 rfl [1, 2, 0] (by decide) rfl
        refine e_iconst 123 (v := (nI 0)) dX6_tellTexts_122 rfl (by decide) ?_
        refine e_istore 125 (ls' := [some (.ref c), some (.ref b), some (.ref b2), some (.int (nI code)), some (.int (nI last)), some (.int (oI o)), some (.int (nI g)), some (.int (nI 0)), none, none]) dX6_tellTexts_123 rfl (by decide) rfl ?_
        refine e_iconst 126 (v := (nI 0)) dX6_tellTexts_125 rfl (by decide) ?_
        refine e_istore 128 (ls' := [some (.ref c), some (.ref b), some (.ref b2), some (.int (nI code)), some (.int (nI last)), some (.int (oI o)), some (.int (nI g)), some (.int (nI 0)), some (.int (nI 0)), none]) dX6_tellTexts_126 rfl (by decide) rfl ?_
        refine e_wk [some (.ref c), some (.ref b), some (.ref b2), some (.int (nI code)), some (.int (nI last)), some (.int (oI o)), none, some (.int (nI 0)), some (.int (nI 0)), none] ⟨rfl, rfl, rfl, rfl, rfl, rfl, rfl, rfl, trivial⟩ ?_
        exact l_X6_tellTexts hcode hlast 11 10 0 0 o (ttH T q) h (by omega) (by omega) (by omega) (by simp only [ttH, List.length_append, List.length_cons, List.length_nil, pf_len]; omega) ho rfl hL
    · have k80 := j_le_f (a := g) (b := 6) (by omega) (by omega) c80
      refine e_sipush 86 (v := (nI 131)) dX6_tellTexts_83 rfl (by decide) ?_
      refine e_goto 104 dX6_tellTexts_86 rfl ?_
      have hG : ttG T = 131 := by simp only [ttG, show gtT T = some g from hg]; rw [if_pos (by omega)]
      rw [← hG]
      refine p_callV 107 hL [2, 0, 1] 3 rfl (by decide) (L1 := [row b2 253 ([] ++ pf q 0 3)]) (L2 := [shf c 10 40 T, row b cb q]) rfl row_O 2 rfl dX6_tellTexts_104 rfl cv_X6_40 (k_add1 (by simp only [List.length_append, List.length_cons, List.length_nil, pf_len, w2_len, List.length_map, List.length_range]; omega)) rfl rfl (Nat.le_of_ble_eq_true rfl) ⟨by decide, by omega, by omega⟩ (fun r1 L1 h q hL => ?_)
      obtain ⟨rfl, rfl⟩ := q
      have hL : stars [row b2 253 (([] ++ pf q 0 3) ++ [(ttG T)]), shf c 10 40 T, row b cb q] h := hL
      have hL : stars [shf c 10 40 T, row b cb q, row b2 253 (([] ++ pf q 0 3) ++ [(ttG T)])] h := stars_ixn hL 3 rfl [1, 2, 0] (by decide) rfl
      refine e_aload_n 108 dX6_tellTexts_107 rfl rfl ?_
      refine e_iconst 109 (v := (nI 0)) dX6_tellTexts_108 rfl (by decide) ?_
      refine p_callV 112 hL [2, 0, 1] 3 rfl (by decide) (L1 := [row b2 253 (([] ++ pf q 0 3) ++ [(ttG T)])]) (L2 := [shf c 10 40 T, row b cb q]) rfl row_O 2 rfl dX6_tellTexts_109 rfl cv_X6_40 (k_add1 (by simp only [List.length_append, List.length_cons, List.length_nil, pf_len, w2_len, List.length_map, List.length_range]; omega)) rfl rfl (Nat.le_of_ble_eq_true rfl) ⟨by decide, by omega, by omega⟩ (fun r1 L1 h q hL => ?_)
      obtain ⟨rfl, rfl⟩ := q
      have hL : stars [row b2 253 ((([] ++ pf q 0 3) ++ [(ttG T)]) ++ [0]), shf c 10 40 T, row b cb q] h := hL
      have hL : stars [shf c 10 40 T, row b cb q, row b2 253 ((([] ++ pf q 0 3) ++ [(ttG T)]) ++ [0])] h := stars_ixn hL 3 rfl [1, 2, 0] (by decide) rfl
      refine e_aload_n 113 dX6_tellTexts_112 rfl rfl ?_
      refine e_iconst 114 (v := (nI 0)) dX6_tellTexts_113 rfl (by decide) ?_
      refine p_callV 117 hL [2, 0, 1] 3 rfl (by decide) (L1 := [row b2 253 ((([] ++ pf q 0 3) ++ [(ttG T)]) ++ [0])]) (L2 := [shf c 10 40 T, row b cb q]) rfl row_O 2 rfl dX6_tellTexts_114 rfl cv_X6_40 (k_add1 (by simp only [List.length_append, List.length_cons, List.length_nil, pf_len, w2_len, List.length_map, List.length_range]; omega)) rfl rfl (Nat.le_of_ble_eq_true rfl) ⟨by decide, by omega, by omega⟩ (fun r1 L1 h q hL => ?_)
      obtain ⟨rfl, rfl⟩ := q
      have hL : stars [row b2 253 (((([] ++ pf q 0 3) ++ [(ttG T)]) ++ [0]) ++ [0]), shf c 10 40 T, row b cb q] h := hL
      have hL : stars [shf c 10 40 T, row b cb q, row b2 253 (((([] ++ pf q 0 3) ++ [(ttG T)]) ++ [0]) ++ [0])] h := stars_ixn hL 3 rfl [1, 2, 0] (by decide) rfl
      refine e_aload_n 118 dX6_tellTexts_117 rfl rfl ?_
      refine e_iconst 119 (v := (nI 0)) dX6_tellTexts_118 rfl (by decide) ?_
      refine p_callV 122 hL [2, 0, 1] 3 rfl (by decide) (L1 := [row b2 253 (((([] ++ pf q 0 3) ++ [(ttG T)]) ++ [0]) ++ [0])]) (L2 := [shf c 10 40 T, row b cb q]) rfl row_O 2 rfl dX6_tellTexts_119 rfl cv_X6_40 (k_add1 (by simp only [List.length_append, List.length_cons, List.length_nil, pf_len, w2_len, List.length_map, List.length_range]; omega)) rfl rfl (Nat.le_of_ble_eq_true rfl) ⟨by decide, by omega, by omega⟩ (fun r1 L1 h q hL => ?_)
      obtain ⟨rfl, rfl⟩ := q
      have hL : stars [row b2 253 ((((([] ++ pf q 0 3) ++ [(ttG T)]) ++ [0]) ++ [0]) ++ [0]), shf c 10 40 T, row b cb q] h := hL
      have hL : stars [shf c 10 40 T, row b cb q, row b2 253 ((((([] ++ pf q 0 3) ++ [(ttG T)]) ++ [0]) ++ [0]) ++ [0])] h := stars_ixn hL 3 rfl [1, 2, 0] (by decide) rfl
      refine e_iconst 123 (v := (nI 0)) dX6_tellTexts_122 rfl (by decide) ?_
      refine e_istore 125 (ls' := [some (.ref c), some (.ref b), some (.ref b2), some (.int (nI code)), some (.int (nI last)), some (.int (oI o)), some (.int (nI g)), some (.int (nI 0)), none, none]) dX6_tellTexts_123 rfl (by decide) rfl ?_
      refine e_iconst 126 (v := (nI 0)) dX6_tellTexts_125 rfl (by decide) ?_
      refine e_istore 128 (ls' := [some (.ref c), some (.ref b), some (.ref b2), some (.int (nI code)), some (.int (nI last)), some (.int (oI o)), some (.int (nI g)), some (.int (nI 0)), some (.int (nI 0)), none]) dX6_tellTexts_126 rfl (by decide) rfl ?_
      refine e_wk [some (.ref c), some (.ref b), some (.ref b2), some (.int (nI code)), some (.int (nI last)), some (.int (oI o)), none, some (.int (nI 0)), some (.int (nI 0)), none] ⟨rfl, rfl, rfl, rfl, rfl, rfl, rfl, rfl, trivial⟩ ?_
      exact l_X6_tellTexts hcode hlast 11 10 0 0 o (ttH T q) h (by omega) (by omega) (by omega) (by simp only [ttH, List.length_append, List.length_cons, List.length_nil, pf_len]; omega) ho rfl hL
set_option maxRecDepth 20000 in
set_option maxHeartbeats 2000000 in
/-- tellTexts(texts, q, a) -/
theorem k_X6_tellTexts {c b cb b2 : Nat} {T : List (Nat × List Nat)} {q : List Nat} (hq : ∀ x ∈ q, x < 256) : CA mX6_tellTexts [.ref c, .ref b, .ref b2] [shf c 10 40 T, row b cb q, row b2 253 ([])] (fun r L => r = none ∧ L = [shf c 10 40 T, row b cb q, row b2 253 (ttA T q)]) 1 40 0 0 := by
  refine CA.mk 7 (ls := [some (.ref c), some (.ref b), some (.ref b2), none, none, none, none, none, none, none]) rfl rfl (Nat.le_of_ble_eq_true rfl) rfl (fun h hL => ?_)
  have hle9 := shf_le _ 0 hL rfl
  have g2 := gd_lt (i := 2) hq (by decide)
  have g3 := gd_lt (i := 3) hq (by decide)
  refine e_aload_n 1 dX6_tellTexts_0 rfl rfl ?_
  refine e_iconst 2 (v := (nI 2)) dX6_tellTexts_1 rfl (by decide) ?_
  refine p_callV 5 hL [1, 0, 2] 3 rfl (by decide) (L1 := [row b cb q]) (L2 := [shf c 10 40 T, row b2 253 ([])]) rfl row_O 1 rfl dX6_tellTexts_2 rfl cv_X6_36 (k_X4_at (by omega)) rfl rfl (Nat.le_of_ble_eq_true rfl) ⟨by decide, by omega, by omega⟩ (fun r1 L1 h q hL => ?_)
  obtain ⟨rfl, rfl⟩ := q
  have hL : stars [row b cb q, shf c 10 40 T, row b2 253 ([])] h := hL
  have hL : stars [shf c 10 40 T, row b cb q, row b2 253 ([])] h := stars_ixn hL 3 rfl [1, 0, 2] (by decide) rfl
  refine e_istore_n 6 (ls' := [some (.ref c), some (.ref b), some (.ref b2), some (.int (nI (q.getD 2 0))), none, none, none, none, none, none]) dX6_tellTexts_5 rfl (by decide) rfl ?_
  refine e_iload_n 7 dX6_tellTexts_6 rfl rfl ?_
  refine e_iconst 8 (v := (nI 1)) dX6_tellTexts_7 rfl (by decide) ?_
  refine e_icmp_ne 15 11 dX6_tellTexts_8 rfl rfl (fun c8 => ?_) (fun c8 => ?_)
  · have k8 := j_ne_t (a := (q.getD 2 0)) (b := 1) (by omega) (by omega) c8
    refine e_iload_n 16 dX6_tellTexts_15 rfl rfl ?_
    refine e_iconst 17 (v := (nI 2)) dX6_tellTexts_16 rfl (by decide) ?_
    refine e_icmp_ne 25 20 dX6_tellTexts_17 rfl rfl (fun c17 => ?_) (fun c17 => ?_)
    · have k17 := j_ne_t (a := (q.getD 2 0)) (b := 2) (by omega) (by omega) c17
      refine e_sipush 28 (v := (nI 255)) dX6_tellTexts_25 rfl (by decide) ?_
      refine e_istore 30 (ls' := [some (.ref c), some (.ref b), some (.ref b2), some (.int (nI (q.getD 2 0))), some (.int (nI 255)), none, none, none, none, none]) dX6_tellTexts_28 rfl (by decide) rfl ?_
      refine e_aload_n 31 dX6_tellTexts_30 rfl rfl ?_
      refine e_iconst 32 (v := (nI 3)) dX6_tellTexts_31 rfl (by decide) ?_
      refine p_callV 35 hL [1, 0, 2] 3 rfl (by decide) (L1 := [row b cb q]) (L2 := [shf c 10 40 T, row b2 253 ([])]) rfl row_O 1 rfl dX6_tellTexts_32 rfl cv_X6_36 (k_X4_at (by omega)) rfl rfl (Nat.le_of_ble_eq_true rfl) ⟨by decide, by omega, by omega⟩ (fun r1 L1 h q hL => ?_)
      obtain ⟨rfl, rfl⟩ := q
      have hL : stars [row b cb q, shf c 10 40 T, row b2 253 ([])] h := hL
      have hL : stars [shf c 10 40 T, row b cb q, row b2 253 ([])] h := stars_ixn hL 3 rfl [1, 0, 2] (by decide) rfl
      refine e_istore 37 (ls' := [some (.ref c), some (.ref b), some (.ref b2), some (.int (nI (q.getD 2 0))), some (.int (nI 255)), some (.int (nI (q.getD 3 0))), none, none, none, none]) dX6_tellTexts_35 rfl (by decide) rfl ?_
      refine e_iload 39 dX6_tellTexts_37 rfl rfl ?_
      refine e_iload 41 dX6_tellTexts_39 rfl rfl ?_
      refine e_icmp_gt 53 44 dX6_tellTexts_41 rfl rfl (fun c41 => ?_) (fun c41 => ?_)
      · have k41 := j_gt_t (a := (q.getD 3 0)) (b := 255) (by omega) (by omega) c41
        refine e_aload_n 54 dX6_tellTexts_53 rfl rfl ?_
        refine e_iconst 55 (v := (nI 0)) dX6_tellTexts_54 rfl (by decide) ?_
        refine e_iload 57 dX6_tellTexts_55 rfl rfl ?_
        obtain ⟨K57, C57, hM57, hL⟩ := shf_o hL
        refine p_callV 60 hL [0, 1, 2, 3] 4 rfl (by decide) (L1 := [shB c 10 40 K57]) (L2 := [rws 40 K57 C57, row b cb q, row b2 253 ([])]) rfl shB_O 0 rfl dX6_tellTexts_57 rfl cv_X6_211 (k_X8_leastKey (by omega) (by omega)) rfl rfl (Nat.le_of_ble_eq_true rfl) ⟨by decide, by omega, by omega⟩ (fun r1 L1 h q hL => ?_)
        obtain ⟨rfl, rfl⟩ := q
        have hL : stars [shB c 10 40 K57, rws 40 K57 C57, row b cb q, row b2 253 ([])] h := hL
        have hL := shf_c hM57 hL
        rw [mp_keys hM57]
        have hL : stars [shf c 10 40 T, row b cb q, row b2 253 ([])] h := hL
        refine e_istore 62 (ls' := [some (.ref c), some (.ref b), some (.ref b2), some (.int (nI (q.getD 2 0))), some (.int (nI 255)), some (.int (oI (lsT T 0 255))), none, none, none, none]) dX6_tellTexts_60 rfl (by decide) rfl ?_
        have hla : ttM (q.getD 2 0) = 255 := by rw [ttM, if_neg (by omega), if_neg (by omega)]
        have hid : ttI T q = (lsT T 0 255) := by rw [ttI, hla, if_neg (by omega)]
        rw [ttA, hla, hid]
        refine e_wk [some (.ref c), some (.ref b), some (.ref b2), some (.int (nI (q.getD 2 0))), some (.int (nI 255)), some (.int (oI (lsT T 0 255))), none, none, none, none] ⟨rfl, rfl, rfl, rfl, rfl, rfl, trivial⟩ ?_
        exact l_X6_tellTexts_b (by omega) (by omega) (lsT_lt hle9.2) h hL
      · have k41 := j_gt_f (a := (q.getD 3 0)) (b := 255) (by omega) (by omega) c41
        refine e_aload_n 45 dX6_tellTexts_44 rfl rfl ?_
        refine e_iload 47 dX6_tellTexts_45 rfl rfl ?_
        obtain ⟨K47, C47, hM47, hL⟩ := shf_o hL
        refine p_callV 50 hL [0, 1, 2, 3] 4 rfl (by decide) (L1 := [shB c 10 40 K47]) (L2 := [rws 40 K47 C47, row b cb q, row b2 253 ([])]) rfl shB_O 0 rfl dX6_tellTexts_47 rfl cv_X6_98 k_X8_find rfl rfl (Nat.le_of_ble_eq_true rfl) ⟨by decide, by omega, by omega⟩ (fun r1 L1 h q hL => ?_)
        obtain ⟨rfl, rfl⟩ := q
        have hL : stars [shB c 10 40 K47, rws 40 K47 C47, row b cb q, row b2 253 ([])] h := hL
        rcases shf_r (nI (q.getD 3 0)) hM47 hL with ⟨hx47, hk47, hL⟩ | ⟨i47, a47, R47, hx47, hi47, hk47, hL, hb47⟩
        · rw [hk47]
          refine e_ifnonnullN 53 dX6_tellTexts_50 rfl ?_
          refine e_aload_n 54 dX6_tellTexts_53 rfl rfl ?_
          refine e_iconst 55 (v := (nI 0)) dX6_tellTexts_54 rfl (by decide) ?_
          refine e_iload 57 dX6_tellTexts_55 rfl rfl ?_
          obtain ⟨K57, C57, hM57, hL⟩ := shf_o hL
          refine p_callV 60 hL [0, 1, 2, 3] 4 rfl (by decide) (L1 := [shB c 10 40 K57]) (L2 := [rws 40 K57 C57, row b cb q, row b2 253 ([])]) rfl shB_O 0 rfl dX6_tellTexts_57 rfl cv_X6_211 (k_X8_leastKey (by omega) (by omega)) rfl rfl (Nat.le_of_ble_eq_true rfl) ⟨by decide, by omega, by omega⟩ (fun r1 L1 h q hL => ?_)
          obtain ⟨rfl, rfl⟩ := q
          have hL : stars [shB c 10 40 K57, rws 40 K57 C57, row b cb q, row b2 253 ([])] h := hL
          have hL := shf_c hM57 hL
          rw [mp_keys hM57]
          have hL : stars [shf c 10 40 T, row b cb q, row b2 253 ([])] h := hL
          refine e_istore 62 (ls' := [some (.ref c), some (.ref b), some (.ref b2), some (.int (nI (q.getD 2 0))), some (.int (nI 255)), some (.int (oI (lsT T 0 255))), none, none, none, none]) dX6_tellTexts_60 rfl (by decide) rfl ?_
          have hla : ttM (q.getD 2 0) = 255 := by rw [ttM, if_neg (by omega), if_neg (by omega)]
          have hid : ttI T q = (lsT T 0 255) := by rw [ttI, hla, if_neg (fun z => by rw [hx47] at z; exact absurd z.2 (by decide))]
          rw [ttA, hla, hid]
          refine e_wk [some (.ref c), some (.ref b), some (.ref b2), some (.int (nI (q.getD 2 0))), some (.int (nI 255)), some (.int (oI (lsT T 0 255))), none, none, none, none] ⟨rfl, rfl, rfl, rfl, rfl, rfl, trivial⟩ ?_
          exact l_X6_tellTexts_b (by omega) (by omega) (lsT_lt hle9.2) h hL
        · rw [hk47]
          have hle47 := row_len _ 0 hL rfl
          have hL := hb47 _ _ _ hL
          rw [stM_self hi47] at hL
          have hL : stars [shf c 10 40 T, row b cb q, row b2 253 ([])] h := hL
          refine e_ifnonnull 62 dX6_tellTexts_50 rfl ?_
          have hla : ttM (q.getD 2 0) = 255 := by rw [ttM, if_neg (by omega), if_neg (by omega)]
          have hid : ttI T q = (some (q.getD 3 0)) := by rw [ttI, hla, if_pos ⟨by omega, by rw [hx47]; rfl⟩]
          rw [ttA, hla, hid]
          refine e_wk [some (.ref c), some (.ref b), some (.ref b2), some (.int (nI (q.getD 2 0))), some (.int (nI 255)), some (.int (oI (some (q.getD 3 0)))), none, none, none, none] ⟨rfl, rfl, rfl, rfl, rfl, rfl, trivial⟩ ?_
          exact l_X6_tellTexts_b (by omega) (by omega) (fun z hz => by cases hz; omega) h hL
    · have k17 := j_ne_f (a := (q.getD 2 0)) (b := 2) (by omega) (by omega) c17
      refine e_bipush 22 (v := (nI 6)) dX6_tellTexts_20 rfl (by decide) ?_
      refine e_goto 28 dX6_tellTexts_22 rfl ?_
      refine e_istore 30 (ls' := [some (.ref c), some (.ref b), some (.ref b2), some (.int (nI (q.getD 2 0))), some (.int (nI 6)), none, none, none, none, none]) dX6_tellTexts_28 rfl (by decide) rfl ?_
      refine e_aload_n 31 dX6_tellTexts_30 rfl rfl ?_
      refine e_iconst 32 (v := (nI 3)) dX6_tellTexts_31 rfl (by decide) ?_
      refine p_callV 35 hL [1, 0, 2] 3 rfl (by decide) (L1 := [row b cb q]) (L2 := [shf c 10 40 T, row b2 253 ([])]) rfl row_O 1 rfl dX6_tellTexts_32 rfl cv_X6_36 (k_X4_at (by omega)) rfl rfl (Nat.le_of_ble_eq_true rfl) ⟨by decide, by omega, by omega⟩ (fun r1 L1 h q hL => ?_)
      obtain ⟨rfl, rfl⟩ := q
      have hL : stars [row b cb q, shf c 10 40 T, row b2 253 ([])] h := hL
      have hL : stars [shf c 10 40 T, row b cb q, row b2 253 ([])] h := stars_ixn hL 3 rfl [1, 0, 2] (by decide) rfl
      refine e_istore 37 (ls' := [some (.ref c), some (.ref b), some (.ref b2), some (.int (nI (q.getD 2 0))), some (.int (nI 6)), some (.int (nI (q.getD 3 0))), none, none, none, none]) dX6_tellTexts_35 rfl (by decide) rfl ?_
      refine e_iload 39 dX6_tellTexts_37 rfl rfl ?_
      refine e_iload 41 dX6_tellTexts_39 rfl rfl ?_
      refine e_icmp_gt 53 44 dX6_tellTexts_41 rfl rfl (fun c41 => ?_) (fun c41 => ?_)
      · have k41 := j_gt_t (a := (q.getD 3 0)) (b := 6) (by omega) (by omega) c41
        refine e_aload_n 54 dX6_tellTexts_53 rfl rfl ?_
        refine e_iconst 55 (v := (nI 0)) dX6_tellTexts_54 rfl (by decide) ?_
        refine e_iload 57 dX6_tellTexts_55 rfl rfl ?_
        obtain ⟨K57, C57, hM57, hL⟩ := shf_o hL
        refine p_callV 60 hL [0, 1, 2, 3] 4 rfl (by decide) (L1 := [shB c 10 40 K57]) (L2 := [rws 40 K57 C57, row b cb q, row b2 253 ([])]) rfl shB_O 0 rfl dX6_tellTexts_57 rfl cv_X6_211 (k_X8_leastKey (by omega) (by omega)) rfl rfl (Nat.le_of_ble_eq_true rfl) ⟨by decide, by omega, by omega⟩ (fun r1 L1 h q hL => ?_)
        obtain ⟨rfl, rfl⟩ := q
        have hL : stars [shB c 10 40 K57, rws 40 K57 C57, row b cb q, row b2 253 ([])] h := hL
        have hL := shf_c hM57 hL
        rw [mp_keys hM57]
        have hL : stars [shf c 10 40 T, row b cb q, row b2 253 ([])] h := hL
        refine e_istore 62 (ls' := [some (.ref c), some (.ref b), some (.ref b2), some (.int (nI (q.getD 2 0))), some (.int (nI 6)), some (.int (oI (lsT T 0 6))), none, none, none, none]) dX6_tellTexts_60 rfl (by decide) rfl ?_
        have hla : ttM (q.getD 2 0) = 6 := by rw [ttM, if_neg (by omega), if_pos (by omega)]
        have hid : ttI T q = (lsT T 0 6) := by rw [ttI, hla, if_neg (by omega)]
        rw [ttA, hla, hid]
        refine e_wk [some (.ref c), some (.ref b), some (.ref b2), some (.int (nI (q.getD 2 0))), some (.int (nI 6)), some (.int (oI (lsT T 0 6))), none, none, none, none] ⟨rfl, rfl, rfl, rfl, rfl, rfl, trivial⟩ ?_
        exact l_X6_tellTexts_b (by omega) (by omega) (lsT_lt hle9.2) h hL
      · have k41 := j_gt_f (a := (q.getD 3 0)) (b := 6) (by omega) (by omega) c41
        refine e_aload_n 45 dX6_tellTexts_44 rfl rfl ?_
        refine e_iload 47 dX6_tellTexts_45 rfl rfl ?_
        obtain ⟨K47, C47, hM47, hL⟩ := shf_o hL
        refine p_callV 50 hL [0, 1, 2, 3] 4 rfl (by decide) (L1 := [shB c 10 40 K47]) (L2 := [rws 40 K47 C47, row b cb q, row b2 253 ([])]) rfl shB_O 0 rfl dX6_tellTexts_47 rfl cv_X6_98 k_X8_find rfl rfl (Nat.le_of_ble_eq_true rfl) ⟨by decide, by omega, by omega⟩ (fun r1 L1 h q hL => ?_)
        obtain ⟨rfl, rfl⟩ := q
        have hL : stars [shB c 10 40 K47, rws 40 K47 C47, row b cb q, row b2 253 ([])] h := hL
        rcases shf_r (nI (q.getD 3 0)) hM47 hL with ⟨hx47, hk47, hL⟩ | ⟨i47, a47, R47, hx47, hi47, hk47, hL, hb47⟩
        · rw [hk47]
          refine e_ifnonnullN 53 dX6_tellTexts_50 rfl ?_
          refine e_aload_n 54 dX6_tellTexts_53 rfl rfl ?_
          refine e_iconst 55 (v := (nI 0)) dX6_tellTexts_54 rfl (by decide) ?_
          refine e_iload 57 dX6_tellTexts_55 rfl rfl ?_
          obtain ⟨K57, C57, hM57, hL⟩ := shf_o hL
          refine p_callV 60 hL [0, 1, 2, 3] 4 rfl (by decide) (L1 := [shB c 10 40 K57]) (L2 := [rws 40 K57 C57, row b cb q, row b2 253 ([])]) rfl shB_O 0 rfl dX6_tellTexts_57 rfl cv_X6_211 (k_X8_leastKey (by omega) (by omega)) rfl rfl (Nat.le_of_ble_eq_true rfl) ⟨by decide, by omega, by omega⟩ (fun r1 L1 h q hL => ?_)
          obtain ⟨rfl, rfl⟩ := q
          have hL : stars [shB c 10 40 K57, rws 40 K57 C57, row b cb q, row b2 253 ([])] h := hL
          have hL := shf_c hM57 hL
          rw [mp_keys hM57]
          have hL : stars [shf c 10 40 T, row b cb q, row b2 253 ([])] h := hL
          refine e_istore 62 (ls' := [some (.ref c), some (.ref b), some (.ref b2), some (.int (nI (q.getD 2 0))), some (.int (nI 6)), some (.int (oI (lsT T 0 6))), none, none, none, none]) dX6_tellTexts_60 rfl (by decide) rfl ?_
          have hla : ttM (q.getD 2 0) = 6 := by rw [ttM, if_neg (by omega), if_pos (by omega)]
          have hid : ttI T q = (lsT T 0 6) := by rw [ttI, hla, if_neg (fun z => by rw [hx47] at z; exact absurd z.2 (by decide))]
          rw [ttA, hla, hid]
          refine e_wk [some (.ref c), some (.ref b), some (.ref b2), some (.int (nI (q.getD 2 0))), some (.int (nI 6)), some (.int (oI (lsT T 0 6))), none, none, none, none] ⟨rfl, rfl, rfl, rfl, rfl, rfl, trivial⟩ ?_
          exact l_X6_tellTexts_b (by omega) (by omega) (lsT_lt hle9.2) h hL
        · rw [hk47]
          have hle47 := row_len _ 0 hL rfl
          have hL := hb47 _ _ _ hL
          rw [stM_self hi47] at hL
          have hL : stars [shf c 10 40 T, row b cb q, row b2 253 ([])] h := hL
          refine e_ifnonnull 62 dX6_tellTexts_50 rfl ?_
          have hla : ttM (q.getD 2 0) = 6 := by rw [ttM, if_neg (by omega), if_pos (by omega)]
          have hid : ttI T q = (some (q.getD 3 0)) := by rw [ttI, hla, if_pos ⟨by omega, by rw [hx47]; rfl⟩]
          rw [ttA, hla, hid]
          refine e_wk [some (.ref c), some (.ref b), some (.ref b2), some (.int (nI (q.getD 2 0))), some (.int (nI 6)), some (.int (oI (some (q.getD 3 0)))), none, none, none, none] ⟨rfl, rfl, rfl, rfl, rfl, rfl, trivial⟩ ?_
          exact l_X6_tellTexts_b (by omega) (by omega) (fun z hz => by cases hz; omega) h hL
  · have k8 := j_ne_f (a := (q.getD 2 0)) (b := 1) (by omega) (by omega) c8
    refine e_iconst 12 (v := (nI 2)) dX6_tellTexts_11 rfl (by decide) ?_
    refine e_goto 28 dX6_tellTexts_12 rfl ?_
    refine e_istore 30 (ls' := [some (.ref c), some (.ref b), some (.ref b2), some (.int (nI (q.getD 2 0))), some (.int (nI 2)), none, none, none, none, none]) dX6_tellTexts_28 rfl (by decide) rfl ?_
    refine e_aload_n 31 dX6_tellTexts_30 rfl rfl ?_
    refine e_iconst 32 (v := (nI 3)) dX6_tellTexts_31 rfl (by decide) ?_
    refine p_callV 35 hL [1, 0, 2] 3 rfl (by decide) (L1 := [row b cb q]) (L2 := [shf c 10 40 T, row b2 253 ([])]) rfl row_O 1 rfl dX6_tellTexts_32 rfl cv_X6_36 (k_X4_at (by omega)) rfl rfl (Nat.le_of_ble_eq_true rfl) ⟨by decide, by omega, by omega⟩ (fun r1 L1 h q hL => ?_)
    obtain ⟨rfl, rfl⟩ := q
    have hL : stars [row b cb q, shf c 10 40 T, row b2 253 ([])] h := hL
    have hL : stars [shf c 10 40 T, row b cb q, row b2 253 ([])] h := stars_ixn hL 3 rfl [1, 0, 2] (by decide) rfl
    refine e_istore 37 (ls' := [some (.ref c), some (.ref b), some (.ref b2), some (.int (nI (q.getD 2 0))), some (.int (nI 2)), some (.int (nI (q.getD 3 0))), none, none, none, none]) dX6_tellTexts_35 rfl (by decide) rfl ?_
    refine e_iload 39 dX6_tellTexts_37 rfl rfl ?_
    refine e_iload 41 dX6_tellTexts_39 rfl rfl ?_
    refine e_icmp_gt 53 44 dX6_tellTexts_41 rfl rfl (fun c41 => ?_) (fun c41 => ?_)
    · have k41 := j_gt_t (a := (q.getD 3 0)) (b := 2) (by omega) (by omega) c41
      refine e_aload_n 54 dX6_tellTexts_53 rfl rfl ?_
      refine e_iconst 55 (v := (nI 0)) dX6_tellTexts_54 rfl (by decide) ?_
      refine e_iload 57 dX6_tellTexts_55 rfl rfl ?_
      obtain ⟨K57, C57, hM57, hL⟩ := shf_o hL
      refine p_callV 60 hL [0, 1, 2, 3] 4 rfl (by decide) (L1 := [shB c 10 40 K57]) (L2 := [rws 40 K57 C57, row b cb q, row b2 253 ([])]) rfl shB_O 0 rfl dX6_tellTexts_57 rfl cv_X6_211 (k_X8_leastKey (by omega) (by omega)) rfl rfl (Nat.le_of_ble_eq_true rfl) ⟨by decide, by omega, by omega⟩ (fun r1 L1 h q hL => ?_)
      obtain ⟨rfl, rfl⟩ := q
      have hL : stars [shB c 10 40 K57, rws 40 K57 C57, row b cb q, row b2 253 ([])] h := hL
      have hL := shf_c hM57 hL
      rw [mp_keys hM57]
      have hL : stars [shf c 10 40 T, row b cb q, row b2 253 ([])] h := hL
      refine e_istore 62 (ls' := [some (.ref c), some (.ref b), some (.ref b2), some (.int (nI (q.getD 2 0))), some (.int (nI 2)), some (.int (oI (lsT T 0 2))), none, none, none, none]) dX6_tellTexts_60 rfl (by decide) rfl ?_
      have hla : ttM (q.getD 2 0) = 2 := by rw [ttM, if_pos (by omega)]
      have hid : ttI T q = (lsT T 0 2) := by rw [ttI, hla, if_neg (by omega)]
      rw [ttA, hla, hid]
      refine e_wk [some (.ref c), some (.ref b), some (.ref b2), some (.int (nI (q.getD 2 0))), some (.int (nI 2)), some (.int (oI (lsT T 0 2))), none, none, none, none] ⟨rfl, rfl, rfl, rfl, rfl, rfl, trivial⟩ ?_
      exact l_X6_tellTexts_b (by omega) (by omega) (lsT_lt hle9.2) h hL
    · have k41 := j_gt_f (a := (q.getD 3 0)) (b := 2) (by omega) (by omega) c41
      refine e_aload_n 45 dX6_tellTexts_44 rfl rfl ?_
      refine e_iload 47 dX6_tellTexts_45 rfl rfl ?_
      obtain ⟨K47, C47, hM47, hL⟩ := shf_o hL
      refine p_callV 50 hL [0, 1, 2, 3] 4 rfl (by decide) (L1 := [shB c 10 40 K47]) (L2 := [rws 40 K47 C47, row b cb q, row b2 253 ([])]) rfl shB_O 0 rfl dX6_tellTexts_47 rfl cv_X6_98 k_X8_find rfl rfl (Nat.le_of_ble_eq_true rfl) ⟨by decide, by omega, by omega⟩ (fun r1 L1 h q hL => ?_)
      obtain ⟨rfl, rfl⟩ := q
      have hL : stars [shB c 10 40 K47, rws 40 K47 C47, row b cb q, row b2 253 ([])] h := hL
      rcases shf_r (nI (q.getD 3 0)) hM47 hL with ⟨hx47, hk47, hL⟩ | ⟨i47, a47, R47, hx47, hi47, hk47, hL, hb47⟩
      · rw [hk47]
        refine e_ifnonnullN 53 dX6_tellTexts_50 rfl ?_
        refine e_aload_n 54 dX6_tellTexts_53 rfl rfl ?_
        refine e_iconst 55 (v := (nI 0)) dX6_tellTexts_54 rfl (by decide) ?_
        refine e_iload 57 dX6_tellTexts_55 rfl rfl ?_
        obtain ⟨K57, C57, hM57, hL⟩ := shf_o hL
        refine p_callV 60 hL [0, 1, 2, 3] 4 rfl (by decide) (L1 := [shB c 10 40 K57]) (L2 := [rws 40 K57 C57, row b cb q, row b2 253 ([])]) rfl shB_O 0 rfl dX6_tellTexts_57 rfl cv_X6_211 (k_X8_leastKey (by omega) (by omega)) rfl rfl (Nat.le_of_ble_eq_true rfl) ⟨by decide, by omega, by omega⟩ (fun r1 L1 h q hL => ?_)
        obtain ⟨rfl, rfl⟩ := q
        have hL : stars [shB c 10 40 K57, rws 40 K57 C57, row b cb q, row b2 253 ([])] h := hL
        have hL := shf_c hM57 hL
        rw [mp_keys hM57]
        have hL : stars [shf c 10 40 T, row b cb q, row b2 253 ([])] h := hL
        refine e_istore 62 (ls' := [some (.ref c), some (.ref b), some (.ref b2), some (.int (nI (q.getD 2 0))), some (.int (nI 2)), some (.int (oI (lsT T 0 2))), none, none, none, none]) dX6_tellTexts_60 rfl (by decide) rfl ?_
        have hla : ttM (q.getD 2 0) = 2 := by rw [ttM, if_pos (by omega)]
        have hid : ttI T q = (lsT T 0 2) := by rw [ttI, hla, if_neg (fun z => by rw [hx47] at z; exact absurd z.2 (by decide))]
        rw [ttA, hla, hid]
        refine e_wk [some (.ref c), some (.ref b), some (.ref b2), some (.int (nI (q.getD 2 0))), some (.int (nI 2)), some (.int (oI (lsT T 0 2))), none, none, none, none] ⟨rfl, rfl, rfl, rfl, rfl, rfl, trivial⟩ ?_
        exact l_X6_tellTexts_b (by omega) (by omega) (lsT_lt hle9.2) h hL
      · rw [hk47]
        have hle47 := row_len _ 0 hL rfl
        have hL := hb47 _ _ _ hL
        rw [stM_self hi47] at hL
        have hL : stars [shf c 10 40 T, row b cb q, row b2 253 ([])] h := hL
        refine e_ifnonnull 62 dX6_tellTexts_50 rfl ?_
        have hla : ttM (q.getD 2 0) = 2 := by rw [ttM, if_pos (by omega)]
        have hid : ttI T q = (some (q.getD 3 0)) := by rw [ttI, hla, if_pos ⟨by omega, by rw [hx47]; rfl⟩]
        rw [ttA, hla, hid]
        refine e_wk [some (.ref c), some (.ref b), some (.ref b2), some (.int (nI (q.getD 2 0))), some (.int (nI 2)), some (.int (oI (some (q.getD 3 0)))), none, none, none, none] ⟨rfl, rfl, rfl, rfl, rfl, rfl, trivial⟩ ?_
        exact l_X6_tellTexts_b (by omega) (by omega) (fun z hz => by cases hz; omega) h hL
