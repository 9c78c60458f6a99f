/-! the reference: names -/
theorem ans_V (L : List sA) (i : Nat) {m : Nat} {F w : Nat → Nat} {bg : Bool} {r : List Nat} {h : eH} (hL : stars L h) (hi : L[i]? = some (ansP m F w bg r)) : h m = some (.inr (13, moF F (upN w 4 r.length) bg)) := by
  obtain ⟨h1, p, e⟩ := stars_part L i hL hi
  exact e _ _ (stars_at _ 0 p rfl)
def nmA (T : List (Nat × List Nat)) (code id : Nat) : List Nat := ttE (ttL T code (ttM code) 10 (if id ≤ ttM code ∧ (ixM T (nI id)).isSome = true then some id else lsT T 0 (ttM code)) 0 [43, 14, code, ttG T, 0, 0, 0])
theorem ixM_e {M : List (Nat × List Nat)} {x : Int32} {i : Nat} (h : ixM M x = some i) : nI (keM M i) = x := by
  have hi := ixM_lt h
  rw [ixM, List.findIdx?_eq_some_iff_getElem] at h
  rw [keM_g hi]
  simpa using h.2.1
theorem max_nI {a b : Nat} (ha : a < 2 ^ 31) (hb : b < 2 ^ 31) : (if nI a < nI b then nI b else nI a) = nI (max a b) := by
  by_cases h : nI a < nI b
  · rw [if_pos h, Nat.max_eq_right (Nat.le_of_lt (j_lt_t ha hb h))]
  · rw [if_neg h, Nat.max_eq_left (j_lt_f ha hb h)]
theorem set_gd {r : List Nat} {k v : Nat} (h : r.getD k 0 = v) (hk : k < r.length) : r.set k v = r := by
  refine List.ext_getElem (by simp) (fun j h1 h2 => ?_)
  rw [List.getElem_set]
  split
  · rename_i e
    subst e
    rw [← h]
    simp [List.getD, hk]
  · rfl
theorem ttE_none {n : Nat} {r : List Nat} (h4 : r.getD 4 0 = 0) (h5 : r.getD 5 0 = 0) (hl : 7 ≤ r.length) : ttE (none, n, r) = r.set 6 n := by
  show ((r.set 4 0).set 5 0).set 6 n = _
  rw [set_gd h4 (by omega), set_gd h5 (by omega)]
theorem ttE_some {n k : Nat} {r : List Nat} : ttE (some k, n, r) = ((r.set 6 n).set 4 255).set 5 k := by
  show ((r.set 4 255).set 5 k).set 6 n = _
  rw [List.set_comm _ _ (show 6 ≠ 4 by decide), List.set_comm _ _ (show 6 ≠ 5 by decide)]
theorem nx_t {U : List (Nat × List Nat)} {top k : Nat} (h1 : k < U.length) (h2 : keM U k ≤ top) : nxT U top k = some (keM U k) := if_pos ⟨h1, h2⟩
theorem nx_n {U : List (Nat × List Nat)} {top k : Nat} (h : ¬ (k < U.length ∧ keM U k ≤ top)) : nxT U top k = none := if_neg h
theorem gd_ap3 {r a b c : List Nat} {i : Nat} (hi : i < r.length) : (((r ++ a) ++ b) ++ c).getD i 0 = r.getD i 0 := by
  rw [List.append_assoc, List.append_assoc]
  simp [List.getD, List.getElem?_append_left hi]
theorem gd_ap {r x : List Nat} {i : Nat} (hi : i < r.length) : (r ++ x).getD i 0 = r.getD i 0 := by simp [List.getD, List.getElem?_append_left hi]
set_option maxRecDepth 20000 in
set_option maxHeartbeats 2000000 in
theorem ul_names {m d code id : Nat} {s : DS} (he : okE s) (hok : okD s) (hcode : code < 256) (hid : id < 256) {h : eH} {Q : Option Value → eH → Prop} (hv : rdV d s h) (kk : EE mX15_names 1 22 0 0 Q 92 [some (.ref m), some (.ref d), some (.int (nI code)), some (.int (nI id)), some (.int (nI (ttM code))), some (.int (nI (ttG (dS s 2)))), none, none, none, none, none] [] h 0 0) : ∀ (n : Nat) (i : Nat), (dS s 2).length - i < n → i ≤ (dS s 2).length → EE mX15_names 1 22 0 0 (Q) 32 [some (.ref m), some (.ref d), some (.int (nI code)), some (.int (nI id)), some (.int (nI (ttM code))), some (.int (nI (lvF (sortT (dS s 2)) i))), some (.int (nI i)), none, none, none, none] [] h 0 0 := by
  intro n
  induction n with
  | zero => intro i hlt hle; exact absurd hlt (by omega)
  | succ n ih =>
    intro i hlt hle
    have hsh := (okE_sh he).2.2
    have hsl := shO_le hsh
    have hss := shO_sort hsh
    have hul := sortT_len (M := dS s 2)
    have hk9 := (shO_at hss (by decide) i).1
    have hlv := lvF_lt (U := sortT (dS s 2)) i
    have hv9 := hv
    obtain ⟨A, v0, v1, v2, v3, v4, v5, v6, v7, v8, v9, v10, v11, v12, v13, v14, v15, v16, v17, v18, v19, v20, v21⟩ := hv9
    refine e_iload 34 dX15_names_32 rfl rfl ?_
    refine e_aload_n 35 dX15_names_34 rfl rfl ?_
    refine e_get 38 dX15_names_35 rfl fl_X15_221_10 v0 rfl ?_
    refine e_icmp_ge 92 41 dX15_names_38 rfl rfl (fun c38 => ?_) (fun c38 => ?_)
    · have k38 := j_ge_t (a := i) (b := (dS s 2).length) (by omega) (by omega) c38
      have e9 : i = (sortT (dS s 2)).length := by omega
      refine e_wk [some (.ref m), some (.ref d), some (.int (nI code)), some (.int (nI id)), some (.int (nI (ttM code))), some (.int (nI (lvF (sortT (dS s 2)) i))), none, none, none, none, none] ⟨rfl, rfl, rfl, rfl, rfl, rfl, trivial⟩ ?_
      rw [e9, lvF_G]
      exact kk
    · have k38 := j_ge_f (a := i) (b := (dS s 2).length) (by omega) (by omega) c38
      refine e_iload 43 dX15_names_41 rfl rfl ?_
      refine e_aload_n 44 dX15_names_43 rfl rfl ?_
      refine e_get 47 dX15_names_44 rfl fl_X15_224_10 v0 rfl ?_
      refine e_iload 49 dX15_names_47 rfl rfl ?_
      refine v_iald 50 v15 (k := i) (x := (keM (sortT (dS s 2)) i)) dX15_names_49 rfl (by simp only [kys_len] <;> omega) (by omega) kys_at ?_
      refine e_bipush 52 (v := (nI 6)) dX15_names_50 rfl (by decide) ?_
      refine e_icmp_le 61 55 dX15_names_52 rfl rfl (fun c52 => ?_) (fun c52 => ?_)
      · have k52 := j_le_t (a := (keM (sortT (dS s 2)) i)) (b := 6) (by omega) (by omega) c52
        refine e_aload_n 62 dX15_names_61 rfl rfl ?_
        refine e_get 65 dX15_names_62 rfl fl_X15_224_10 v0 rfl ?_
        refine e_iload 67 dX15_names_65 rfl rfl ?_
        refine v_iald 68 v15 (k := i) (x := (keM (sortT (dS s 2)) i)) dX15_names_67 rfl (by simp only [kys_len] <;> omega) (by omega) kys_at ?_
        refine e_iconst 69 (v := (nI 2)) dX15_names_68 rfl (by decide) ?_
        refine e_icmp_le 78 72 dX15_names_69 rfl rfl (fun c69 => ?_) (fun c69 => ?_)
        · have k69 := j_le_t (a := (keM (sortT (dS s 2)) i)) (b := 2) (by omega) (by omega) c69
          refine e_sipush 81 (v := (nI 129)) dX15_names_78 rfl (by decide) ?_
          refine e_max 84 (v := (nI (lvF (sortT (dS s 2)) (i + 1)))) dX15_names_81 rfl ma_X15_227 (by decide) (Nat.le_of_ble_eq_true rfl) (by omega) (by rw [lvF, show lvK (keM (sortT (dS s 2)) i) = 129 by (rw [lvK, if_neg (by omega), if_neg (by omega)])]; exact max_nI (by omega) (by omega)) ?_
          refine e_istore 86 (ls' := [some (.ref m), some (.ref d), some (.int (nI code)), some (.int (nI id)), some (.int (nI (ttM code))), some (.int (nI (lvF (sortT (dS s 2)) (i + 1)))), some (.int (nI i)), none, none, none, none]) dX15_names_84 rfl (by decide) rfl ?_
          refine e_iinc 89 (v := (nI (i + 1))) (ls' := [some (.ref m), some (.ref d), some (.int (nI code)), some (.int (nI id)), some (.int (nI (ttM code))), some (.int (nI (lvF (sortT (dS s 2)) (i + 1)))), some (.int (nI (i + 1))), none, none, none, none]) dX15_names_86 rfl rfl (nI_add i 1) (by decide) rfl ?_
          refine e_goto 32 dX15_names_89 rfl ?_
          refine e_wk [some (.ref m), some (.ref d), some (.int (nI code)), some (.int (nI id)), some (.int (nI (ttM code))), some (.int (nI (lvF (sortT (dS s 2)) (i + 1)))), some (.int (nI (i + 1))), none, none, none, none] ⟨rfl, rfl, rfl, rfl, rfl, rfl, rfl, trivial⟩ ?_
          exact ih (i + 1) (by omega) (by omega)
        · have k69 := j_le_f (a := (keM (sortT (dS s 2)) i)) (b := 2) (by omega) (by omega) c69
          refine e_sipush 75 (v := (nI 130)) dX15_names_72 rfl (by decide) ?_
          refine e_goto 81 dX15_names_75 rfl ?_
          refine e_max 84 (v := (nI (lvF (sortT (dS s 2)) (i + 1)))) dX15_names_81 rfl ma_X15_227 (by decide) (Nat.le_of_ble_eq_true rfl) (by omega) (by rw [lvF, show lvK (keM (sortT (dS s 2)) i) = 130 by (rw [lvK, if_neg (by omega), if_pos (by omega)])]; exact max_nI (by omega) (by omega)) ?_
          refine e_istore 86 (ls' := [some (.ref m), some (.ref d), some (.int (nI code)), some (.int (nI id)), some (.int (nI (ttM code))), some (.int (nI (lvF (sortT (dS s 2)) (i + 1)))), some (.int (nI i)), none, none, none, none]) dX15_names_84 rfl (by decide) rfl ?_
          refine e_iinc 89 (v := (nI (i + 1))) (ls' := [some (.ref m), some (.ref d), some (.int (nI code)), some (.int (nI id)), some (.int (nI (ttM code))), some (.int (nI (lvF (sortT (dS s 2)) (i + 1)))), some (.int (nI (i + 1))), none, none, none, none]) dX15_names_86 rfl rfl (nI_add i 1) (by decide) rfl ?_
          refine e_goto 32 dX15_names_89 rfl ?_
          refine e_wk [some (.ref m), some (.ref d), some (.int (nI code)), some (.int (nI id)), some (.int (nI (ttM code))), some (.int (nI (lvF (sortT (dS s 2)) (i + 1)))), some (.int (nI (i + 1))), none, none, none, none] ⟨rfl, rfl, rfl, rfl, rfl, rfl, rfl, trivial⟩ ?_
          exact ih (i + 1) (by omega) (by omega)
      · have k52 := j_le_f (a := (keM (sortT (dS s 2)) i)) (b := 6) (by omega) (by omega) c52
        refine e_sipush 58 (v := (nI 131)) dX15_names_55 rfl (by decide) ?_
        refine e_goto 81 dX15_names_58 rfl ?_
        refine e_max 84 (v := (nI (lvF (sortT (dS s 2)) (i + 1)))) dX15_names_81 rfl ma_X15_227 (by decide) (Nat.le_of_ble_eq_true rfl) (by omega) (by rw [lvF, show lvK (keM (sortT (dS s 2)) i) = 131 by (rw [lvK, if_pos (by omega)])]; exact max_nI (by omega) (by omega)) ?_
        refine e_istore 86 (ls' := [some (.ref m), some (.ref d), some (.int (nI code)), some (.int (nI id)), some (.int (nI (ttM code))), some (.int (nI (lvF (sortT (dS s 2)) (i + 1)))), some (.int (nI i)), none, none, none, none]) dX15_names_84 rfl (by decide) rfl ?_
        refine e_iinc 89 (v := (nI (i + 1))) (ls' := [some (.ref m), some (.ref d), some (.int (nI code)), some (.int (nI id)), some (.int (nI (ttM code))), some (.int (nI (lvF (sortT (dS s 2)) (i + 1)))), some (.int (nI (i + 1))), none, none, none, none]) dX15_names_86 rfl rfl (nI_add i 1) (by decide) rfl ?_
        refine e_goto 32 dX15_names_89 rfl ?_
        refine e_wk [some (.ref m), some (.ref d), some (.int (nI code)), some (.int (nI id)), some (.int (nI (ttM code))), some (.int (nI (lvF (sortT (dS s 2)) (i + 1)))), some (.int (nI (i + 1))), none, none, none, none] ⟨rfl, rfl, rfl, rfl, rfl, rfl, rfl, trivial⟩ ?_
        exact ih (i + 1) (by omega) (by omega)
theorem okM_sort {s : DS} (h : okD s) : okM 256 (sortT (dS s 2)) := fun e he => h.2.2.2.2.2.2.2.2.2.2.1 e ((sortT_perm _).mem_iff.mp he)
set_option maxRecDepth 20000 in
set_option maxHeartbeats 2000000 in
theorem l_X15_names1 {m d code id : Nat} {F w : Nat → Nat} {bg : Bool} {s : DS} (he : okE s) (hok : okD s) (hcode : code < 256) (hid : id < 256) {r : List Nat} {k f0 lst : Nat} (hk : k < (dS s 2).length) (hr : r.length + (rwM (sortT (dS s 2)) k).length ≤ 253) {Q : Option Value → eH → Prop} (kk : ∀ h : eH, stars [ansP m F w bg (r ++ (rwM (sortT (dS s 2)) k)), rdv d s] h → EE mX15_names 1 22 0 0 Q 290 [some (.ref m), some (.ref d), some (.int (nI code)), some (.int (nI id)), some (.int (nI (ttM code))), none, some (.int (nI f0)), none, some (.int (nI k)), some (.int (nI lst)), none] [] h 0 0) : ∀ (n : Nat) (i : Nat) (h : eH), (rwM (sortT (dS s 2)) k).length - i < n → i ≤ (rwM (sortT (dS s 2)) k).length → stars [ansP m F w bg (r ++ (rwM (sortT (dS s 2)) k).take i), rdv d s] h → EE mX15_names 1 22 0 0 (Q) 258 [some (.ref m), some (.ref d), some (.int (nI code)), some (.int (nI id)), some (.int (nI (ttM code))), none, some (.int (nI f0)), none, some (.int (nI k)), some (.int (nI lst)), some (.int (nI i))] [] h 0 0 := by
  intro n
  induction n with
  | zero => intro i h hlt hle hL; exact absurd hlt (by omega)
  | succ n ih =>
    intro i h hlt hle hL
    have hsh := (okE_sh he).2.2
    have hsl := shO_le hsh
    have hss := shO_sort hsh
    have hul := sortT_len (M := dS s 2)
    have hrl := (shO_at hss (by decide) k).2
    refine e_iload 260 dX15_names_258 rfl rfl ?_
    refine e_aload_n 261 dX15_names_260 rfl rfl ?_
    obtain ⟨A261, v261_0, v261_1, v261_2, v261_3, v261_4, v261_5, v261_6, v261_7, v261_8, v261_9, v261_10, v261_11, v261_12, v261_13, v261_14, v261_15, v261_16, v261_17, v261_18, v261_19, v261_20, v261_21⟩ := rdv_V _ 1 hL rfl
    refine e_get 264 dX15_names_261 rfl fl_X15_232_10 v261_0 rfl ?_
    refine e_iload 266 dX15_names_264 rfl rfl ?_
    refine v_iald 267 v261_16 (k := k) (x := (rwM (sortT (dS s 2)) k).length) dX15_names_266 rfl (by simp only [szs_len] <;> omega) (by omega) szs_at ?_
    refine e_icmp_ge 290 270 dX15_names_267 rfl rfl (fun c267 => ?_) (fun c267 => ?_)
    · have k267 := j_ge_t (a := i) (b := ((rwM (sortT (dS s 2)) k).length)) (by omega) (by omega) c267
      rw [List.take_of_length_le (by omega)] at hL
      refine e_wk [some (.ref m), some (.ref d), some (.int (nI code)), some (.int (nI id)), some (.int (nI (ttM code))), none, some (.int (nI f0)), none, some (.int (nI k)), some (.int (nI lst)), none] ⟨rfl, rfl, rfl, rfl, rfl, rfl, rfl, rfl, trivial⟩ ?_
      exact kk h hL
    · have k267 := j_ge_f (a := i) (b := ((rwM (sortT (dS s 2)) k).length)) (by omega) (by omega) c267
      refine e_aload_n 271 dX15_names_270 rfl rfl ?_
      refine e_aload_n 272 dX15_names_271 rfl rfl ?_
      refine e_get 275 dX15_names_272 rfl fl_X15_235_10 v261_0 rfl ?_
      refine e_iload 277 dX15_names_275 rfl rfl ?_
      refine v_aald 278 v261_17 (k := k) dX15_names_277 rfl (by omega) (by omega) (fun b277 y277 => ?_)
      refine e_iload 280 dX15_names_278 rfl rfl ?_
      have b280 := gd_lt (i := i) (okM_at (i := k) (okM_sort hok)) (by decide)
      refine v_iald 281 y277 (k := i) (x := ((rwM (sortT (dS s 2)) k).getD i 0)) dX15_names_280 rfl (by omega) (by omega) rfl ?_
      refine p_callV 284 hL [0, 1] 2 rfl (by decide) (L1 := [ansP m F w bg (r ++ (rwM (sortT (dS s 2)) k).take i)]) (L2 := [rdv d s]) rfl ans_O 0 rfl dX15_names_281 rfl cv_X15_92 (k_saysB (by rw [List.length_append, List.length_take]; omega) (by omega)) rfl rfl (Nat.le_of_ble_eq_true rfl) ⟨by decide, by omega, by omega⟩ (fun r1 L1 h q hL => ?_)
      obtain ⟨rfl, rfl⟩ := q
      have hL : stars [ansP m F w bg ((r ++ (rwM (sortT (dS s 2)) k).take i) ++ [((rwM (sortT (dS s 2)) k).getD i 0)]), rdv d s] h := hL
      refine e_iinc 287 (v := (nI (i + 1))) (ls' := [some (.ref m), some (.ref d), some (.int (nI code)), some (.int (nI id)), some (.int (nI (ttM code))), none, some (.int (nI f0)), none, some (.int (nI k)), some (.int (nI lst)), some (.int (nI (i + 1)))]) dX15_names_284 rfl rfl (nI_add i 1) (by decide) rfl ?_
      refine e_goto 258 dX15_names_287 rfl ?_
      rw [List.append_assoc, ← take_gd (by omega)] at hL
      have hL : stars [ansP m F w bg (r ++ (rwM (sortT (dS s 2)) k).take (i + 1)), rdv d s] h := hL
      refine e_wk [some (.ref m), some (.ref d), some (.int (nI code)), some (.int (nI id)), some (.int (nI (ttM code))), none, some (.int (nI f0)), none, some (.int (nI k)), some (.int (nI lst)), some (.int (nI (i + 1)))] ⟨rfl, rfl, rfl, rfl, rfl, rfl, rfl, rfl, rfl, trivial⟩ ?_
      exact ih (i + 1) h (by omega) (by omega) hL
theorem ttM_lt {code : Nat} : ttM code ≤ 255 := by unfold ttM; (repeat' split) <;> omega
set_option maxRecDepth 20000 in
set_option maxHeartbeats 2000000 in
theorem l_X15_names {m d code id : Nat} {F w : Nat → Nat} {bg : Bool} {s : DS} (he : okE s) (hok : okD s) (hcode : code < 256) (hid : id < 256) {f0 : Nat} (hc4 : code ≠ 4) {X : Option Nat × Nat × List Nat} : ∀ (n : Nat) (t k : Nat) (r : List Nat) (h : eH), (dS s 2).length - k < n → f0 ≤ k → k ≤ (dS s 2).length → t + (k - f0) = 10 → r.length ≤ 253 → 7 ≤ r.length → r.getD 4 0 = 0 → r.getD 5 0 = 0 → ttL (dS s 2) code (ttM code) t (nxT (sortT (dS s 2)) (ttM code) k) (k - f0) r = X → stars [ansP m F w bg r, rdv d s] h → EE mX15_names 1 22 0 0 (fun x9 h' => ∃ K, (x9 = none ∧ K = [ansP m F w bg (ttE X), rdv d s]) ∧ stars K h') 183 [some (.ref m), some (.ref d), some (.int (nI code)), some (.int (nI id)), some (.int (nI (ttM code))), none, some (.int (nI f0)), none, some (.int (nI k)), some (.int (nI (dS s 2).length)), none] [] h 0 0 := by
  intro n
  induction n with
  | zero => intro t k r h hlt hfk hkl htk hr253 h7 h4 h5 hX hL; exact absurd hlt (by omega)
  | succ n ih =>
    intro t k r h hlt hfk hkl htk hr253 h7 h4 h5 hX hL
    have hsh := (okE_sh he).2.2
    have hsl := shO_le hsh
    have hss := shO_sort hsh
    have hul := sortT_len (M := dS s 2)
    have hk9 := (shO_at hss (by decide) k).1
    have hrl := (shO_at hss (by decide) k).2
    have htm := ttM_lt (code := code)
    refine e_iload 185 dX15_names_183 rfl rfl ?_
    refine e_iload 187 dX15_names_185 rfl rfl ?_
    refine e_icmp_ge 296 190 dX15_names_187 rfl rfl (fun c187 => ?_) (fun c187 => ?_)
    · have k187 := j_ge_t (a := k) (b := (dS s 2).length) (by omega) (by omega) c187
      have hL := ans_o hL
      have hL : stars [pt m (.inr (13, moF F (upN w 4 r.length) bg)), iar (F 3) 300 r, rdv d s] h := hL
      refine e_aload_n 297 dX15_names_296 rfl rfl ?_
      refine e_get 300 dX15_names_297 rfl fl_X15_15_13 (stars_at _ 0 hL rfl) rfl ?_
      refine e_bipush 302 (v := (nI 6)) dX15_names_300 rfl (by decide) ?_
      refine e_iload 304 dX15_names_302 rfl rfl ?_
      refine e_iload 306 dX15_names_304 rfl rfl ?_
      refine e_isub 307 (v := (nI (k - f0))) dX15_names_306 rfl (pk_sub (by omega)) ?_
      refine p_iastR 308 hL 1 (r := r) (r' := (r.set 6 (k - f0))) (k := 6) (v := (k - f0)) (L' := [pt m (.inr (13, moF F (upN w 4 r.length) bg)), iar (F 3) 300 (r.set 6 (k - f0)), rdv d s]) rfl dX15_names_307 rfl (by omega) (by omega) (iw_set (by omega) (by omega)) rfl (fun h hL => ?_)
      refine e_iload 310 dX15_names_308 rfl rfl ?_
      refine e_iload 312 dX15_names_310 rfl rfl ?_
      refine e_icmp_ge 354 315 dX15_names_312 rfl rfl (fun c312 => ?_) (fun c312 => absurd c312 (fun z => z c187))
      exact e_vret dX15_names_354 rfl (by omega) (by omega) (⟨_, ⟨rfl, rfl⟩, by rw [← hX, nx_n (by omega), ttL_none, ttE_none h4 h5 h7]; exact ans_c (by rw [List.length_set]; exact hL)⟩)
    · have k187 := j_ge_f (a := k) (b := (dS s 2).length) (by omega) (by omega) c187
      refine e_aload_n 191 dX15_names_190 rfl rfl ?_
      obtain ⟨A191, v191_0, v191_1, v191_2, v191_3, v191_4, v191_5, v191_6, v191_7, v191_8, v191_9, v191_10, v191_11, v191_12, v191_13, v191_14, v191_15, v191_16, v191_17, v191_18, v191_19, v191_20, v191_21⟩ := rdv_V _ 1 hL rfl
      refine e_get 194 dX15_names_191 rfl fl_X15_224_10 v191_0 rfl ?_
      refine e_iload 196 dX15_names_194 rfl rfl ?_
      refine v_iald 197 v191_15 (k := k) (x := (keM (sortT (dS s 2)) k)) dX15_names_196 rfl (by simp only [kys_len] <;> omega) (by omega) kys_at ?_
      refine e_iload_n 198 dX15_names_197 rfl rfl ?_
      refine e_iconst 199 (v := (nI 4)) dX15_names_198 rfl (by decide) ?_
      refine e_icmp_ne 208 202 dX15_names_199 rfl rfl (fun c199 => ?_) (fun c199 => absurd c199 (fun z => absurd (j_eq_t (by omega) (by omega) z) hc4))
      refine e_iload 210 dX15_names_208 rfl rfl ?_
      refine e_icmp_gt 296 213 dX15_names_210 rfl rfl (fun c210 => ?_) (fun c210 => ?_)
      · have k210 := j_gt_t (a := (keM (sortT (dS s 2)) k)) (b := (ttM code)) (by omega) (by omega) c210
        have hL := ans_o hL
        have hL : stars [pt m (.inr (13, moF F (upN w 4 r.length) bg)), iar (F 3) 300 r, rdv d s] h := hL
        refine e_aload_n 297 dX15_names_296 rfl rfl ?_
        refine e_get 300 dX15_names_297 rfl fl_X15_15_13 (stars_at _ 0 hL rfl) rfl ?_
        refine e_bipush 302 (v := (nI 6)) dX15_names_300 rfl (by decide) ?_
        refine e_iload 304 dX15_names_302 rfl rfl ?_
        refine e_iload 306 dX15_names_304 rfl rfl ?_
        refine e_isub 307 (v := (nI (k - f0))) dX15_names_306 rfl (pk_sub (by omega)) ?_
        refine p_iastR 308 hL 1 (r := r) (r' := (r.set 6 (k - f0))) (k := 6) (v := (k - f0)) (L' := [pt m (.inr (13, moF F (upN w 4 r.length) bg)), iar (F 3) 300 (r.set 6 (k - f0)), rdv d s]) rfl dX15_names_307 rfl (by omega) (by omega) (iw_set (by omega) (by omega)) rfl (fun h hL => ?_)
        refine e_iload 310 dX15_names_308 rfl rfl ?_
        refine e_iload 312 dX15_names_310 rfl rfl ?_
        refine e_icmp_ge 354 315 dX15_names_312 rfl rfl (fun c312 => absurd c312 c187) (fun c312 => ?_)
        refine e_aload_n 316 dX15_names_315 rfl rfl ?_
        obtain ⟨A316, v316_0, v316_1, v316_2, v316_3, v316_4, v316_5, v316_6, v316_7, v316_8, v316_9, v316_10, v316_11, v316_12, v316_13, v316_14, v316_15, v316_16, v316_17, v316_18, v316_19, v316_20, v316_21⟩ := rdv_V _ 2 hL rfl
        refine e_get 319 dX15_names_316 rfl fl_X15_224_10 v316_0 rfl ?_
        refine e_iload 321 dX15_names_319 rfl rfl ?_
        refine v_iald 322 v316_15 (k := k) (x := (keM (sortT (dS s 2)) k)) dX15_names_321 rfl (by simp only [kys_len] <;> omega) (by omega) kys_at ?_
        refine e_iload 324 dX15_names_322 rfl rfl ?_
        refine e_icmp_gt 354 327 dX15_names_324 rfl rfl (fun c324 => ?_) (fun c324 => absurd c324 (fun z => z c210))
        exact e_vret dX15_names_354 rfl (by omega) (by omega) (⟨_, ⟨rfl, rfl⟩, by rw [← hX, nx_n (by omega), ttL_none, ttE_none h4 h5 h7]; exact ans_c (by rw [List.length_set]; exact hL)⟩)
      · have k210 := j_gt_f (a := (keM (sortT (dS s 2)) k)) (b := (ttM code)) (by omega) (by omega) c210
        refine e_aload_n 214 dX15_names_213 rfl rfl ?_
        refine e_get 217 dX15_names_214 rfl fl_X15_89_13 (ans_V _ 0 hL rfl) rfl ?_
        refine e_iconst 218 (v := (nI 2)) dX15_names_217 rfl (by decide) ?_
        refine e_iadd 219 (v := (nI (r.length + 2))) dX15_names_218 rfl (nI_add r.length 2) ?_
        refine e_aload_n 220 dX15_names_219 rfl rfl ?_
        refine e_get 223 dX15_names_220 rfl fl_X15_232_10 v191_0 rfl ?_
        refine e_iload 225 dX15_names_223 rfl rfl ?_
        refine v_iald 226 v191_16 (k := k) (x := (rwM (sortT (dS s 2)) k).length) dX15_names_225 rfl (by simp only [szs_len] <;> omega) (by omega) szs_at ?_
        refine e_iadd 227 (v := (nI ((r.length + 2) + ((rwM (sortT (dS s 2)) k).length)))) dX15_names_226 rfl (nI_add (r.length + 2) ((rwM (sortT (dS s 2)) k).length)) ?_
        refine e_sipush 230 (v := (nI 253)) dX15_names_227 rfl (by decide) ?_
        refine e_icmp_gt 296 233 dX15_names_230 rfl rfl (fun c230 => ?_) (fun c230 => ?_)
        · have k230 := j_gt_t (a := ((r.length + 2) + ((rwM (sortT (dS s 2)) k).length))) (b := 253) (by omega) (by omega) c230
          have hL := ans_o hL
          have hL : stars [pt m (.inr (13, moF F (upN w 4 r.length) bg)), iar (F 3) 300 r, rdv d s] h := hL
          refine e_aload_n 297 dX15_names_296 rfl rfl ?_
          refine e_get 300 dX15_names_297 rfl fl_X15_15_13 (stars_at _ 0 hL rfl) rfl ?_
          refine e_bipush 302 (v := (nI 6)) dX15_names_300 rfl (by decide) ?_
          refine e_iload 304 dX15_names_302 rfl rfl ?_
          refine e_iload 306 dX15_names_304 rfl rfl ?_
          refine e_isub 307 (v := (nI (k - f0))) dX15_names_306 rfl (pk_sub (by omega)) ?_
          refine p_iastR 308 hL 1 (r := r) (r' := (r.set 6 (k - f0))) (k := 6) (v := (k - f0)) (L' := [pt m (.inr (13, moF F (upN w 4 r.length) bg)), iar (F 3) 300 (r.set 6 (k - f0)), rdv d s]) rfl dX15_names_307 rfl (by omega) (by omega) (iw_set (by omega) (by omega)) rfl (fun h hL => ?_)
          refine e_iload 310 dX15_names_308 rfl rfl ?_
          refine e_iload 312 dX15_names_310 rfl rfl ?_
          refine e_icmp_ge 354 315 dX15_names_312 rfl rfl (fun c312 => absurd c312 c187) (fun c312 => ?_)
          refine e_aload_n 316 dX15_names_315 rfl rfl ?_
          obtain ⟨A316, v316_0, v316_1, v316_2, v316_3, v316_4, v316_5, v316_6, v316_7, v316_8, v316_9, v316_10, v316_11, v316_12, v316_13, v316_14, v316_15, v316_16, v316_17, v316_18, v316_19, v316_20, v316_21⟩ := rdv_V _ 2 hL rfl
          refine e_get 319 dX15_names_316 rfl fl_X15_224_10 v316_0 rfl ?_
          refine e_iload 321 dX15_names_319 rfl rfl ?_
          refine v_iald 322 v316_15 (k := k) (x := (keM (sortT (dS s 2)) k)) dX15_names_321 rfl (by simp only [kys_len] <;> omega) (by omega) kys_at ?_
          refine e_iload 324 dX15_names_322 rfl rfl ?_
          refine e_icmp_gt 354 327 dX15_names_324 rfl rfl (fun c324 => absurd c324 c210) (fun c324 => ?_)
          refine e_iload_n 328 dX15_names_327 rfl rfl ?_
          refine e_iconst 329 (v := (nI 4)) dX15_names_328 rfl (by decide) ?_
          refine e_icmp_eq 354 332 dX15_names_329 rfl rfl (fun c329 => absurd c329 (fun z => absurd (j_eq_t (by omega) (by omega) z) hc4)) (fun c329 => ?_)
          refine e_aload_n 333 dX15_names_332 rfl rfl ?_
          refine e_get 336 dX15_names_333 rfl fl_X15_15_13 (stars_at _ 0 hL rfl) rfl ?_
          refine e_iconst 337 (v := (nI 4)) dX15_names_336 rfl (by decide) ?_
          refine e_sipush 340 (v := (nI 255)) dX15_names_337 rfl (by decide) ?_
          refine p_iastR 341 hL 1 (r := (r.set 6 (k - f0))) (r' := ((r.set 6 (k - f0)).set 4 255)) (k := 4) (v := 255) (L' := [pt m (.inr (13, moF F (upN w 4 r.length) bg)), iar (F 3) 300 ((r.set 6 (k - f0)).set 4 255), rdv d s]) rfl dX15_names_340 rfl (by omega) (by omega) (iw_set (by rw [List.length_set]; omega) (by rw [List.length_set]; omega)) rfl (fun h hL => ?_)
          refine e_aload_n 342 dX15_names_341 rfl rfl ?_
          refine e_get 345 dX15_names_342 rfl fl_X15_15_13 (stars_at _ 0 hL rfl) rfl ?_
          refine e_iconst 346 (v := (nI 5)) dX15_names_345 rfl (by decide) ?_
          refine e_aload_n 347 dX15_names_346 rfl rfl ?_
          obtain ⟨A347, v347_0, v347_1, v347_2, v347_3, v347_4, v347_5, v347_6, v347_7, v347_8, v347_9, v347_10, v347_11, v347_12, v347_13, v347_14, v347_15, v347_16, v347_17, v347_18, v347_19, v347_20, v347_21⟩ := rdv_V _ 2 hL rfl
          refine e_get 350 dX15_names_347 rfl fl_X15_224_10 v347_0 rfl ?_
          refine e_iload 352 dX15_names_350 rfl rfl ?_
          refine v_iald 353 v347_15 (k := k) (x := (keM (sortT (dS s 2)) k)) dX15_names_352 rfl (by simp only [kys_len] <;> omega) (by omega) kys_at ?_
          refine p_iastR 354 hL 1 (r := ((r.set 6 (k - f0)).set 4 255)) (r' := (((r.set 6 (k - f0)).set 4 255).set 5 (keM (sortT (dS s 2)) k))) (k := 5) (v := (keM (sortT (dS s 2)) k)) (L' := [pt m (.inr (13, moF F (upN w 4 r.length) bg)), iar (F 3) 300 (((r.set 6 (k - f0)).set 4 255).set 5 (keM (sortT (dS s 2)) k)), rdv d s]) rfl dX15_names_353 rfl (by omega) (by omega) (iw_set (by rw [List.length_set, List.length_set]; omega) (by rw [List.length_set, List.length_set]; omega)) rfl (fun h hL => ?_)
          exact e_vret dX15_names_354 rfl (by omega) (by omega) (⟨_, ⟨rfl, rfl⟩, by (obtain ⟨i9, hx9, hr9⟩ := ix_row (T := dS s 2) (k := k) hsh.2.2 (fun e he => Nat.lt_trans (hsh.2.1 e he).1 (by decide)) (by omega)); (obtain ⟨t, rfl⟩ : ∃ t9, t = t9 + 1 := ⟨t - 1, by omega⟩); rw [← hX, nx_t (by omega) (by omega), ttL_f hx9 (by rw [hr9]; omega), ttE_some]; exact ans_c (by rw [List.length_set, List.length_set, List.length_set]; exact hL)⟩)
        · have k230 := j_gt_f (a := ((r.length + 2) + ((rwM (sortT (dS s 2)) k).length))) (b := 253) (by omega) (by omega) c230
          refine e_aload_n 234 dX15_names_233 rfl rfl ?_
          refine e_aload_n 235 dX15_names_234 rfl rfl ?_
          refine e_get 238 dX15_names_235 rfl fl_X15_224_10 v191_0 rfl ?_
          refine e_iload 240 dX15_names_238 rfl rfl ?_
          refine v_iald 241 v191_15 (k := k) (x := (keM (sortT (dS s 2)) k)) dX15_names_240 rfl (by simp only [kys_len] <;> omega) (by omega) kys_at ?_
          refine p_callV 244 hL [0, 1] 2 rfl (by decide) (L1 := [ansP m F w bg r]) (L2 := [rdv d s]) rfl ans_O 0 rfl dX15_names_241 rfl cv_X15_92 (k_saysB (by first | omega | (simp only [List.length_append, List.length_cons, List.length_nil] <;> omega)) (by omega)) rfl rfl (Nat.le_of_ble_eq_true rfl) ⟨by decide, by omega, by omega⟩ (fun r1 L1 h q hL => ?_)
          obtain ⟨rfl, rfl⟩ := q
          have hL : stars [ansP m F w bg (r ++ [(keM (sortT (dS s 2)) k)]), rdv d s] h := hL
          refine e_aload_n 245 dX15_names_244 rfl rfl ?_
          refine e_aload_n 246 dX15_names_245 rfl rfl ?_
          obtain ⟨A246, v246_0, v246_1, v246_2, v246_3, v246_4, v246_5, v246_6, v246_7, v246_8, v246_9, v246_10, v246_11, v246_12, v246_13, v246_14, v246_15, v246_16, v246_17, v246_18, v246_19, v246_20, v246_21⟩ := rdv_V _ 1 hL rfl
          refine e_get 249 dX15_names_246 rfl fl_X15_232_10 v246_0 rfl ?_
          refine e_iload 251 dX15_names_249 rfl rfl ?_
          refine v_iald 252 v246_16 (k := k) (x := (rwM (sortT (dS s 2)) k).length) dX15_names_251 rfl (by simp only [szs_len] <;> omega) (by omega) szs_at ?_
          refine p_callV 255 hL [0, 1] 2 rfl (by decide) (L1 := [ansP m F w bg (r ++ [(keM (sortT (dS s 2)) k)])]) (L2 := [rdv d s]) rfl ans_O 0 rfl dX15_names_252 rfl cv_X15_92 (k_saysB (by first | omega | (simp only [List.length_append, List.length_cons, List.length_nil] <;> omega)) (by omega)) rfl rfl (Nat.le_of_ble_eq_true rfl) ⟨by decide, by omega, by omega⟩ (fun r1 L1 h q hL => ?_)
          obtain ⟨rfl, rfl⟩ := q
          have hL : stars [ansP m F w bg ((r ++ [(keM (sortT (dS s 2)) k)]) ++ [((rwM (sortT (dS s 2)) k).length)]), rdv d s] h := hL
          refine e_iconst 256 (v := (nI 0)) dX15_names_255 rfl (by decide) ?_
          refine e_istore 258 (ls' := [some (.ref m), some (.ref d), some (.int (nI code)), some (.int (nI id)), some (.int (nI (ttM code))), none, some (.int (nI f0)), none, some (.int (nI k)), some (.int (nI (dS s 2).length)), some (.int (nI 0))]) dX15_names_256 rfl (by decide) rfl ?_
          refine e_wk [some (.ref m), some (.ref d), some (.int (nI code)), some (.int (nI id)), some (.int (nI (ttM code))), none, some (.int (nI f0)), none, some (.int (nI k)), some (.int (nI (dS s 2).length)), some (.int (nI 0))] ⟨rfl, rfl, rfl, rfl, rfl, rfl, rfl, rfl, rfl, trivial⟩ ?_
          refine l_X15_names1 he hok hcode hid (r := (r ++ [(keM (sortT (dS s 2)) k)]) ++ [(rwM (sortT (dS s 2)) k).length]) (by omega) (by simp only [List.length_append, List.length_cons, List.length_nil] <;> omega) (fun h hL => ?_) _ 0 h (Nat.lt_succ_self _) (Nat.zero_le _) (by rw [List.take_zero, List.append_nil]; exact hL)
          refine e_iinc 293 (v := (nI (k + 1))) (ls' := [some (.ref m), some (.ref d), some (.int (nI code)), some (.int (nI id)), some (.int (nI (ttM code))), none, some (.int (nI f0)), none, some (.int (nI (k + 1))), some (.int (nI (dS s 2).length)), none]) dX15_names_290 rfl rfl (nI_add k 1) (by decide) rfl ?_
          refine e_goto 183 dX15_names_293 rfl ?_
          refine e_wk [some (.ref m), some (.ref d), some (.int (nI code)), some (.int (nI id)), some (.int (nI (ttM code))), none, some (.int (nI f0)), none, some (.int (nI (k + 1))), some (.int (nI (dS s 2).length)), none] ⟨rfl, rfl, rfl, rfl, rfl, rfl, rfl, rfl, trivial⟩ ?_
          obtain ⟨t, rfl⟩ : ∃ t9, t = t9 + 1 := ⟨t - 1, by omega⟩
          obtain ⟨i9, hx9, hr9⟩ := ix_row (T := dS s 2) (k := k) hsh.2.2 (fun e he => Nat.lt_trans (hsh.2.1 e he).1 (by decide)) (by omega)
          exact ih t (k + 1) (((r ++ [(keM (sortT (dS s 2)) k)]) ++ [(rwM (sortT (dS s 2)) k).length]) ++ (rwM (sortT (dS s 2)) k)) h (by omega) (by omega) (by omega) (by omega) (by simp only [List.length_append, List.length_cons, List.length_nil] <;> omega) (by simp only [List.length_append, List.length_cons, List.length_nil] <;> omega) ((gd_ap3 (show 4 < r.length by omega)).trans h4) ((gd_ap3 (show 5 < r.length by omega)).trans h5) (by rw [← hX, nx_t (U := sortT (dS s 2)) (top := ttM code) (k := k) (by omega) (by omega), ttL_s hx9 (by rw [hr9]; omega), hr9, if_neg hc4, nx_s hsh.2.2 (by omega), show k + 1 - f0 = k - f0 + 1 by omega]) hL
