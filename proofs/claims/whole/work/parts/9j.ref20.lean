/-! the reference: serve, once nothing is refused -/
def sv9S (s : DS) (q : List Nat) : DS := if itF (q.getD 0 0) then s else (s.1, s.2.1, s.2.2.1, pfC s.2.2.2.1 q, upL (pfV s.2.1 s.2.2.2.2.1 q) 5 (pfL (s.2.2.2.2.1 5) q), upM s.2.2.2.2.2.1 0 (pfF (s.2.2.2.2.2.1 0) q), upB s.2.2.2.2.2.2 0 (pfD (s.2.2.2.2.2.2 0) q))
def sv9A (s : DS) (q : List Nat) : List Nat := if itF (q.getD 0 0) then tlA (s.1 0) (s.2.1 0) (s.2.2.2.2.1 0) s.2.2.2.1 (s.2.2.2.2.1 5) s.2.2.2.2.2.1 q else pfA s.2.1 s.2.2.2.2.1 s.2.2.2.1 q
theorem it_f {f : Nat} (h : ¬ (f = 7 ∨ f = 11 ∨ f = 12 ∨ f = 17 ∨ f = 20 ∨ f = 24 ∨ f = 43)) : ¬ itF f = true := fun z => h (of_decide_eq_true z)
theorem it_t {f : Nat} (h : f = 7 ∨ f = 11 ∨ f = 12 ∨ f = 17 ∨ f = 20 ∨ f = 24 ∨ f = 43) : itF f = true := decide_eq_true h
theorem sv_it {s : DS} {q : List Nat} (h : q.getD 0 0 = 7 ∨ q.getD 0 0 = 11 ∨ q.getD 0 0 = 12 ∨ q.getD 0 0 = 17 ∨ q.getD 0 0 = 20 ∨ q.getD 0 0 = 24 ∨ q.getD 0 0 = 43) : sv9S s q = s := if_pos (it_t h)
theorem sv_b {s : DS} {q : List Nat} {L : Nat → List Nat} (h : ¬ (q.getD 0 0 = 7 ∨ q.getD 0 0 = 11 ∨ q.getD 0 0 = 12 ∨ q.getD 0 0 = 17 ∨ q.getD 0 0 = 20 ∨ q.getD 0 0 = 24 ∨ q.getD 0 0 = 43)) (h8 : q.getD 0 0 ≠ 8) (h21 : q.getD 0 0 ≠ 21) (hV : pfV (dF s) (dL s) q = L) (h5 : L 5 = dL s 5) : sv9S s q = (s.1, s.2.1, s.2.2.1, s.2.2.2.1, L, s.2.2.2.2.2) := by
  unfold sv9S
  rw [if_neg (it_f h), pfC, if_neg h8, pfL, if_neg h8, pfF, if_neg h21, pfD, if_neg h8, upM_self, upB_self]
  rw [show pfV s.2.1 s.2.2.2.2.1 q = L from hV, show s.2.2.2.2.1 5 = L 5 from h5.symm, upL_self]
theorem sv_n {s : DS} {q : List Nat} (h : q.getD 0 0 = 1 ∨ q.getD 0 0 = 2 ∨ q.getD 0 0 = 3 ∨ q.getD 0 0 = 4) : sv9S s q = s := sv_b (by omega) (by omega) (by omega) (by rw [pfV, if_neg (by omega), if_neg (by omega), if_neg (by omega), if_neg (by omega), if_neg (by omega), if_neg (by omega)]) rfl
theorem sv_8 {s : DS} {q : List Nat} (h : q.getD 0 0 = 8) : sv9S s q = dnS s q := by
  unfold sv9S
  rw [if_neg (it_f (by omega)), pfC, if_pos h, pfL, if_pos h, pfF, if_neg (by omega), pfD, if_pos h, upM_self, pfV, if_neg (by omega), if_neg (by omega), if_neg (by omega), if_neg (by omega), if_neg (by omega), if_neg (by omega)]
  rfl
theorem sv_21 {s : DS} {q : List Nat} (h : q.getD 0 0 = 21) : sv9S s q = flD s (wfF q 36 2 (dS s 0)) := by
  unfold sv9S
  rw [if_neg (it_f (by omega)), pfC, if_neg (by omega), pfL, if_neg (by omega), pfF, if_pos h, pfD, if_neg (by omega), upB_self, pfV, if_neg (by omega), if_neg (by omega), if_neg (by omega), if_neg (by omega), if_neg (by omega), if_neg (by omega), upL_self]
  rfl
theorem pl_r {fr n a m : Nat} (ha : a < 65536) (h : plI fr n (nI a) m = true) : fr ≤ a ∧ a + m ≤ fr + n := by
  unfold plI at h
  have := of_decide_eq_true h
  rw [nI_clamp (by omega)] at this
  exact this.2.2
theorem fh_21 {bf : Nat → Nat} {bv : Nat → List Nat} {lm : Nat → Nat} {nl : Nat} {S : Nat → List (Nat × List Nat)} {q : List Nat} (h : fhF bf bv lm nl S q = 0) (h0 : q.getD 0 0 = 21) : ffF (S 0) q 2 36 2 = 0 := by
  rw [fhF, if_neg (by omega), if_neg (by omega), if_neg (by omega), if_neg (by omega), if_neg (by omega), if_neg (by omega), if_neg (by omega), if_neg (by omega), if_pos (by omega), if_pos h0] at h
  exact h
theorem fh_8 {bf : Nat → Nat} {bv : Nat → List Nat} {lm : Nat → Nat} {nl : Nat} {S : Nat → List (Nat × List Nat)} {q : List Nat} (h : fhF bf bv lm nl S q = 0) (h0 : q.getD 0 0 = 8) : wd q 1 = 2 → wd q 3 = 0 := by
  rw [fhF, if_neg (by omega), if_neg (by omega), if_neg (by omega), if_neg (by omega), if_neg (by omega), if_neg (by omega), if_pos h0, sdF] at h
  intro h2
  split at h
  · omega
  · cases h
theorem fh_43 {bf : Nat → Nat} {bv : Nat → List Nat} {lm : Nat → Nat} {nl : Nat} {S : Nat → List (Nat × List Nat)} {q : List Nat} (h : fhF bf bv lm nl S q = 0) (h0 : q.getD 0 0 = 43) : q.getD 2 0 = 4 → ixM (S 2) (nI (q.getD 3 0)) ≠ none := by
  rw [fhF, if_neg (by omega), if_neg (by omega), if_neg (by omega), if_neg (by omega), if_neg (by omega), if_neg (by omega), if_neg (by omega), if_neg (by omega), if_neg (by omega), if_neg (by omega), if_neg (by omega), if_neg (by omega), if_pos h0] at h
  intro h2 h3
  rw [if_pos ⟨h2, h3⟩] at h
  cases h
theorem tt_nm {T : List (Nat × List Nat)} {q : List Nat} (h0 : q.getD 0 0 = 43) (h1 : q.getD 1 0 = 14) : ttA T q = nmA T (q.getD 2 0) (q.getD 3 0) := by
  have e : pf q 0 3 = [43, 14, q.getD 2 0] := by
    show [q.getD (0 + 0) 0, q.getD (0 + 1) 0, q.getD (0 + 2) 0] = _
    rw [show q.getD (0 + 0) 0 = 43 from h0, show q.getD (0 + 1) 0 = 14 from h1]
  unfold ttA ttI ttH nmA
  rw [e]
  rfl
theorem pf5 {q : List Nat} (h : 5 ≤ q.length) : q.take 5 = pf q 0 5 := by
  match q, h with
  | a :: b :: c :: d :: e :: l, _ => rfl
theorem rd253 {q : List Nat} (h0 : q.getD 0 0 = 20) (h : shF q = 0) : rdS q ((q.length - 2) / 7) ≤ 253 := by
  have h1 := sh_rd h0 h
  unfold rdP at h1
  have h2 := of_decide_eq_true h1
  rw [show (q.length - 2) / 7 = q.getD 1 0 / 7 by omega]
  exact h2.2.2.2.2.2
theorem okE_bl {s : DS} {r : List Nat} (h : okE s) (hr : r.length = (dL s 2).length) : okE (blD s 2 r) := by
  obtain ⟨e1, e2, e3, e4, e5⟩ := h
  refine ⟨fun k hk => ?_, e2, e3, e4, e5⟩
  show (upL (dL s) 2 r k).length ≤ 400 ∧ dF s k + (upL (dL s) 2 r k).length ≤ 65536
  by_cases z : k = 2
  · subst z; rw [upL_s, hr]; exact e1 2 hk
  · rw [upL_n z]; exact e1 k hk
set_option maxRecDepth 20000 in
set_option maxHeartbeats 2000000 in
theorem g_serve91 {m d a qn : Nat} {F w : Nat → Nat} {bg : Bool} {s : DS} {q : List Nat} (he : okE s) (hok : okD s) (hqn : qn < 100000) (hq : ∀ x ∈ q, x < 256) (h1 : 1 ≤ q.length) (hl9 : q.length ≤ 253) (hsh : shF q = 0) (hfh : fhF (dF s) (dL s) (dM s) (s.1 8) (dS s) q = 0) {h : eH} (hL : stars [ansP m F w bg ([]), rdv d s, iar a qn q] h) : EE mX15_serve 4 95 0 0 (fun x9 h' => ∃ K, (x9 = none ∧ K = [ansP m F w bg (sv9A s q), rdv d (sv9S s q), iar a qn q]) ∧ stars K h') 91 [some (.ref m), some (.ref d), some (.ref a), some (.int (nI q.length)), none, none, none] [] h 0 0 := by
  have hqle := (iar_V _ 2 hL rfl).le
  refine e_aload_n 92 dX15_serve_91 rfl rfl ?_
  refine e_iconst 93 (v := (nI 0)) dX15_serve_92 rfl (by decide) ?_
  have b93 := gd_lt (i := 0) hq (by decide)
  refine v_iald 94 (iar_V _ 2 hL rfl) (k := 0) (x := (q.getD 0 0)) dX15_serve_93 rfl (by omega) (by omega) rfl ?_
  rcases (show ((q.getD 0 0) < 1 ∨ 24 < (q.getD 0 0)) ∨ ((q.getD 0 0) = 1 ∨ (q.getD 0 0) = 2) ∨ ((q.getD 0 0) = 3 ∨ (q.getD 0 0) = 4) ∨ ((q.getD 0 0) = 5) ∨ ((q.getD 0 0) = 6) ∨ ((q.getD 0 0) = 7) ∨ ((q.getD 0 0) = 8) ∨ ((q.getD 0 0) = 9 ∨ (q.getD 0 0) = 10 ∨ (q.getD 0 0) = 13 ∨ (q.getD 0 0) = 14 ∨ (q.getD 0 0) = 18 ∨ (q.getD 0 0) = 19) ∨ ((q.getD 0 0) = 11) ∨ ((q.getD 0 0) = 12) ∨ ((q.getD 0 0) = 15) ∨ ((q.getD 0 0) = 16) ∨ ((q.getD 0 0) = 17) ∨ ((q.getD 0 0) = 20) ∨ ((q.getD 0 0) = 21) ∨ ((q.getD 0 0) = 22) ∨ ((q.getD 0 0) = 23) ∨ ((q.getD 0 0) = 24) by omega) with s94 | s94 | s94 | s94 | s94 | s94 | s94 | s94 | s94 | s94 | s94 | s94 | s94 | s94 | s94 | s94 | s94 | s94
  · refine e_tableOut 817 dX15_serve_94 (by rw [nI_toInt (by omega)]; omega) rfl ?_
    have t9 := sh_told hsh
    have g9 := sh_43 (q := q) (by omega) hsh
    refine e_aload_n 818 dX15_serve_817 rfl rfl ?_
    refine e_aload_n 819 dX15_serve_818 rfl rfl ?_
    refine e_aload_n 820 dX15_serve_819 rfl rfl ?_
    refine e_iconst 821 (v := (nI 2)) dX15_serve_820 rfl (by decide) ?_
    have b821 := gd_lt (i := 2) hq (by decide)
    refine v_iald 822 (iar_V _ 2 hL rfl) (k := 2) (x := (q.getD 2 0)) dX15_serve_821 rfl (by omega) (by omega) rfl ?_
    refine e_aload_n 823 dX15_serve_822 rfl rfl ?_
    refine e_iconst 824 (v := (nI 3)) dX15_serve_823 rfl (by decide) ?_
    have b824 := gd_lt (i := 3) hq (by decide)
    refine v_iald 825 (iar_V _ 2 hL rfl) (k := 3) (x := (q.getD 3 0)) dX15_serve_824 rfl (by omega) (by omega) rfl ?_
    refine p_callV 828 hL [0, 1, 2] 3 rfl (by decide) (L1 := [ansP m F w bg ([]), rdv d s]) (L2 := [iar a qn q]) rfl ans_O 0 rfl dX15_serve_825 rfl cv_X15_207 (k_X15_names (code := q.getD 2 0) (id := q.getD 3 0) he hok (by omega) (by omega) (fh_43 hfh (by omega))) rfl rfl (Nat.le_of_ble_eq_true rfl) ⟨by decide, by omega, by omega⟩ (fun r1 L1 h q hL => ?_)
    obtain ⟨rfl, rfl⟩ := q
    have hL : stars [ansP m F w bg (nmA (dS s 2) (q.getD 2 0) (q.getD 3 0)), rdv d s, iar a qn q] h := hL
    exact e_vret dX15_serve_828 rfl (by omega) (by omega) (⟨_, ⟨rfl, rfl⟩, by (have hL := hL); rw [sv_it (by omega)]; rw [sv9A, if_pos (it_t (by omega)), tlA, if_neg (by omega), if_neg (by omega), if_neg (by omega), if_neg (by omega), if_neg (by omega), if_neg (by omega)]; rw [tt_nm (by omega) (by omega)]; exact hL⟩)
  · refine e_tableIn 204 (off := 110) dX15_serve_94 (by rw [nI_toInt (by omega)]; omega) (by rw [nI_toInt (by omega)]; omega) (by rcases s94 with s94 | s94 <;> rw [s94] <;> decide) rfl ?_
    rcases s94 with s94 | s94
    · have f9 : q.getD 0 0 = 1 := s94
      have g9 := sh_1 (q := q) (by omega) hsh
      have hp9 := pl_r (wd_lt hq) (fh_pl hfh (k := 0) (by omega))
      refine e_aload_n 205 dX15_serve_204 rfl rfl ?_
      refine e_aload_n 206 dX15_serve_205 rfl rfl ?_
      refine e_aload_n 207 dX15_serve_206 rfl rfl ?_
      refine e_iconst 208 (v := (nI 0)) dX15_serve_207 rfl (by decide) ?_
      have b208 := gd_lt (i := 0) hq (by decide)
      refine v_iald 209 (iar_V _ 2 hL rfl) (k := 0) (x := (q.getD 0 0)) dX15_serve_208 rfl (by omega) (by omega) rfl ?_
      refine e_iconst 210 (v := (nI 1)) dX15_serve_209 rfl (by decide) ?_
      refine e_isub 211 (v := (nI 0)) dX15_serve_210 rfl (by rw [s94]; rfl) ?_
      refine e_aload_n 212 dX15_serve_211 rfl rfl ?_
      refine e_iconst 213 (v := (nI 1)) dX15_serve_212 rfl (by decide) ?_
      refine u_callS 216 dX15_serve_213 rfl cs_X15_85 (u_X15_two (iar_V _ 2 hL rfl) (k := 1) (by omega) (by omega)) rfl rfl (Nat.le_of_ble_eq_true rfl) (by decide) ⟨by omega, by omega⟩ ?_
      have hw213 := wd_lt (k := 1) hq
      refine e_aload_n 217 dX15_serve_216 rfl rfl ?_
      refine e_iconst 218 (v := (nI 3)) dX15_serve_217 rfl (by decide) ?_
      refine u_callS 221 dX15_serve_218 rfl cs_X15_85 (u_X15_two (iar_V _ 2 hL rfl) (k := 3) (by omega) (by omega)) rfl rfl (Nat.le_of_ble_eq_true rfl) (by decide) ⟨by omega, by omega⟩ ?_
      have hw218 := wd_lt (k := 3) hq
      refine p_callV 224 hL [0, 1, 2] 3 rfl (by decide) (L1 := [ansP m F w bg ([]), rdv d s]) (L2 := [iar a qn q]) rfl ans_O 0 rfl dX15_serve_221 rfl cv_X15_156 (k_X15_bits (k := 0) (t := wd q 1) (c := wd q 3) he (by decide) he.2.1.1 hp9 (by omega)) rfl rfl (Nat.le_of_ble_eq_true rfl) ⟨by decide, by omega, by omega⟩ (fun r1 L1 h q hL => ?_)
      obtain ⟨rfl, rfl⟩ := q
      have hL : stars [ansP m F w bg (rbG (dL s 0) (dF s 0) (0 + 1) (wd q 1) (wd q 3) ((wd q 3 + 7) / 8)), rdv d s, iar a qn q] h := hL
      refine e_goto 828 dX15_serve_224 rfl ?_
      exact e_vret dX15_serve_828 rfl (by omega) (by omega) (⟨_, ⟨rfl, rfl⟩, by (have hL := hL); rw [sv_n (by omega)]; rw [sv9A, if_neg (it_f (by omega)), pfA, if_pos (by omega)]; rw [← rbG_R, s94]; exact hL⟩)
    · have f9 : q.getD 0 0 = 2 := s94
      have g9 := sh_1 (q := q) (by omega) hsh
      have hp9 := pl_r (wd_lt hq) (fh_pl hfh (k := 1) (by omega))
      refine e_aload_n 205 dX15_serve_204 rfl rfl ?_
      refine e_aload_n 206 dX15_serve_205 rfl rfl ?_
      refine e_aload_n 207 dX15_serve_206 rfl rfl ?_
      refine e_iconst 208 (v := (nI 0)) dX15_serve_207 rfl (by decide) ?_
      have b208 := gd_lt (i := 0) hq (by decide)
      refine v_iald 209 (iar_V _ 2 hL rfl) (k := 0) (x := (q.getD 0 0)) dX15_serve_208 rfl (by omega) (by omega) rfl ?_
      refine e_iconst 210 (v := (nI 1)) dX15_serve_209 rfl (by decide) ?_
      refine e_isub 211 (v := (nI 1)) dX15_serve_210 rfl (by rw [s94]; rfl) ?_
      refine e_aload_n 212 dX15_serve_211 rfl rfl ?_
      refine e_iconst 213 (v := (nI 1)) dX15_serve_212 rfl (by decide) ?_
      refine u_callS 216 dX15_serve_213 rfl cs_X15_85 (u_X15_two (iar_V _ 2 hL rfl) (k := 1) (by omega) (by omega)) rfl rfl (Nat.le_of_ble_eq_true rfl) (by decide) ⟨by omega, by omega⟩ ?_
      have hw213 := wd_lt (k := 1) hq
      refine e_aload_n 217 dX15_serve_216 rfl rfl ?_
      refine e_iconst 218 (v := (nI 3)) dX15_serve_217 rfl (by decide) ?_
      refine u_callS 221 dX15_serve_218 rfl cs_X15_85 (u_X15_two (iar_V _ 2 hL rfl) (k := 3) (by omega) (by omega)) rfl rfl (Nat.le_of_ble_eq_true rfl) (by decide) ⟨by omega, by omega⟩ ?_
      have hw218 := wd_lt (k := 3) hq
      refine p_callV 224 hL [0, 1, 2] 3 rfl (by decide) (L1 := [ansP m F w bg ([]), rdv d s]) (L2 := [iar a qn q]) rfl ans_O 0 rfl dX15_serve_221 rfl cv_X15_156 (k_X15_bits (k := 1) (t := wd q 1) (c := wd q 3) he (by decide) he.2.1.2 hp9 (by omega)) rfl rfl (Nat.le_of_ble_eq_true rfl) ⟨by decide, by omega, by omega⟩ (fun r1 L1 h q hL => ?_)
      obtain ⟨rfl, rfl⟩ := q
      have hL : stars [ansP m F w bg (rbG (dL s 1) (dF s 1) (1 + 1) (wd q 1) (wd q 3) ((wd q 3 + 7) / 8)), rdv d s, iar a qn q] h := hL
      refine e_goto 828 dX15_serve_224 rfl ?_
      exact e_vret dX15_serve_828 rfl (by omega) (by omega) (⟨_, ⟨rfl, rfl⟩, by (have hL := hL); rw [sv_n (by omega)]; rw [sv9A, if_neg (it_f (by omega)), pfA, if_neg (by omega), if_pos (by omega)]; rw [← rbG_R, s94]; exact hL⟩)
  · refine e_tableIn 227 (off := 133) dX15_serve_94 (by rw [nI_toInt (by omega)]; omega) (by rw [nI_toInt (by omega)]; omega) (by rcases s94 with s94 | s94 <;> rw [s94] <;> decide) rfl ?_
    rcases s94 with s94 | s94
    · have f9 : q.getD 0 0 = 3 := s94
      have g9 := sh_3 (q := q) (by omega) hsh
      have hp9 := pl_r (wd_lt hq) (fh_pl hfh (k := 2) (by omega))
      refine e_aload_n 228 dX15_serve_227 rfl rfl ?_
      refine e_aload_n 229 dX15_serve_228 rfl rfl ?_
      refine e_aload_n 230 dX15_serve_229 rfl rfl ?_
      refine e_iconst 231 (v := (nI 0)) dX15_serve_230 rfl (by decide) ?_
      have b231 := gd_lt (i := 0) hq (by decide)
      refine v_iald 232 (iar_V _ 2 hL rfl) (k := 0) (x := (q.getD 0 0)) dX15_serve_231 rfl (by omega) (by omega) rfl ?_
      refine e_aload_n 233 dX15_serve_232 rfl rfl ?_
      refine e_iconst 234 (v := (nI 0)) dX15_serve_233 rfl (by decide) ?_
      have b234 := gd_lt (i := 0) hq (by decide)
      refine v_iald 235 (iar_V _ 2 hL rfl) (k := 0) (x := (q.getD 0 0)) dX15_serve_234 rfl (by omega) (by omega) rfl ?_
      refine e_iconst 236 (v := (nI 1)) dX15_serve_235 rfl (by decide) ?_
      refine e_isub 237 (v := (nI 2)) dX15_serve_236 rfl (by rw [s94]; rfl) ?_
      refine e_aload_n 238 dX15_serve_237 rfl rfl ?_
      refine e_iconst 239 (v := (nI 1)) dX15_serve_238 rfl (by decide) ?_
      refine u_callS 242 dX15_serve_239 rfl cs_X15_85 (u_X15_two (iar_V _ 2 hL rfl) (k := 1) (by omega) (by omega)) rfl rfl (Nat.le_of_ble_eq_true rfl) (by decide) ⟨by omega, by omega⟩ ?_
      have hw239 := wd_lt (k := 1) hq
      refine e_aload_n 243 dX15_serve_242 rfl rfl ?_
      refine e_iconst 244 (v := (nI 3)) dX15_serve_243 rfl (by decide) ?_
      refine u_callS 247 dX15_serve_244 rfl cs_X15_85 (u_X15_two (iar_V _ 2 hL rfl) (k := 3) (by omega) (by omega)) rfl rfl (Nat.le_of_ble_eq_true rfl) (by decide) ⟨by omega, by omega⟩ ?_
      have hw244 := wd_lt (k := 3) hq
      refine p_callV 250 hL [0, 1, 2] 3 rfl (by decide) (L1 := [ansP m F w bg ([]), rdv d s]) (L2 := [iar a qn q]) rfl ans_O 0 rfl dX15_serve_247 rfl cv_X15_160 (k_X15_values (k := 2) (f := q.getD 0 0) (t := wd q 1) (c := wd q 3) he (by decide) (okD_L hok 2) (by omega) hp9 (by omega)) rfl rfl (Nat.le_of_ble_eq_true rfl) ⟨by decide, by omega, by omega⟩ (fun r1 L1 h q hL => ?_)
      obtain ⟨rfl, rfl⟩ := q
      have hL : stars [ansP m F w bg (rwG (dL s 2) (dF s 2) (q.getD 0 0) (wd q 1) (wd q 3) (wd q 3)), rdv d s, iar a qn q] h := hL
      refine e_goto 828 dX15_serve_250 rfl ?_
      exact e_vret dX15_serve_828 rfl (by omega) (by omega) (⟨_, ⟨rfl, rfl⟩, by (have hL := hL); rw [sv_n (by omega)]; rw [sv9A, if_neg (it_f (by omega)), pfA, if_neg (by omega), if_neg (by omega), if_pos (by omega)]; rw [← rwG_R]; exact hL⟩)
    · have f9 : q.getD 0 0 = 4 := s94
      have g9 := sh_3 (q := q) (by omega) hsh
      have hp9 := pl_r (wd_lt hq) (fh_pl hfh (k := 3) (by omega))
      refine e_aload_n 228 dX15_serve_227 rfl rfl ?_
      refine e_aload_n 229 dX15_serve_228 rfl rfl ?_
      refine e_aload_n 230 dX15_serve_229 rfl rfl ?_
      refine e_iconst 231 (v := (nI 0)) dX15_serve_230 rfl (by decide) ?_
      have b231 := gd_lt (i := 0) hq (by decide)
      refine v_iald 232 (iar_V _ 2 hL rfl) (k := 0) (x := (q.getD 0 0)) dX15_serve_231 rfl (by omega) (by omega) rfl ?_
      refine e_aload_n 233 dX15_serve_232 rfl rfl ?_
      refine e_iconst 234 (v := (nI 0)) dX15_serve_233 rfl (by decide) ?_
      have b234 := gd_lt (i := 0) hq (by decide)
      refine v_iald 235 (iar_V _ 2 hL rfl) (k := 0) (x := (q.getD 0 0)) dX15_serve_234 rfl (by omega) (by omega) rfl ?_
      refine e_iconst 236 (v := (nI 1)) dX15_serve_235 rfl (by decide) ?_
      refine e_isub 237 (v := (nI 3)) dX15_serve_236 rfl (by rw [s94]; rfl) ?_
      refine e_aload_n 238 dX15_serve_237 rfl rfl ?_
      refine e_iconst 239 (v := (nI 1)) dX15_serve_238 rfl (by decide) ?_
      refine u_callS 242 dX15_serve_239 rfl cs_X15_85 (u_X15_two (iar_V _ 2 hL rfl) (k := 1) (by omega) (by omega)) rfl rfl (Nat.le_of_ble_eq_true rfl) (by decide) ⟨by omega, by omega⟩ ?_
      have hw239 := wd_lt (k := 1) hq
      refine e_aload_n 243 dX15_serve_242 rfl rfl ?_
      refine e_iconst 244 (v := (nI 3)) dX15_serve_243 rfl (by decide) ?_
      refine u_callS 247 dX15_serve_244 rfl cs_X15_85 (u_X15_two (iar_V _ 2 hL rfl) (k := 3) (by omega) (by omega)) rfl rfl (Nat.le_of_ble_eq_true rfl) (by decide) ⟨by omega, by omega⟩ ?_
      have hw244 := wd_lt (k := 3) hq
      refine p_callV 250 hL [0, 1, 2] 3 rfl (by decide) (L1 := [ansP m F w bg ([]), rdv d s]) (L2 := [iar a qn q]) rfl ans_O 0 rfl dX15_serve_247 rfl cv_X15_160 (k_X15_values (k := 3) (f := q.getD 0 0) (t := wd q 1) (c := wd q 3) he (by decide) (okD_L hok 3) (by omega) hp9 (by omega)) rfl rfl (Nat.le_of_ble_eq_true rfl) ⟨by decide, by omega, by omega⟩ (fun r1 L1 h q hL => ?_)
      obtain ⟨rfl, rfl⟩ := q
      have hL : stars [ansP m F w bg (rwG (dL s 3) (dF s 3) (q.getD 0 0) (wd q 1) (wd q 3) (wd q 3)), rdv d s, iar a qn q] h := hL
      refine e_goto 828 dX15_serve_250 rfl ?_
      exact e_vret dX15_serve_828 rfl (by omega) (by omega) (⟨_, ⟨rfl, rfl⟩, by (have hL := hL); rw [sv_n (by omega)]; rw [sv9A, if_neg (it_f (by omega)), pfA, if_neg (by omega), if_neg (by omega), if_neg (by omega), if_pos (by omega)]; rw [← rwG_R]; exact hL⟩)
  · refine e_tableIn 253 (off := 159) dX15_serve_94 (by rw [nI_toInt (by omega)]; omega) (by rw [nI_toInt (by omega)]; omega) (by rw [s94]; decide) rfl ?_
    have g9 := sh_5 (q := q) (by omega) hsh
    have h59 := fh_5 hfh (by omega)
    have hp9 := pl_r (wd_lt hq) h59.1
    have h3 := h59.2
    refine e_aload_n 254 dX15_serve_253 rfl rfl ?_
    refine e_iconst 255 (v := (nI 0)) dX15_serve_254 rfl (by decide) ?_
    refine e_aload_n 256 dX15_serve_255 rfl rfl ?_
    refine e_iconst 257 (v := (nI 1)) dX15_serve_256 rfl (by decide) ?_
    refine u_callS 260 dX15_serve_257 rfl cs_X15_85 (u_X15_two (iar_V _ 2 hL rfl) (k := 1) (by omega) (by omega)) rfl rfl (Nat.le_of_ble_eq_true rfl) (by decide) ⟨by omega, by omega⟩ ?_
    have hw257 := wd_lt (k := 1) hq
    refine e_aload_n 261 dX15_serve_260 rfl rfl ?_
    refine e_iconst 262 (v := (nI 3)) dX15_serve_261 rfl (by decide) ?_
    refine u_callS 265 dX15_serve_262 rfl cs_X15_85 (u_X15_two (iar_V _ 2 hL rfl) (k := 3) (by omega) (by omega)) rfl rfl (Nat.le_of_ble_eq_true rfl) (by decide) ⟨by omega, by omega⟩ ?_
    have hw262 := wd_lt (k := 3) hq
    refine e_if_ne 272 268 dX15_serve_265 rfl rfl (fun c265 => ?_) (fun c265 => ?_)
    · have k265 := j_ne0_t (a := (wd q 3)) (by omega) c265
      refine e_iconst 273 (v := (nI 1)) dX15_serve_272 rfl (by decide) ?_
      refine e_top (v' := (nI (if wd q 3 = 65280 then 1 else 0))) (congrArg nI (show 1 = (if wd q 3 = 65280 then 1 else 0) by rw [if_pos (by omega)])) ?_
      refine p_callV 276 hL [1, 0, 2] 3 rfl (by decide) (L1 := [rdv d s]) (L2 := [ansP m F w bg ([]), iar a qn q]) rfl rdv_O 1 rfl dX15_serve_273 rfl cv_X15_164 (k_X12_put (s := s) (k := 0) (okE_pl he (by decide)) (by decide) (by omega)) rfl rfl (Nat.le_of_ble_eq_true rfl) ⟨by decide, by omega, by omega⟩ (fun r1 L1 h q hL => ?_)
      obtain ⟨rfl, rfl⟩ := q
      have hL : stars [rdv d (puD s 0 ((wd q 1) - dF s 0) (if wd q 3 = 65280 then 1 else 0)), ansP m F w bg ([]), iar a qn q] h := hL
      have hL : stars [ansP m F w bg ([]), rdv d (puD s 0 ((wd q 1) - dF s 0) (if wd q 3 = 65280 then 1 else 0)), iar a qn q] h := stars_ixn hL 3 rfl [1, 0, 2] (by decide) rfl
      refine e_aload_n 277 dX15_serve_276 rfl rfl ?_
      refine e_aload_n 278 dX15_serve_277 rfl rfl ?_
      refine e_iconst 279 (v := (nI 5)) dX15_serve_278 rfl (by decide) ?_
      refine p_callV 282 hL [0, 2, 1] 3 rfl (by decide) (L1 := [ansP m F w bg ([]), iar a qn q]) (L2 := [rdv d (puD s 0 ((wd q 1) - dF s 0) (if wd q 3 = 65280 then 1 else 0))]) rfl ans_O 0 rfl dX15_serve_279 rfl cv_X15_168 (k_X15_same (by first | omega | (simp only [List.length_append, List.length_cons, List.length_nil, w2_len, List.length_take, rbR_len, rwR_len, List.length_reverse, tvR_len] <;> omega)) (by omega) hq (by omega)) rfl rfl (Nat.le_of_ble_eq_true rfl) ⟨by decide, by omega, by omega⟩ (fun r1 L1 h q hL => ?_)
      obtain ⟨rfl, rfl⟩ := q
      have hL : stars [ansP m F w bg ([] ++ q.take 5), iar a qn q, rdv d (puD s 0 ((wd q 1) - dF s 0) (if wd q 3 = 65280 then 1 else 0))] h := hL
      have hL : stars [ansP m F w bg ([] ++ q.take 5), rdv d (puD s 0 ((wd q 1) - dF s 0) (if wd q 3 = 65280 then 1 else 0)), iar a qn q] h := stars_ixn hL 3 rfl [0, 2, 1] (by decide) rfl
      refine e_goto 828 dX15_serve_282 rfl ?_
      exact e_vret dX15_serve_828 rfl (by omega) (by omega) (⟨_, ⟨rfl, rfl⟩, by (have hL := hL); rw [sv_b (L := upL (dL s) 0 ((dL s 0).set (wd q 1 - dF s 0) (if wd q 3 = 65280 then 1 else 0))) (by omega) (by omega) (by omega) (by rw [pfV, if_pos (by omega)]) rfl]; rw [sv9A, if_neg (it_f (by omega)), pfA, if_neg (by omega), if_neg (by omega), if_neg (by omega), if_neg (by omega), if_pos (by omega)]; rw [List.nil_append, List.take_of_length_le (by omega)] at hL; exact hL⟩)
    · have k265 := j_ne0_f (a := (wd q 3)) (by omega) c265
      refine e_iconst 269 (v := (nI 0)) dX15_serve_268 rfl (by decide) ?_
      refine e_goto 273 dX15_serve_269 rfl ?_
      refine e_top (v' := (nI (if wd q 3 = 65280 then 1 else 0))) (congrArg nI (show 0 = (if wd q 3 = 65280 then 1 else 0) by rw [if_neg (by omega)])) ?_
      refine p_callV 276 hL [1, 0, 2] 3 rfl (by decide) (L1 := [rdv d s]) (L2 := [ansP m F w bg ([]), iar a qn q]) rfl rdv_O 1 rfl dX15_serve_273 rfl cv_X15_164 (k_X12_put (s := s) (k := 0) (okE_pl he (by decide)) (by decide) (by omega)) rfl rfl (Nat.le_of_ble_eq_true rfl) ⟨by decide, by omega, by omega⟩ (fun r1 L1 h q hL => ?_)
      obtain ⟨rfl, rfl⟩ := q
      have hL : stars [rdv d (puD s 0 ((wd q 1) - dF s 0) (if wd q 3 = 65280 then 1 else 0)), ansP m F w bg ([]), iar a qn q] h := hL
      have hL : stars [ansP m F w bg ([]), rdv d (puD s 0 ((wd q 1) - dF s 0) (if wd q 3 = 65280 then 1 else 0)), iar a qn q] h := stars_ixn hL 3 rfl [1, 0, 2] (by decide) rfl
      refine e_aload_n 277 dX15_serve_276 rfl rfl ?_
      refine e_aload_n 278 dX15_serve_277 rfl rfl ?_
      refine e_iconst 279 (v := (nI 5)) dX15_serve_278 rfl (by decide) ?_
      refine p_callV 282 hL [0, 2, 1] 3 rfl (by decide) (L1 := [ansP m F w bg ([]), iar a qn q]) (L2 := [rdv d (puD s 0 ((wd q 1) - dF s 0) (if wd q 3 = 65280 then 1 else 0))]) rfl ans_O 0 rfl dX15_serve_279 rfl cv_X15_168 (k_X15_same (by first | omega | (simp only [List.length_append, List.length_cons, List.length_nil, w2_len, List.length_take, rbR_len, rwR_len, List.length_reverse, tvR_len] <;> omega)) (by omega) hq (by omega)) rfl rfl (Nat.le_of_ble_eq_true rfl) ⟨by decide, by omega, by omega⟩ (fun r1 L1 h q hL => ?_)
      obtain ⟨rfl, rfl⟩ := q
      have hL : stars [ansP m F w bg ([] ++ q.take 5), iar a qn q, rdv d (puD s 0 ((wd q 1) - dF s 0) (if wd q 3 = 65280 then 1 else 0))] h := hL
      have hL : stars [ansP m F w bg ([] ++ q.take 5), rdv d (puD s 0 ((wd q 1) - dF s 0) (if wd q 3 = 65280 then 1 else 0)), iar a qn q] h := stars_ixn hL 3 rfl [0, 2, 1] (by decide) rfl
      refine e_goto 828 dX15_serve_282 rfl ?_
      exact e_vret dX15_serve_828 rfl (by omega) (by omega) (⟨_, ⟨rfl, rfl⟩, by (have hL := hL); rw [sv_b (L := upL (dL s) 0 ((dL s 0).set (wd q 1 - dF s 0) (if wd q 3 = 65280 then 1 else 0))) (by omega) (by omega) (by omega) (by rw [pfV, if_pos (by omega)]) rfl]; rw [sv9A, if_neg (it_f (by omega)), pfA, if_neg (by omega), if_neg (by omega), if_neg (by omega), if_neg (by omega), if_pos (by omega)]; rw [List.nil_append, List.take_of_length_le (by omega)] at hL; exact hL⟩)
  · refine e_tableIn 285 (off := 191) dX15_serve_94 (by rw [nI_toInt (by omega)]; omega) (by rw [nI_toInt (by omega)]; omega) (by rw [s94]; decide) rfl ?_
    have g9 := sh_5 (q := q) (by omega) hsh
    have hp9 := pl_r (wd_lt hq) (rg_pl (fh_6 hfh (by omega)))
    refine e_aload_n 286 dX15_serve_285 rfl rfl ?_
    refine e_iconst 287 (v := (nI 2)) dX15_serve_286 rfl (by decide) ?_
    refine e_aload_n 288 dX15_serve_287 rfl rfl ?_
    refine e_iconst 289 (v := (nI 1)) dX15_serve_288 rfl (by decide) ?_
    refine u_callS 292 dX15_serve_289 rfl cs_X15_85 (u_X15_two (iar_V _ 2 hL rfl) (k := 1) (by omega) (by omega)) rfl rfl (Nat.le_of_ble_eq_true rfl) (by decide) ⟨by omega, by omega⟩ ?_
    have hw289 := wd_lt (k := 1) hq
    refine e_aload_n 293 dX15_serve_292 rfl rfl ?_
    refine e_iconst 294 (v := (nI 3)) dX15_serve_293 rfl (by decide) ?_
    refine u_callS 297 dX15_serve_294 rfl cs_X15_85 (u_X15_two (iar_V _ 2 hL rfl) (k := 3) (by omega) (by omega)) rfl rfl (Nat.le_of_ble_eq_true rfl) (by decide) ⟨by omega, by omega⟩ ?_
    have hw294 := wd_lt (k := 3) hq
    refine p_callV 300 hL [1, 0, 2] 3 rfl (by decide) (L1 := [rdv d s]) (L2 := [ansP m F w bg ([]), iar a qn q]) rfl rdv_O 1 rfl dX15_serve_297 rfl cv_X15_164 (k_X12_put (s := s) (k := 2) (okE_pl he (by decide)) (by decide) (by omega)) rfl rfl (Nat.le_of_ble_eq_true rfl) ⟨by decide, by omega, by omega⟩ (fun r1 L1 h q hL => ?_)
    obtain ⟨rfl, rfl⟩ := q
    have hL : stars [rdv d (puD s 2 ((wd q 1) - dF s 2) (wd q 3)), ansP m F w bg ([]), iar a qn q] h := hL
    have hL : stars [ansP m F w bg ([]), rdv d (puD s 2 ((wd q 1) - dF s 2) (wd q 3)), iar a qn q] h := stars_ixn hL 3 rfl [1, 0, 2] (by decide) rfl
    refine e_aload_n 301 dX15_serve_300 rfl rfl ?_
    refine e_aload_n 302 dX15_serve_301 rfl rfl ?_
    refine e_iconst 303 (v := (nI 5)) dX15_serve_302 rfl (by decide) ?_
    refine p_callV 306 hL [0, 2, 1] 3 rfl (by decide) (L1 := [ansP m F w bg ([]), iar a qn q]) (L2 := [rdv d (puD s 2 ((wd q 1) - dF s 2) (wd q 3))]) rfl ans_O 0 rfl dX15_serve_303 rfl cv_X15_168 (k_X15_same (by first | omega | (simp only [List.length_append, List.length_cons, List.length_nil, w2_len, List.length_take, rbR_len, rwR_len, List.length_reverse, tvR_len] <;> omega)) (by omega) hq (by omega)) rfl rfl (Nat.le_of_ble_eq_true rfl) ⟨by decide, by omega, by omega⟩ (fun r1 L1 h q hL => ?_)
    obtain ⟨rfl, rfl⟩ := q
    have hL : stars [ansP m F w bg ([] ++ q.take 5), iar a qn q, rdv d (puD s 2 ((wd q 1) - dF s 2) (wd q 3))] h := hL
    have hL : stars [ansP m F w bg ([] ++ q.take 5), rdv d (puD s 2 ((wd q 1) - dF s 2) (wd q 3)), iar a qn q] h := stars_ixn hL 3 rfl [0, 2, 1] (by decide) rfl
    refine e_goto 828 dX15_serve_306 rfl ?_
    exact e_vret dX15_serve_828 rfl (by omega) (by omega) (⟨_, ⟨rfl, rfl⟩, by (have hL := hL); rw [sv_b (L := upL (dL s) 2 ((dL s 2).set (wd q 1 - dF s 2) (wd q 3))) (by omega) (by omega) (by omega) (by rw [pfV, if_neg (by omega), if_pos (by omega)]) rfl]; rw [sv9A, if_neg (it_f (by omega)), pfA, if_neg (by omega), if_neg (by omega), if_neg (by omega), if_neg (by omega), if_pos (by omega)]; rw [List.nil_append, List.take_of_length_le (by omega)] at hL; exact hL⟩)
  · refine e_tableIn 309 (off := 215) dX15_serve_94 (by rw [nI_toInt (by omega)]; omega) (by rw [nI_toInt (by omega)]; omega) (by rw [s94]; decide) rfl ?_
    refine e_iconst 310 (v := (nI 0)) dX15_serve_309 rfl (by decide) ?_
    refine e_istore 312 (ls' := [some (.ref m), some (.ref d), some (.ref a), some (.int (nI q.length)), none, some (.int (nI 0)), none]) dX15_serve_310 rfl (by decide) rfl ?_
    refine e_iconst 313 (v := (nI 0)) dX15_serve_312 rfl (by decide) ?_
    refine e_istore 315 (ls' := [some (.ref m), some (.ref d), some (.ref a), some (.int (nI q.length)), none, some (.int (nI 0)), some (.int (nI 0))]) dX15_serve_313 rfl (by decide) rfl ?_
    refine e_lc (ls' := [some (.ref m), some (.ref d), some (.ref a), some (.int (nI q.length)), none, some (.int (nI (bts (dL s 0) 0 0))), some (.int (nI 0))]) rfl ?_
    refine ul_serve7 he (rdv_V _ 1 hL rfl) ?_ _ 0 (Nat.lt_succ_self _) (Nat.zero_le _)
    have b8 := bts_256 (vs := dL s 0) (s := 0) (i := 8) (by decide)
    refine e_aload_n 357 dX15_serve_356 rfl rfl ?_
    refine e_bipush 359 (v := (nI 7)) dX15_serve_357 rfl (by decide) ?_
    refine p_callV 362 hL [0, 1, 2] 3 rfl (by decide) (L1 := [ansP m F w bg ([])]) (L2 := [rdv d s, iar a qn q]) rfl ans_O 0 rfl dX15_serve_359 rfl cv_X15_92 (k_saysB (by first | omega | (simp only [List.length_append, List.length_cons, List.length_nil, w2_len, List.length_take, rbR_len, rwR_len, List.length_reverse, tvR_len] <;> omega)) (by omega)) rfl rfl (Nat.le_of_ble_eq_true rfl) ⟨by decide, by omega, by omega⟩ (fun r1 L1 h q hL => ?_)
    obtain ⟨rfl, rfl⟩ := q
    have hL : stars [ansP m F w bg ([] ++ [7]), rdv d s, iar a qn q] h := hL
    refine e_aload_n 363 dX15_serve_362 rfl rfl ?_
    refine e_iload 365 dX15_serve_363 rfl rfl ?_
    refine p_callV 368 hL [0, 1, 2] 3 rfl (by decide) (L1 := [ansP m F w bg ([] ++ [7])]) (L2 := [rdv d s, iar a qn q]) rfl ans_O 0 rfl dX15_serve_365 rfl cv_X15_92 (k_saysB (by first | omega | (simp only [List.length_append, List.length_cons, List.length_nil, w2_len, List.length_take, rbR_len, rwR_len, List.length_reverse, tvR_len] <;> omega)) (by omega)) rfl rfl (Nat.le_of_ble_eq_true rfl) ⟨by decide, by omega, by omega⟩ (fun r1 L1 h q hL => ?_)
    obtain ⟨rfl, rfl⟩ := q
    have hL : stars [ansP m F w bg (([] ++ [7]) ++ [(bts (dL s 0) 0 8)]), rdv d s, iar a qn q] h := hL
    refine e_goto 828 dX15_serve_368 rfl ?_
    exact e_vret dX15_serve_828 rfl (by omega) (by omega) (⟨_, ⟨rfl, rfl⟩, by (have hL := hL); rw [sv_it (by omega)]; rw [sv9A, if_pos (it_t (by omega)), tlA, if_pos (by omega)]; exact hL⟩)
  · refine e_tableIn 371 (off := 277) dX15_serve_94 (by rw [nI_toInt (by omega)]; omega) (by rw [nI_toInt (by omega)]; omega) (by rw [s94]; decide) rfl ?_
    have g9 := sh_8 (q := q) (by omega) hsh
    refine e_aload_n 372 dX15_serve_371 rfl rfl ?_
    refine e_aload_n 373 dX15_serve_372 rfl rfl ?_
    refine e_aload_n 374 dX15_serve_373 rfl rfl ?_
    refine e_iload_n 375 dX15_serve_374 rfl rfl ?_
    refine p_callV 378 hL [0, 1, 2] 3 rfl (by decide) (L1 := [ansP m F w bg ([]), rdv d s, iar a qn q]) (L2 := []) rfl ans_O 0 rfl dX15_serve_375 rfl cv_X15_179 (k_X15_tests he hok hqn hq (by omega) g9.1 hl9 g9.2 (fh_8 hfh (by omega))) rfl rfl (Nat.le_of_ble_eq_true rfl) ⟨by decide, by omega, by omega⟩ (fun r1 L1 h q hL => ?_)
    obtain ⟨rfl, rfl⟩ := q
    have hL : stars [ansP m F w bg (dnA (dC s) q), rdv d (dnS s q), iar a qn q] h := hL
    refine e_goto 828 dX15_serve_378 rfl ?_
    exact e_vret dX15_serve_828 rfl (by omega) (by omega) (⟨_, ⟨rfl, rfl⟩, by (have hL := hL); rw [sv_8 (by omega)]; rw [sv9A, if_neg (it_f (by omega)), pfA, if_neg (by omega), if_neg (by omega), if_neg (by omega), if_neg (by omega), if_neg (by omega), if_pos (by omega)]; exact hL⟩)
  · refine e_tableIn 817 (off := 723) dX15_serve_94 (by rw [nI_toInt (by omega)]; omega) (by rw [nI_toInt (by omega)]; omega) (by rcases s94 with s94 | s94 | s94 | s94 | s94 | s94 <;> rw [s94] <;> decide) rfl ?_
    have t9 := sh_told hsh
    have g9 := sh_43 (q := q) (by omega) hsh
    refine e_aload_n 818 dX15_serve_817 rfl rfl ?_
    refine e_aload_n 819 dX15_serve_818 rfl rfl ?_
    refine e_aload_n 820 dX15_serve_819 rfl rfl ?_
    refine e_iconst 821 (v := (nI 2)) dX15_serve_820 rfl (by decide) ?_
    have b821 := gd_lt (i := 2) hq (by decide)
    refine v_iald 822 (iar_V _ 2 hL rfl) (k := 2) (x := (q.getD 2 0)) dX15_serve_821 rfl (by omega) (by omega) rfl ?_
    refine e_aload_n 823 dX15_serve_822 rfl rfl ?_
    refine e_iconst 824 (v := (nI 3)) dX15_serve_823 rfl (by decide) ?_
    have b824 := gd_lt (i := 3) hq (by decide)
    refine v_iald 825 (iar_V _ 2 hL rfl) (k := 3) (x := (q.getD 3 0)) dX15_serve_824 rfl (by omega) (by omega) rfl ?_
    refine p_callV 828 hL [0, 1, 2] 3 rfl (by decide) (L1 := [ansP m F w bg ([]), rdv d s]) (L2 := [iar a qn q]) rfl ans_O 0 rfl dX15_serve_825 rfl cv_X15_207 (k_X15_names (code := q.getD 2 0) (id := q.getD 3 0) he hok (by omega) (by omega) (fh_43 hfh (by omega))) rfl rfl (Nat.le_of_ble_eq_true rfl) ⟨by decide, by omega, by omega⟩ (fun r1 L1 h q hL => ?_)
    obtain ⟨rfl, rfl⟩ := q
    have hL : stars [ansP m F w bg (nmA (dS s 2) (q.getD 2 0) (q.getD 3 0)), rdv d s, iar a qn q] h := hL
    exact e_vret dX15_serve_828 rfl (by omega) (by omega) (⟨_, ⟨rfl, rfl⟩, by (have hL := hL); rw [sv_it (by omega)]; rw [sv9A, if_pos (it_t (by omega)), tlA, if_neg (by omega), if_neg (by omega), if_neg (by omega), if_neg (by omega), if_neg (by omega), if_neg (by omega)]; rw [tt_nm (by omega) (by omega)]; exact hL⟩)
  · refine e_tableIn 381 (off := 287) dX15_serve_94 (by rw [nI_toInt (by omega)]; omega) (by rw [nI_toInt (by omega)]; omega) (by rw [s94]; decide) rfl ?_
    have hc8 := okD_C hok 8
    refine e_aload_n 382 dX15_serve_381 rfl rfl ?_
    refine e_bipush 384 (v := (nI 11)) dX15_serve_382 rfl (by decide) ?_
    refine p_callV 387 hL [0, 1, 2] 3 rfl (by decide) (L1 := [ansP m F w bg ([])]) (L2 := [rdv d s, iar a qn q]) rfl ans_O 0 rfl dX15_serve_384 rfl cv_X15_92 (k_saysB (by first | omega | (simp only [List.length_append, List.length_cons, List.length_nil, w2_len, List.length_take, rbR_len, rwR_len, List.length_reverse, tvR_len] <;> omega)) (by omega)) rfl rfl (Nat.le_of_ble_eq_true rfl) ⟨by decide, by omega, by omega⟩ (fun r1 L1 h q hL => ?_)
    obtain ⟨rfl, rfl⟩ := q
    have hL : stars [ansP m F w bg ([] ++ [11]), rdv d s, iar a qn q] h := hL
    refine e_aload_n 388 dX15_serve_387 rfl rfl ?_
    refine e_iconst 389 (v := (nI 0)) dX15_serve_388 rfl (by decide) ?_
    refine p_callV 392 hL [0, 1, 2] 3 rfl (by decide) (L1 := [ansP m F w bg ([] ++ [11])]) (L2 := [rdv d s, iar a qn q]) rfl ans_O 0 rfl dX15_serve_389 rfl cv_X15_183 (k_X15_saysTwo (by first | omega | (simp only [List.length_append, List.length_cons, List.length_nil, w2_len, List.length_take, rbR_len, rwR_len, List.length_reverse, tvR_len] <;> omega)) (by omega)) rfl rfl (Nat.le_of_ble_eq_true rfl) ⟨by decide, by omega, by omega⟩ (fun r1 L1 h q hL => ?_)
    obtain ⟨rfl, rfl⟩ := q
    have hL : stars [ansP m F w bg (([] ++ [11]) ++ w2 0), rdv d s, iar a qn q] h := hL
    refine e_aload_n 393 dX15_serve_392 rfl rfl ?_
    refine e_aload_n 394 dX15_serve_393 rfl rfl ?_
    obtain ⟨A394, v394_0, v394_1, v394_2, v394_3, v394_4, v394_5, v394_6, v394_7, v394_8, v394_9, v394_10, v394_11, v394_12, v394_13, v394_14, v394_15, v394_16, v394_17, v394_18, v394_19, v394_20, v394_21⟩ := rdv_V _ 1 hL rfl
    refine e_get 397 dX15_serve_394 rfl fl_X15_186_10 v394_0 rfl ?_
    refine e_bipush 399 (v := (nI 8)) dX15_serve_397 rfl (by decide) ?_
    refine v_iald 400 v394_19 (k := 8) (x := (dC s 8)) dX15_serve_399 rfl (by simp only [tbl_len, kys_len, szs_len, List.length_reverse] <;> omega) (by omega) (tbl_at (by omega)) ?_
    refine p_callV 403 hL [0, 1, 2] 3 rfl (by decide) (L1 := [ansP m F w bg (([] ++ [11]) ++ w2 0)]) (L2 := [rdv d s, iar a qn q]) rfl ans_O 0 rfl dX15_serve_400 rfl cv_X15_183 (k_X15_saysTwo (by first | omega | (simp only [List.length_append, List.length_cons, List.length_nil, w2_len, List.length_take, rbR_len, rwR_len, List.length_reverse, tvR_len] <;> omega)) (by omega)) rfl rfl (Nat.le_of_ble_eq_true rfl) ⟨by decide, by omega, by omega⟩ (fun r1 L1 h q hL => ?_)
    obtain ⟨rfl, rfl⟩ := q
    have hL : stars [ansP m F w bg ((([] ++ [11]) ++ w2 0) ++ w2 (dC s 8)), rdv d s, iar a qn q] h := hL
    refine e_goto 828 dX15_serve_403 rfl ?_
    exact e_vret dX15_serve_828 rfl (by omega) (by omega) (⟨_, ⟨rfl, rfl⟩, by (have hL := hL); rw [sv_it (by omega)]; rw [sv9A, if_pos (it_t (by omega)), tlA, if_neg (by omega), if_pos (by omega)]; exact hL⟩)
  · refine e_tableIn 406 (off := 312) dX15_serve_94 (by rw [nI_toInt (by omega)]; omega) (by rw [nI_toInt (by omega)]; omega) (by rw [s94]; decide) rfl ?_
    have hc8 := okD_C hok 8
    have hc0 := okD_C hok 0
    have h5l := (okE_ln he).2.1
    refine e_aload_n 407 dX15_serve_406 rfl rfl ?_
    refine e_bipush 409 (v := (nI 12)) dX15_serve_407 rfl (by decide) ?_
    refine p_callV 412 hL [0, 1, 2] 3 rfl (by decide) (L1 := [ansP m F w bg ([])]) (L2 := [rdv d s, iar a qn q]) rfl ans_O 0 rfl dX15_serve_409 rfl cv_X15_92 (k_saysB (by first | omega | (simp only [List.length_append, List.length_cons, List.length_nil, w2_len, List.length_take, rbR_len, rwR_len, List.length_reverse, tvR_len] <;> omega)) (by omega)) rfl rfl (Nat.le_of_ble_eq_true rfl) ⟨by decide, by omega, by omega⟩ (fun r1 L1 h q hL => ?_)
    obtain ⟨rfl, rfl⟩ := q
    have hL : stars [ansP m F w bg ([] ++ [12]), rdv d s, iar a qn q] h := hL
    refine e_aload_n 413 dX15_serve_412 rfl rfl ?_
    refine e_bipush 415 (v := (nI 6)) dX15_serve_413 rfl (by decide) ?_
    refine e_aload_n 416 dX15_serve_415 rfl rfl ?_
    obtain ⟨A416, v416_0, v416_1, v416_2, v416_3, v416_4, v416_5, v416_6, v416_7, v416_8, v416_9, v416_10, v416_11, v416_12, v416_13, v416_14, v416_15, v416_16, v416_17, v416_18, v416_19, v416_20, v416_21⟩ := rdv_V _ 1 hL rfl
    refine e_get 419 dX15_serve_416 rfl fl_X15_189_10 v416_0 rfl ?_
    refine e_iadd 420 (v := (nI (6 + (dL s 5).length))) dX15_serve_419 rfl (nI_add 6 ((dL s 5).length)) ?_
    refine p_callV 423 hL [0, 1, 2] 3 rfl (by decide) (L1 := [ansP m F w bg ([] ++ [12])]) (L2 := [rdv d s, iar a qn q]) rfl ans_O 0 rfl dX15_serve_420 rfl cv_X15_92 (k_saysB (by first | omega | (simp only [List.length_append, List.length_cons, List.length_nil, w2_len, List.length_take, rbR_len, rwR_len, List.length_reverse, tvR_len] <;> omega)) (by omega)) rfl rfl (Nat.le_of_ble_eq_true rfl) ⟨by decide, by omega, by omega⟩ (fun r1 L1 h q hL => ?_)
    obtain ⟨rfl, rfl⟩ := q
    have hL : stars [ansP m F w bg (([] ++ [12]) ++ [(6 + (dL s 5).length)]), rdv d s, iar a qn q] h := hL
    refine e_aload_n 424 dX15_serve_423 rfl rfl ?_
    refine e_iconst 425 (v := (nI 0)) dX15_serve_424 rfl (by decide) ?_
    refine p_callV 428 hL [0, 1, 2] 3 rfl (by decide) (L1 := [ansP m F w bg (([] ++ [12]) ++ [(6 + (dL s 5).length)])]) (L2 := [rdv d s, iar a qn q]) rfl ans_O 0 rfl dX15_serve_425 rfl cv_X15_183 (k_X15_saysTwo (by first | omega | (simp only [List.length_append, List.length_cons, List.length_nil, w2_len, List.length_take, rbR_len, rwR_len, List.length_reverse, tvR_len] <;> omega)) (by omega)) rfl rfl (Nat.le_of_ble_eq_true rfl) ⟨by decide, by omega, by omega⟩ (fun r1 L1 h q hL => ?_)
    obtain ⟨rfl, rfl⟩ := q
    have hL : stars [ansP m F w bg ((([] ++ [12]) ++ [(6 + (dL s 5).length)]) ++ w2 0), rdv d s, iar a qn q] h := hL
    refine e_aload_n 429 dX15_serve_428 rfl rfl ?_
    refine e_aload_n 430 dX15_serve_429 rfl rfl ?_
    obtain ⟨A430, v430_0, v430_1, v430_2, v430_3, v430_4, v430_5, v430_6, v430_7, v430_8, v430_9, v430_10, v430_11, v430_12, v430_13, v430_14, v430_15, v430_16, v430_17, v430_18, v430_19, v430_20, v430_21⟩ := rdv_V _ 1 hL rfl
    refine e_get 433 dX15_serve_430 rfl fl_X15_186_10 v430_0 rfl ?_
    refine e_bipush 435 (v := (nI 8)) dX15_serve_433 rfl (by decide) ?_
    refine v_iald 436 v430_19 (k := 8) (x := (dC s 8)) dX15_serve_435 rfl (by simp only [tbl_len, kys_len, szs_len, List.length_reverse] <;> omega) (by omega) (tbl_at (by omega)) ?_
    refine p_callV 439 hL [0, 1, 2] 3 rfl (by decide) (L1 := [ansP m F w bg ((([] ++ [12]) ++ [(6 + (dL s 5).length)]) ++ w2 0)]) (L2 := [rdv d s, iar a qn q]) rfl ans_O 0 rfl dX15_serve_436 rfl cv_X15_183 (k_X15_saysTwo (by first | omega | (simp only [List.length_append, List.length_cons, List.length_nil, w2_len, List.length_take, rbR_len, rwR_len, List.length_reverse, tvR_len] <;> omega)) (by omega)) rfl rfl (Nat.le_of_ble_eq_true rfl) ⟨by decide, by omega, by omega⟩ (fun r1 L1 h q hL => ?_)
    obtain ⟨rfl, rfl⟩ := q
    have hL : stars [ansP m F w bg (((([] ++ [12]) ++ [(6 + (dL s 5).length)]) ++ w2 0) ++ w2 (dC s 8)), rdv d s, iar a qn q] h := hL
    refine e_aload_n 440 dX15_serve_439 rfl rfl ?_
    refine e_aload_n 441 dX15_serve_440 rfl rfl ?_
    obtain ⟨A441, v441_0, v441_1, v441_2, v441_3, v441_4, v441_5, v441_6, v441_7, v441_8, v441_9, v441_10, v441_11, v441_12, v441_13, v441_14, v441_15, v441_16, v441_17, v441_18, v441_19, v441_20, v441_21⟩ := rdv_V _ 1 hL rfl
    refine e_get 444 dX15_serve_441 rfl fl_X15_186_10 v441_0 rfl ?_
    refine e_iconst 445 (v := (nI 0)) dX15_serve_444 rfl (by decide) ?_
    refine v_iald 446 v441_19 (k := 0) (x := (dC s 0)) dX15_serve_445 rfl (by simp only [tbl_len, kys_len, szs_len, List.length_reverse] <;> omega) (by omega) (tbl_at (by omega)) ?_
    refine p_callV 449 hL [0, 1, 2] 3 rfl (by decide) (L1 := [ansP m F w bg (((([] ++ [12]) ++ [(6 + (dL s 5).length)]) ++ w2 0) ++ w2 (dC s 8))]) (L2 := [rdv d s, iar a qn q]) rfl ans_O 0 rfl dX15_serve_446 rfl cv_X15_183 (k_X15_saysTwo (by first | omega | (simp only [List.length_append, List.length_cons, List.length_nil, w2_len, List.length_take, rbR_len, rwR_len, List.length_reverse, tvR_len] <;> omega)) (by omega)) rfl rfl (Nat.le_of_ble_eq_true rfl) ⟨by decide, by omega, by omega⟩ (fun r1 L1 h q hL => ?_)
    obtain ⟨rfl, rfl⟩ := q
    have hL : stars [ansP m F w bg ((((([] ++ [12]) ++ [(6 + (dL s 5).length)]) ++ w2 0) ++ w2 (dC s 8)) ++ w2 (dC s 0)), rdv d s, iar a qn q] h := hL
    refine e_iconst 450 (v := (nI 0)) dX15_serve_449 rfl (by decide) ?_
    refine e_istore 452 (ls' := [some (.ref m), some (.ref d), some (.ref a), some (.int (nI q.length)), none, some (.int (nI 0)), none]) dX15_serve_450 rfl (by decide) rfl ?_
    refine e_wk [some (.ref m), some (.ref d), some (.ref a), some (.int (nI q.length)), none, some (.int (nI 0)), none] ⟨rfl, rfl, rfl, rfl, rfl, trivial⟩ ?_
    refine l_serve12 he hok hqn hq h1 hl9 (r := (tvR (dC s) (dL s 5))) (by rw [tvR_len]; omega) (fun h hL => ?_) _ 0 h (Nat.lt_succ_self _) (Nat.zero_le _) (by rw [List.take_zero, List.append_nil]; exact hL)
    refine e_goto 828 dX15_serve_478 rfl ?_
    exact e_vret dX15_serve_828 rfl (by omega) (by omega) (⟨_, ⟨rfl, rfl⟩, by (have hL := hL); rw [sv_it (by omega)]; rw [sv9A, if_pos (it_t (by omega)), tlA, if_neg (by omega), if_neg (by omega), if_pos (by omega)]; exact hL⟩)
  · refine e_tableIn 481 (off := 387) dX15_serve_94 (by rw [nI_toInt (by omega)]; omega) (by rw [nI_toInt (by omega)]; omega) (by rw [s94]; decide) rfl ?_
    have g9 := sh_15 (q := q) (by omega) hsh
    have hp9 := pl_r (wd_lt hq) (fh_pl hfh (k := 0) (by omega))
    refine e_iconst 482 (v := (nI 0)) dX15_serve_481 rfl (by decide) ?_
    refine e_istore 484 (ls' := [some (.ref m), some (.ref d), some (.ref a), some (.int (nI q.length)), none, some (.int (nI 0)), none]) dX15_serve_482 rfl (by decide) rfl ?_
    refine e_wk [some (.ref m), some (.ref d), some (.ref a), some (.int (nI q.length)), none, some (.int (nI 0)), none] ⟨rfl, rfl, rfl, rfl, rfl, trivial⟩ ?_
    have hL : stars [ansP m F w bg [], rdv d (blD s 0 (wbF q (dF s 0) (dL s 0) 0)), iar a qn q] h := by rw [show blD s 0 (wbF q (dF s 0) (dL s 0) 0) = s from bl_0]; exact hL
    refine l_serve15 he hok hqn hq h1 hl9 (by omega) (by omega) hp9 (fun h hL => ?_) _ 0 h (Nat.lt_succ_self _) (Nat.zero_le _) hL
    refine e_aload_n 532 dX15_serve_531 rfl rfl ?_
    refine e_aload_n 533 dX15_serve_532 rfl rfl ?_
    refine e_iconst 534 (v := (nI 5)) dX15_serve_533 rfl (by decide) ?_
    refine p_callV 537 hL [0, 2, 1] 3 rfl (by decide) (L1 := [ansP m F w bg ([]), iar a qn q]) (L2 := [rdv d (blD s 0 (wbF q (dF s 0) (dL s 0) (wd q 3)))]) rfl ans_O 0 rfl dX15_serve_534 rfl cv_X15_168 (k_X15_same (by first | omega | (simp only [List.length_append, List.length_cons, List.length_nil, w2_len, List.length_take, rbR_len, rwR_len, List.length_reverse, tvR_len] <;> omega)) (by omega) hq (by omega)) rfl rfl (Nat.le_of_ble_eq_true rfl) ⟨by decide, by omega, by omega⟩ (fun r1 L1 h q hL => ?_)
    obtain ⟨rfl, rfl⟩ := q
    have hL : stars [ansP m F w bg ([] ++ q.take 5), iar a qn q, rdv d (blD s 0 (wbF q (dF s 0) (dL s 0) (wd q 3)))] h := hL
    have hL : stars [ansP m F w bg ([] ++ q.take 5), rdv d (blD s 0 (wbF q (dF s 0) (dL s 0) (wd q 3))), iar a qn q] h := stars_ixn hL 3 rfl [0, 2, 1] (by decide) rfl
    refine e_goto 828 dX15_serve_537 rfl ?_
    exact e_vret dX15_serve_828 rfl (by omega) (by omega) (⟨_, ⟨rfl, rfl⟩, by (have hL := hL); rw [sv_b (L := upL (dL s) 0 (wbF q (dF s 0) (dL s 0) (wd q 3))) (by omega) (by omega) (by omega) (by rw [pfV, if_neg (by omega), if_neg (by omega), if_pos (by omega)]) rfl]; rw [sv9A, if_neg (it_f (by omega)), pfA, if_neg (by omega), if_neg (by omega), if_neg (by omega), if_neg (by omega), if_neg (by omega), if_neg (by omega), if_pos (by omega)]; rw [List.nil_append, pf5 (by omega)] at hL; exact hL⟩)
  · refine e_tableIn 540 (off := 446) dX15_serve_94 (by rw [nI_toInt (by omega)]; omega) (by rw [nI_toInt (by omega)]; omega) (by rw [s94]; decide) rfl ?_
    have g9 := sh_16 (q := q) (by omega) hsh
    have hp9 := pl_r (wd_lt hq) (rg_pl (fh_16 hfh (by omega)))
    refine e_iconst 541 (v := (nI 0)) dX15_serve_540 rfl (by decide) ?_
    refine e_istore 543 (ls' := [some (.ref m), some (.ref d), some (.ref a), some (.int (nI q.length)), none, some (.int (nI 0)), none]) dX15_serve_541 rfl (by decide) rfl ?_
    refine e_wk [some (.ref m), some (.ref d), some (.ref a), some (.int (nI q.length)), none, some (.int (nI 0)), none] ⟨rfl, rfl, rfl, rfl, rfl, trivial⟩ ?_
    have hL : stars [ansP m F w bg [], rdv d (blD s 2 (wwF q (dF s 2) (wd q 1) 6 (dL s 2) 0)), iar a qn q] h := by rw [show blD s 2 (wwF q (dF s 2) (wd q 1) 6 (dL s 2) 0) = s from bl_0]; exact hL
    refine l_serve16 he hok hqn hq h1 hl9 (by omega) (by omega) hp9 (fun h hL => ?_) _ 0 h (Nat.lt_succ_self _) (Nat.zero_le _) hL
    refine e_aload_n 584 dX15_serve_583 rfl rfl ?_
    refine e_aload_n 585 dX15_serve_584 rfl rfl ?_
    refine e_iconst 586 (v := (nI 5)) dX15_serve_585 rfl (by decide) ?_
    refine p_callV 589 hL [0, 2, 1] 3 rfl (by decide) (L1 := [ansP m F w bg ([]), iar a qn q]) (L2 := [rdv d (blD s 2 (wwF q (dF s 2) (wd q 1) 6 (dL s 2) (wd q 3)))]) rfl ans_O 0 rfl dX15_serve_586 rfl cv_X15_168 (k_X15_same (by first | omega | (simp only [List.length_append, List.length_cons, List.length_nil, w2_len, List.length_take, rbR_len, rwR_len, List.length_reverse, tvR_len] <;> omega)) (by omega) hq (by omega)) rfl rfl (Nat.le_of_ble_eq_true rfl) ⟨by decide, by omega, by omega⟩ (fun r1 L1 h q hL => ?_)
    obtain ⟨rfl, rfl⟩ := q
    have hL : stars [ansP m F w bg ([] ++ q.take 5), iar a qn q, rdv d (blD s 2 (wwF q (dF s 2) (wd q 1) 6 (dL s 2) (wd q 3)))] h := hL
    have hL : stars [ansP m F w bg ([] ++ q.take 5), rdv d (blD s 2 (wwF q (dF s 2) (wd q 1) 6 (dL s 2) (wd q 3))), iar a qn q] h := stars_ixn hL 3 rfl [0, 2, 1] (by decide) rfl
    refine e_goto 828 dX15_serve_589 rfl ?_
    exact e_vret dX15_serve_828 rfl (by omega) (by omega) (⟨_, ⟨rfl, rfl⟩, by (have hL := hL); rw [sv_b (L := upL (dL s) 2 (wwF q (dF s 2) (wd q 1) 6 (dL s 2) (wd q 3))) (by omega) (by omega) (by omega) (by rw [pfV, if_neg (by omega), if_neg (by omega), if_neg (by omega), if_pos (by omega)]) rfl]; rw [sv9A, if_neg (it_f (by omega)), pfA, if_neg (by omega), if_neg (by omega), if_neg (by omega), if_neg (by omega), if_neg (by omega), if_neg (by omega), if_pos (by omega)]; rw [List.nil_append, pf5 (by omega)] at hL; exact hL⟩)
  · refine e_tableIn 592 (off := 498) dX15_serve_94 (by rw [nI_toInt (by omega)]; omega) (by rw [nI_toInt (by omega)]; omega) (by rw [s94]; decide) rfl ?_
    have hn9 : s.1 0 < 6 := hok.2.2.2.2.2.2.2.2.2.2.2.2.1
    refine e_aload_n 593 dX15_serve_592 rfl rfl ?_
    refine e_bipush 595 (v := (nI 17)) dX15_serve_593 rfl (by decide) ?_
    refine p_callV 598 hL [0, 1, 2] 3 rfl (by decide) (L1 := [ansP m F w bg ([])]) (L2 := [rdv d s, iar a qn q]) rfl ans_O 0 rfl dX15_serve_595 rfl cv_X15_92 (k_saysB (by first | omega | (simp only [List.length_append, List.length_cons, List.length_nil, w2_len, List.length_take, rbR_len, rwR_len, List.length_reverse, tvR_len] <;> omega)) (by omega)) rfl rfl (Nat.le_of_ble_eq_true rfl) ⟨by decide, by omega, by omega⟩ (fun r1 L1 h q hL => ?_)
    obtain ⟨rfl, rfl⟩ := q
    have hL : stars [ansP m F w bg ([] ++ [17]), rdv d s, iar a qn q] h := hL
    refine e_aload_n 599 dX15_serve_598 rfl rfl ?_
    refine e_iconst 600 (v := (nI 2)) dX15_serve_599 rfl (by decide) ?_
    refine p_callV 603 hL [0, 1, 2] 3 rfl (by decide) (L1 := [ansP m F w bg ([] ++ [17])]) (L2 := [rdv d s, iar a qn q]) rfl ans_O 0 rfl dX15_serve_600 rfl cv_X15_92 (k_saysB (by first | omega | (simp only [List.length_append, List.length_cons, List.length_nil, w2_len, List.length_take, rbR_len, rwR_len, List.length_reverse, tvR_len] <;> omega)) (by omega)) rfl rfl (Nat.le_of_ble_eq_true rfl) ⟨by decide, by omega, by omega⟩ (fun r1 L1 h q hL => ?_)
    obtain ⟨rfl, rfl⟩ := q
    have hL : stars [ansP m F w bg (([] ++ [17]) ++ [2]), rdv d s, iar a qn q] h := hL
    refine e_aload_n 604 dX15_serve_603 rfl rfl ?_
    refine e_aload_n 605 dX15_serve_604 rfl rfl ?_
    obtain ⟨A605, v605_0, v605_1, v605_2, v605_3, v605_4, v605_5, v605_6, v605_7, v605_8, v605_9, v605_10, v605_11, v605_12, v605_13, v605_14, v605_15, v605_16, v605_17, v605_18, v605_19, v605_20, v605_21⟩ := rdv_V _ 1 hL rfl
    refine e_get 608 dX15_serve_605 rfl fl_X15_195_10 v605_0 rfl ?_
    refine p_callV 611 hL [0, 1, 2] 3 rfl (by decide) (L1 := [ansP m F w bg (([] ++ [17]) ++ [2])]) (L2 := [rdv d s, iar a qn q]) rfl ans_O 0 rfl dX15_serve_608 rfl cv_X15_92 (k_saysB (by first | omega | (simp only [List.length_append, List.length_cons, List.length_nil, w2_len, List.length_take, rbR_len, rwR_len, List.length_reverse, tvR_len] <;> omega)) (by omega)) rfl rfl (Nat.le_of_ble_eq_true rfl) ⟨by decide, by omega, by omega⟩ (fun r1 L1 h q hL => ?_)
    obtain ⟨rfl, rfl⟩ := q
    have hL : stars [ansP m F w bg ((([] ++ [17]) ++ [2]) ++ [(s.1 0)]), rdv d s, iar a qn q] h := hL
    refine e_aload_n 612 dX15_serve_611 rfl rfl ?_
    refine e_sipush 615 (v := (nI 255)) dX15_serve_612 rfl (by decide) ?_
    refine p_callV 618 hL [0, 1, 2] 3 rfl (by decide) (L1 := [ansP m F w bg ((([] ++ [17]) ++ [2]) ++ [(s.1 0)])]) (L2 := [rdv d s, iar a qn q]) rfl ans_O 0 rfl dX15_serve_615 rfl cv_X15_92 (k_saysB (by first | omega | (simp only [List.length_append, List.length_cons, List.length_nil, w2_len, List.length_take, rbR_len, rwR_len, List.length_reverse, tvR_len] <;> omega)) (by omega)) rfl rfl (Nat.le_of_ble_eq_true rfl) ⟨by decide, by omega, by omega⟩ (fun r1 L1 h q hL => ?_)
    obtain ⟨rfl, rfl⟩ := q
    have hL : stars [ansP m F w bg (((([] ++ [17]) ++ [2]) ++ [(s.1 0)]) ++ [255]), rdv d s, iar a qn q] h := hL
    refine e_goto 828 dX15_serve_618 rfl ?_
    exact e_vret dX15_serve_828 rfl (by omega) (by omega) (⟨_, ⟨rfl, rfl⟩, by (have hL := hL); rw [sv_it (by omega)]; rw [sv9A, if_pos (it_t (by omega)), tlA, if_neg (by omega), if_neg (by omega), if_neg (by omega), if_pos (by omega)]; exact hL⟩)
  · refine e_tableIn 621 (off := 527) dX15_serve_94 (by rw [nI_toInt (by omega)]; omega) (by rw [nI_toInt (by omega)]; omega) (by rw [s94]; decide) rfl ?_
    refine e_aload_n 622 dX15_serve_621 rfl rfl ?_
    refine e_aload_n 623 dX15_serve_622 rfl rfl ?_
    refine e_aload_n 624 dX15_serve_623 rfl rfl ?_
    refine e_iload_n 625 dX15_serve_624 rfl rfl ?_
    refine p_callV 628 hL [0, 1, 2] 3 rfl (by decide) (L1 := [ansP m F w bg ([]), rdv d s, iar a qn q]) (L2 := []) rfl ans_O 0 rfl dX15_serve_625 rfl cv_X15_198 (k_X15_reads he (okD_S hok 0) hqn hq hl9 (sh20 (by omega) hsh) (rd253 (by omega) hsh) (fh_20 hfh (by omega))) rfl rfl (Nat.le_of_ble_eq_true rfl) ⟨by decide, by omega, by omega⟩ (fun r1 L1 h q hL => ?_)
    obtain ⟨rfl, rfl⟩ := q
    have hL : stars [ansP m F w bg ((rfR (dS s 0) q ((q.length - 2) / 7)).set 1 (rdS q ((q.length - 2) / 7) - 2)), rdv d s, iar a qn q] h := hL
    refine e_goto 828 dX15_serve_628 rfl ?_
    exact e_vret dX15_serve_828 rfl (by omega) (by omega) (⟨_, ⟨rfl, rfl⟩, by (have hL := hL); rw [sv_it (by omega)]; rw [sv9A, if_pos (it_t (by omega)), tlA, if_neg (by omega), if_neg (by omega), if_neg (by omega), if_neg (by omega), if_pos (by omega)]; exact hL⟩)
  · refine e_tableIn 631 (off := 537) dX15_serve_94 (by rw [nI_toInt (by omega)]; omega) (by rw [nI_toInt (by omega)]; omega) (by rw [s94]; decide) rfl ?_
    have g9 : wpE q 36 2 = q.length := ((sh_p (by omega) hsh).resolve_left (by omega)).2
    refine e_aload_n 632 dX15_serve_631 rfl rfl ?_
    refine e_aload_n 633 dX15_serve_632 rfl rfl ?_
    refine e_iload_n 634 dX15_serve_633 rfl rfl ?_
    refine p_callS 637 hL [1, 2, 0] 3 rfl (by decide) (L1 := [rdv d s, iar a qn q]) (L2 := [ansP m F w bg ([])]) rfl dX15_serve_634 rfl cs_X15_201 (k_X15_writes he hqn hq hl9 g9 (fh_21 hfh (by omega))) rfl rfl (Nat.le_of_ble_eq_true rfl) ⟨by decide, by omega, by omega⟩ (fun r1 L1 h q hL => ?_)
    obtain ⟨rfl, rfl⟩ := q
    have hL : stars [rdv d (flD s (wfF q 36 2 (dS s 0))), iar a qn q, ansP m F w bg ([])] h := hL
    have hL : stars [ansP m F w bg ([]), rdv d (flD s (wfF q 36 2 (dS s 0))), iar a qn q] h := stars_ixn hL 3 rfl [2, 0, 1] (by decide) rfl
    refine e_aload_n 638 dX15_serve_637 rfl rfl ?_
    refine e_aload_n 639 dX15_serve_638 rfl rfl ?_
    refine e_iload_n 640 dX15_serve_639 rfl rfl ?_
    refine p_callV 643 hL [0, 2, 1] 3 rfl (by decide) (L1 := [ansP m F w bg ([]), iar a qn q]) (L2 := [rdv d (flD s (wfF q 36 2 (dS s 0)))]) rfl ans_O 0 rfl dX15_serve_640 rfl cv_X15_168 (k_X15_same (by first | omega | (simp only [List.length_append, List.length_cons, List.length_nil, w2_len, List.length_take, rbR_len, rwR_len, List.length_reverse, tvR_len] <;> omega)) (by omega) hq (by omega)) rfl rfl (Nat.le_of_ble_eq_true rfl) ⟨by decide, by omega, by omega⟩ (fun r1 L1 h q hL => ?_)
    obtain ⟨rfl, rfl⟩ := q
    have hL : stars [ansP m F w bg ([] ++ q.take q.length), iar a qn q, rdv d (flD s (wfF q 36 2 (dS s 0)))] h := hL
    have hL : stars [ansP m F w bg ([] ++ q.take q.length), rdv d (flD s (wfF q 36 2 (dS s 0))), iar a qn q] h := stars_ixn hL 3 rfl [0, 2, 1] (by decide) rfl
    refine e_goto 828 dX15_serve_643 rfl ?_
    exact e_vret dX15_serve_828 rfl (by omega) (by omega) (⟨_, ⟨rfl, rfl⟩, by (have hL := hL); rw [sv_21 (by omega)]; rw [sv9A, if_neg (it_f (by omega)), pfA, if_neg (by omega), if_neg (by omega), if_neg (by omega), if_neg (by omega), if_pos (by omega)]; rw [List.nil_append, List.take_of_length_le (Nat.le_refl _)] at hL; exact hL⟩)
  · refine e_tableIn 646 (off := 552) dX15_serve_94 (by rw [nI_toInt (by omega)]; omega) (by rw [nI_toInt (by omega)]; omega) (by rw [s94]; decide) rfl ?_
    have g9 := sh_22 (q := q) (by omega) hsh
    have hp9 := pl_r (wd_lt hq) (fh_22 hfh (by omega))
    refine e_aload_n 647 dX15_serve_646 rfl rfl ?_
    refine e_iconst 648 (v := (nI 2)) dX15_serve_647 rfl (by decide) ?_
    refine e_aload_n 649 dX15_serve_648 rfl rfl ?_
    refine e_iconst 650 (v := (nI 1)) dX15_serve_649 rfl (by decide) ?_
    refine u_callS 653 dX15_serve_650 rfl cs_X15_85 (u_X15_two (iar_V _ 2 hL rfl) (k := 1) (by omega) (by omega)) rfl rfl (Nat.le_of_ble_eq_true rfl) (by decide) ⟨by omega, by omega⟩ ?_
    have hw650 := wd_lt (k := 1) hq
    refine e_aload_n 654 dX15_serve_653 rfl rfl ?_
    refine e_aload_n 655 dX15_serve_654 rfl rfl ?_
    have hvm := rdv_V _ 1 hL rfl
    refine u_callS 658 dX15_serve_655 rfl cs_X15_123 (u_X15_masked hvm he hok (iar_V _ 2 hL rfl) hqn hq h1 hl9 g9 (by omega)) rfl rfl (Nat.le_of_ble_eq_true rfl) (by decide) ⟨by omega, by omega⟩ ?_
    refine p_callV 661 hL [1, 0, 2] 3 rfl (by decide) (L1 := [rdv d s]) (L2 := [ansP m F w bg ([]), iar a qn q]) rfl rdv_O 1 rfl dX15_serve_658 rfl cv_X15_164 (k_X12_put (s := s) (k := 2) (okE_pl he (by decide)) (by decide) (by omega)) rfl rfl (Nat.le_of_ble_eq_true rfl) ⟨by decide, by omega, by omega⟩ (fun r1 L1 h q hL => ?_)
    obtain ⟨rfl, rfl⟩ := q
    have hL : stars [rdv d (puD s 2 ((wd q 1) - dF s 2) (mkN ((dL s 2).getD (wd q 1 - dF s 2) 0) (wd q 3) (wd q 5))), ansP m F w bg ([]), iar a qn q] h := hL
    have hL : stars [ansP m F w bg ([]), rdv d (puD s 2 ((wd q 1) - dF s 2) (mkN ((dL s 2).getD (wd q 1 - dF s 2) 0) (wd q 3) (wd q 5))), iar a qn q] h := stars_ixn hL 3 rfl [1, 0, 2] (by decide) rfl
    refine e_aload_n 662 dX15_serve_661 rfl rfl ?_
    refine e_aload_n 663 dX15_serve_662 rfl rfl ?_
    refine e_bipush 665 (v := (nI 7)) dX15_serve_663 rfl (by decide) ?_
    refine p_callV 668 hL [0, 2, 1] 3 rfl (by decide) (L1 := [ansP m F w bg ([]), iar a qn q]) (L2 := [rdv d (puD s 2 ((wd q 1) - dF s 2) (mkN ((dL s 2).getD (wd q 1 - dF s 2) 0) (wd q 3) (wd q 5)))]) rfl ans_O 0 rfl dX15_serve_665 rfl cv_X15_168 (k_X15_same (by first | omega | (simp only [List.length_append, List.length_cons, List.length_nil, w2_len, List.length_take, rbR_len, rwR_len, List.length_reverse, tvR_len] <;> omega)) (by omega) hq (by omega)) rfl rfl (Nat.le_of_ble_eq_true rfl) ⟨by decide, by omega, by omega⟩ (fun r1 L1 h q hL => ?_)
    obtain ⟨rfl, rfl⟩ := q
    have hL : stars [ansP m F w bg ([] ++ q.take 7), iar a qn q, rdv d (puD s 2 ((wd q 1) - dF s 2) (mkN ((dL s 2).getD (wd q 1 - dF s 2) 0) (wd q 3) (wd q 5)))] h := hL
    have hL : stars [ansP m F w bg ([] ++ q.take 7), rdv d (puD s 2 ((wd q 1) - dF s 2) (mkN ((dL s 2).getD (wd q 1 - dF s 2) 0) (wd q 3) (wd q 5))), iar a qn q] h := stars_ixn hL 3 rfl [0, 2, 1] (by decide) rfl
    refine e_goto 828 dX15_serve_668 rfl ?_
    exact e_vret dX15_serve_828 rfl (by omega) (by omega) (⟨_, ⟨rfl, rfl⟩, by (have hL := hL); rw [sv_b (L := upL (dL s) 2 ((dL s 2).set (wd q 1 - dF s 2) (mkN ((dL s 2).getD (wd q 1 - dF s 2) 0) (wd q 3) (wd q 5)))) (by omega) (by omega) (by omega) (by rw [pfV, if_neg (by omega), if_neg (by omega), if_neg (by omega), if_neg (by omega), if_pos (by omega)]) rfl]; rw [sv9A, if_neg (it_f (by omega)), pfA, if_neg (by omega), if_neg (by omega), if_neg (by omega), if_neg (by omega), if_pos (by omega)]; rw [List.nil_append, List.take_of_length_le (by omega)] at hL; exact hL⟩)
  · refine e_tableIn 671 (off := 577) dX15_serve_94 (by rw [nI_toInt (by omega)]; omega) (by rw [nI_toInt (by omega)]; omega) (by rw [s94]; decide) rfl ?_
    have g9 := sh_23 (q := q) (by omega) hsh
    have h23 := fh_23 hfh (by omega)
    have hp9 := pl_r (wd_lt hq) h23.1
    have hp8 := pl_r (wd_lt hq) (rg_pl h23.2)
    have okb : okE (blD s 2 (wwF q (dF s 2) (wd q 5) 10 (dL s 2) (wd q 7))) := okE_bl he (wwF_len _)
    refine e_iconst 672 (v := (nI 0)) dX15_serve_671 rfl (by decide) ?_
    refine e_istore 674 (ls' := [some (.ref m), some (.ref d), some (.ref a), some (.int (nI q.length)), none, some (.int (nI 0)), none]) dX15_serve_672 rfl (by decide) rfl ?_
    refine e_wk [some (.ref m), some (.ref d), some (.ref a), some (.int (nI q.length)), none, some (.int (nI 0)), none] ⟨rfl, rfl, rfl, rfl, rfl, trivial⟩ ?_
    have hL : stars [ansP m F w bg [], rdv d (blD s 2 (wwF q (dF s 2) (wd q 5) 10 (dL s 2) 0)), iar a qn q] h := by rw [show blD s 2 (wwF q (dF s 2) (wd q 5) 10 (dL s 2) 0) = s from bl_0]; exact hL
    refine l_serve23 he hok hqn hq h1 hl9 (by omega) (by omega) hp8 (fun h hL => ?_) _ 0 h (Nat.lt_succ_self _) (Nat.zero_le _) hL
    refine e_aload_n 716 dX15_serve_715 rfl rfl ?_
    refine e_aload_n 717 dX15_serve_716 rfl rfl ?_
    refine e_bipush 719 (v := (nI 23)) dX15_serve_717 rfl (by decide) ?_
    refine e_iconst 720 (v := (nI 2)) dX15_serve_719 rfl (by decide) ?_
    refine e_aload_n 721 dX15_serve_720 rfl rfl ?_
    refine e_iconst 722 (v := (nI 1)) dX15_serve_721 rfl (by decide) ?_
    refine u_callS 725 dX15_serve_722 rfl cs_X15_85 (u_X15_two (iar_V _ 2 hL rfl) (k := 1) (by omega) (by omega)) rfl rfl (Nat.le_of_ble_eq_true rfl) (by decide) ⟨by omega, by omega⟩ ?_
    have hw722 := wd_lt (k := 1) hq
    refine e_aload_n 726 dX15_serve_725 rfl rfl ?_
    refine e_iconst 727 (v := (nI 3)) dX15_serve_726 rfl (by decide) ?_
    refine u_callS 730 dX15_serve_727 rfl cs_X15_85 (u_X15_two (iar_V _ 2 hL rfl) (k := 3) (by omega) (by omega)) rfl rfl (Nat.le_of_ble_eq_true rfl) (by decide) ⟨by omega, by omega⟩ ?_
    have hw727 := wd_lt (k := 3) hq
    refine p_callV 733 hL [0, 1, 2] 3 rfl (by decide) (L1 := [ansP m F w bg ([]), rdv d (blD s 2 (wwF q (dF s 2) (wd q 5) 10 (dL s 2) (wd q 7)))]) (L2 := [iar a qn q]) rfl ans_O 0 rfl dX15_serve_730 rfl cv_X15_160 (k_X15_values (s := (blD s 2 (wwF q (dF s 2) (wd q 5) 10 (dL s 2) (wd q 7)))) (k := 2) (f := 23) (t := wd q 1) (c := wd q 3) okb (by decide) (wwF_lt hq (okD_L hok 2) _) (by decide) (by show dF s 2 ≤ wd q 1 ∧ wd q 1 + wd q 3 ≤ dF s 2 + (wwF q (dF s 2) (wd q 5) 10 (dL s 2) (wd q 7)).length; rw [wwF_len]; exact hp9) (by omega)) rfl rfl (Nat.le_of_ble_eq_true rfl) ⟨by decide, by omega, by omega⟩ (fun r1 L1 h q hL => ?_)
    obtain ⟨rfl, rfl⟩ := q
    have hL : stars [ansP m F w bg (rwG (wwF q (dF s 2) (wd q 5) 10 (dL s 2) (wd q 7)) (dF s 2) 23 (wd q 1) (wd q 3) (wd q 3)), rdv d (blD s 2 (wwF q (dF s 2) (wd q 5) 10 (dL s 2) (wd q 7))), iar a qn q] h := hL
    refine e_goto 828 dX15_serve_733 rfl ?_
    exact e_vret dX15_serve_828 rfl (by omega) (by omega) (⟨_, ⟨rfl, rfl⟩, by (have hL := hL); rw [sv_b (L := upL (dL s) 2 (wwF q (dF s 2) (wd q 5) 10 (dL s 2) (wd q 7))) (by omega) (by omega) (by omega) (by rw [pfV, if_neg (by omega), if_neg (by omega), if_neg (by omega), if_neg (by omega), if_neg (by omega), if_pos (by omega)]) rfl]; rw [sv9A, if_neg (it_f (by omega)), pfA, if_neg (by omega), if_neg (by omega), if_neg (by omega), if_neg (by omega), if_neg (by omega), if_neg (by omega), if_neg (by omega), if_pos (by omega)]; rw [← rwG_R, s94]; exact hL⟩)
  · refine e_tableIn 736 (off := 642) dX15_serve_94 (by rw [nI_toInt (by omega)]; omega) (by rw [nI_toInt (by omega)]; omega) (by rw [s94]; decide) rfl ?_
    have g9 := sh_24 (q := q) (by omega) hsh
    obtain ⟨i24, hq24, hr24⟩ := fh_24 hfh (by omega)
    have hs4 := shO_le (okE_sh he).2.1
    refine e_aload_n 737 dX15_serve_736 rfl rfl ?_
    refine e_aload_n 738 dX15_serve_737 rfl rfl ?_
    refine e_iconst 739 (v := (nI 1)) dX15_serve_738 rfl (by decide) ?_
    refine u_callS 742 dX15_serve_739 rfl cs_X15_85 (u_X15_two (iar_V _ 2 hL rfl) (k := 1) (by omega) (by omega)) rfl rfl (Nat.le_of_ble_eq_true rfl) (by decide) ⟨by omega, by omega⟩ ?_
    have hw739 := wd_lt (k := 1) hq
    have hv742 := rdv_V _ 1 hL rfl
    obtain ⟨A742, o742, -⟩ := _root_.id hv742
    refine u_callV 745 dX15_serve_742 rfl cv_X15_127 o742 (u_X12_queueOf hv742 he) rfl rfl (Nat.le_of_ble_eq_true rfl) (by decide) ⟨by omega, by omega⟩ ?_
    rcases hx742 : ixM (dS s 1) (nI (wd q 1)) with _ | i742
    · have n742 := hx742
      rw [hq24] at n742; cases n742
    · have l742 := ixM_lt hx742
      have e24 : i742 = i24 := by rw [hq24] at hx742; exact (Option.some.inj hx742).symm
      subst e24
      refine e_istore 747 (ls' := [some (.ref m), some (.ref d), some (.ref a), some (.int (nI q.length)), none, some (.int (nI i742)), none]) dX15_serve_745 rfl (by decide) rfl ?_
      refine e_aload_n 748 dX15_serve_747 rfl rfl ?_
      refine e_bipush 750 (v := (nI 24)) dX15_serve_748 rfl (by decide) ?_
      refine p_callV 753 hL [0, 1, 2] 3 rfl (by decide) (L1 := [ansP m F w bg ([])]) (L2 := [rdv d s, iar a qn q]) rfl ans_O 0 rfl dX15_serve_750 rfl cv_X15_92 (k_saysB (by first | omega | (simp only [List.length_append, List.length_cons, List.length_nil, w2_len, List.length_take, rbR_len, rwR_len, List.length_reverse, tvR_len] <;> omega)) (by omega)) rfl rfl (Nat.le_of_ble_eq_true rfl) ⟨by decide, by omega, by omega⟩ (fun r1 L1 h q hL => ?_)
      obtain ⟨rfl, rfl⟩ := q
      have hL : stars [ansP m F w bg ([] ++ [24]), rdv d s, iar a qn q] h := hL
      refine e_aload_n 754 dX15_serve_753 rfl rfl ?_
      refine e_iconst 755 (v := (nI 2)) dX15_serve_754 rfl (by decide) ?_
      refine e_iconst 756 (v := (nI 2)) dX15_serve_755 rfl (by decide) ?_
      refine e_aload_n 757 dX15_serve_756 rfl rfl ?_
      obtain ⟨A757, v757_0, v757_1, v757_2, v757_3, v757_4, v757_5, v757_6, v757_7, v757_8, v757_9, v757_10, v757_11, v757_12, v757_13, v757_14, v757_15, v757_16, v757_17, v757_18, v757_19, v757_20, v757_21⟩ := rdv_V _ 1 hL rfl
      refine e_get 760 dX15_serve_757 rfl fl_X15_131_10 v757_0 rfl ?_
      refine e_iload 762 dX15_serve_760 rfl rfl ?_
      refine v_iald 763 v757_13 (k := i742) (x := (rwM (dS s 1) i742).length) dX15_serve_762 rfl (by simp only [szs_len] <;> omega) (by omega) szs_at ?_
      refine e_imul 764 (v := (nI (2 * ((rwM (dS s 1) i742).length)))) dX15_serve_763 rfl (pk_mul 2 ((rwM (dS s 1) i742).length)) ?_
      refine e_iadd 765 (v := (nI (2 + (2 * ((rwM (dS s 1) i742).length))))) dX15_serve_764 rfl (nI_add 2 (2 * ((rwM (dS s 1) i742).length))) ?_
      refine p_callV 768 hL [0, 1, 2] 3 rfl (by decide) (L1 := [ansP m F w bg ([] ++ [24])]) (L2 := [rdv d s, iar a qn q]) rfl ans_O 0 rfl dX15_serve_765 rfl cv_X15_183 (k_X15_saysTwo (by first | omega | (simp only [List.length_append, List.length_cons, List.length_nil, w2_len, List.length_take, rbR_len, rwR_len, List.length_reverse, tvR_len] <;> omega)) (by omega)) rfl rfl (Nat.le_of_ble_eq_true rfl) ⟨by decide, by omega, by omega⟩ (fun r1 L1 h q hL => ?_)
      obtain ⟨rfl, rfl⟩ := q
      have hL : stars [ansP m F w bg (([] ++ [24]) ++ w2 (2 + (2 * ((rwM (dS s 1) i742).length)))), rdv d s, iar a qn q] h := hL
      refine e_aload_n 769 dX15_serve_768 rfl rfl ?_
      refine e_aload_n 770 dX15_serve_769 rfl rfl ?_
      obtain ⟨A770, v770_0, v770_1, v770_2, v770_3, v770_4, v770_5, v770_6, v770_7, v770_8, v770_9, v770_10, v770_11, v770_12, v770_13, v770_14, v770_15, v770_16, v770_17, v770_18, v770_19, v770_20, v770_21⟩ := rdv_V _ 1 hL rfl
      refine e_get 773 dX15_serve_770 rfl fl_X15_131_10 v770_0 rfl ?_
      refine e_iload 775 dX15_serve_773 rfl rfl ?_
      refine v_iald 776 v770_13 (k := i742) (x := (rwM (dS s 1) i742).length) dX15_serve_775 rfl (by simp only [szs_len] <;> omega) (by omega) szs_at ?_
      refine p_callV 779 hL [0, 1, 2] 3 rfl (by decide) (L1 := [ansP m F w bg (([] ++ [24]) ++ w2 (2 + (2 * ((rwM (dS s 1) i742).length))))]) (L2 := [rdv d s, iar a qn q]) rfl ans_O 0 rfl dX15_serve_776 rfl cv_X15_183 (k_X15_saysTwo (by first | omega | (simp only [List.length_append, List.length_cons, List.length_nil, w2_len, List.length_take, rbR_len, rwR_len, List.length_reverse, tvR_len] <;> omega)) (by omega)) rfl rfl (Nat.le_of_ble_eq_true rfl) ⟨by decide, by omega, by omega⟩ (fun r1 L1 h q hL => ?_)
      obtain ⟨rfl, rfl⟩ := q
      have hL : stars [ansP m F w bg ((([] ++ [24]) ++ w2 (2 + (2 * ((rwM (dS s 1) i742).length)))) ++ w2 ((rwM (dS s 1) i742).length)), rdv d s, iar a qn q] h := hL
      refine e_iconst 780 (v := (nI 0)) dX15_serve_779 rfl (by decide) ?_
      refine e_istore 782 (ls' := [some (.ref m), some (.ref d), some (.ref a), some (.int (nI q.length)), none, some (.int (nI i742)), some (.int (nI 0))]) dX15_serve_780 rfl (by decide) rfl ?_
      refine e_wk [some (.ref m), some (.ref d), some (.ref a), some (.int (nI q.length)), none, some (.int (nI i742)), some (.int (nI 0))] ⟨rfl, rfl, rfl, rfl, rfl, rfl, trivial⟩ ?_
      refine l_serve24 he hok hqn hq h1 hl9 l742 (by omega) (fun h hL => ?_) _ 0 h (Nat.lt_succ_self _) (Nat.zero_le _) (by rw [show tqR (rwM (dS s 1) i742) 0 = [24] ++ w2 (2 + 2 * (rwM (dS s 1) i742).length) ++ w2 (rwM (dS s 1) i742).length by rw [tqR, List.take_zero]; rfl]; exact hL)
      refine e_goto 828 dX15_serve_814 rfl ?_
      exact e_vret dX15_serve_828 rfl (by omega) (by omega) (⟨_, ⟨rfl, rfl⟩, by (have hL := hL); rw [sv_it (by omega)]; rw [sv9A, if_pos (it_t (by omega)), tlA, if_neg (by omega), if_neg (by omega), if_neg (by omega), if_neg (by omega), if_neg (by omega), if_pos (by omega)]; rw [hx742, Option.getD_some]; exact hL⟩)
