/-! the reference: what comes to the master -/
def rmJ (w v : Nat → Nat) : Nat → Nat := upN (upN (upN (upN (upN w 8 (v 2)) 10 (v 4)) 11 (v 5)) 15 (v 9)) 17 (v 14)
def rmI (w v : Nat → Nat) : Nat → Nat := upN (rmJ w v) 9 (v 3)
def rmM (w v : Nat → Nat) : Nat → Nat := upN (upN (rmI w v) 7 (v 1)) 16 (v 13)
abbrev mpL (m : Nat) (F w : Nat → Nat) (bg : Bool) (M : MS) : List sA := [rmo m F (rmM w M.1) bg, rst (F 6) M.2.2.2.2.1 (M.1 20) (M.2.2.2.2.2 1) (M.2.2.2.2.2 2), rrw (F 12) 16 3 (M.2.1.map rqE), rrw (F 13) 32 5 (M.2.2.1.map rsE)]
theorem thG_R {RS : List RSE} (hR : RS.length ≤ 32) {x : RSE} : thG (RS.map rsE) (rsE x) = (if RS.length < 32 then RS ++ [x] else RS).map rsE := by
  unfold thG
  rw [List.length_map]
  by_cases z : RS.length = 32
  · rw [if_pos z, if_neg (by omega)]
  · rw [if_neg z, if_pos (by omega), List.map_append]; rfl
section
variable {m oc co nu ad at9 : Nat} {F w v : Nat → Nat} {bg : Bool} {q er p : List Nat} {R : List RQE} {RS : List RSE} {SC : List SCE} {mb : Nat → Bool} {h : eH}
theorem th_c (hR : RS.length ≤ 32) (k : stars [rmo m F (upN (upN (rmI w v) 7 0) 16 (if (RS.map rsE).length = 32 then v 13 + 1 else v 13)) bg, rst (F 6) er (v 20) (mb 1) (mb 2), rrw (F 12) 16 3 (R.map rqE), rrw (F 13) 32 5 (thG (RS.map rsE) (p, [nu, oc, co, at9, ad]))] h) : stars (mpL m F w bg (fnS (v, (q, nu, ad, at9) :: R, RS, SC, er, mb) oc co p)) h := by
  have e9 : thG (RS.map rsE) (p, [nu, oc, co, at9, ad]) = _ := thG_R hR (x := (p, nu, ad, at9, oc, co))
  rw [e9, List.length_map] at k
  by_cases z : RS.length < 32
  · rw [if_pos z, if_neg (show ¬ RS.length = 32 by omega)] at k
    rw [show fnS (v, (q, nu, ad, at9) :: R, RS, SC, er, mb) oc co p = (upN v 1 0, R, RS ++ [(p, nu, ad, at9, oc, co)], SC, er, mb) by simp only [fnS, if_pos z]; rfl]
    exact k
  · rw [if_neg z, if_pos (show RS.length = 32 by omega)] at k
    rw [show fnS (v, (q, nu, ad, at9) :: R, RS, SC, er, mb) oc co p = (upN (upN v 1 0) 13 (v 13 + 1), R, RS, SC, er, mb) by simp only [fnS, if_neg z]; rfl]
    exact k
theorem K_through {fr9 n : Nat} (hR : RS.length ≤ 32) (hn : n ≤ 253) (ht : fr9 + n ≤ er.length) : CA mX15_through [.ref m, .int (nI oc), .int (nI co), .int (nI fr9), .int (nI n)] (mpL m F w bg (v, (q, nu, ad, at9) :: R, RS, SC, er, mb)) (fun x K => x = none ∧ K = mpL m F w bg (fnS (v, (q, nu, ad, at9) :: R, RS, SC, er, mb) oc co (pf er fr9 n))) 1 40 0 0 := by
  refine CA.to (k_X15_through (w := rmI w v) (G := RS.map rsE) (T := R.map rqE) (dg := v 1) (ls9 := v 13) (nu := nu) (ad := ad) (at9 := at9) (q := q) (by rw [List.length_map]; exact hR) hn ht) ?_
  rintro r K h ⟨e1, e2⟩ hK
  subst e2
  exact ⟨_, ⟨e1, rfl⟩, th_c hR hK⟩
theorem K_fails {why : Nat} (hR : RS.length ≤ 32) (ha : at9 < 2 ^ 31) (hm : v 3 < 2 ^ 31) : CA mX15_fails [.ref m, .int (nI why)] (mpL m F w bg (v, (q, nu, ad, at9) :: R, RS, SC, er, mb)) (fun x K => x = none ∧ K = mpL m F w bg (flS (v, (q, nu, ad, at9) :: R, RS, SC, er, mb) why)) 2 80 0 0 := by
  refine CA.to (k_X15_fails (w := rmJ w v) (G := RS.map rsE) (T := R.map rqE) (dg := v 1) (tm := v 3) (ls9 := v 13) (nu := nu) (ad := ad) (at9 := at9) (q := q) (by rw [List.length_map]; exact hR) ha hm) ?_
  rintro r K h ⟨e1, e2⟩ hK
  subst e2
  by_cases z : v 3 ≤ at9
  · rw [if_pos z] at hK
    rw [show flS (v, (q, nu, ad, at9) :: R, RS, SC, er, mb) why = fnS (v, (q, nu, ad, at9) :: R, RS, SC, er, mb) 2 why [] from if_pos z]
    exact ⟨_, ⟨e1, rfl⟩, th_c hR hK⟩
  · rw [if_neg z] at hK
    rw [show flS (v, (q, nu, ad, at9) :: R, RS, SC, er, mb) why = (upN v 1 0, (q, nu, ad, at9) :: R, RS, SC, er, mb) from if_neg z]
    exact ⟨_, ⟨e1, rfl⟩, hK⟩
end
section
variable {s : MS}
theorem tf_0 (h : ¬ s.1 1 = 2 ∨ (hdQ s).2.2.1 = 0) : tfS s = syS s := by
  rw [tfS, show tfK s = (0, 0, 0, []) from if_pos (h.elim Or.inl (fun z => Or.inr (Or.inr z)))]; rfl
theorem tf_n (a : s.1 1 = 2) (b : 0 < s.2.1.length) (c : ¬ (hdQ s).2.2.1 = 0) : ¬ (¬ s.1 1 = 2 ∨ s.2.1.length = 0 ∨ (hdQ s).2.2.1 = 0) := fun z => z.elim (fun y => y a) (fun y => y.elim (by omega) c)
theorem tf_2 (a : s.1 1 = 2) (b : 0 < s.2.1.length) (c : ¬ (hdQ s).2.2.1 = 0) (g : goodF s.2.2.2.2.1 (s.2.2.2.2.2 1) = false) : tfS s = flS s 2 := by
  rw [tfS, show tfK s = (1, 2, 0, []) by rw [tfK, if_neg (tf_n a b c), if_pos g]]; rfl
theorem tf_3 (a : s.1 1 = 2) (b : 0 < s.2.1.length) (c : ¬ (hdQ s).2.2.1 = 0) (g : goodF s.2.2.2.2.1 (s.2.2.2.2.2 1) = true) (d : ¬ s.2.2.2.2.1.getD 0 0 = (hdQ s).2.2.1) : tfS s = syS s := by
  rw [tfS, show tfK s = (0, 0, 0, []) by rw [tfK, if_neg (tf_n a b c), if_neg (by rw [g]; decide), if_pos d]]; rfl
theorem tf_4 (a : s.1 1 = 2) (b : 0 < s.2.1.length) (c : ¬ (hdQ s).2.2.1 = 0) (g : goodF s.2.2.2.2.1 (s.2.2.2.2.2 1) = true) (d : s.2.2.2.2.1.getD 0 0 = (hdQ s).2.2.1) (r : rfF (hdQ s).1 (erP s) = true) (x : (erP s).getD 1 0 = 6) : tfS s = flS s 4 := by
  rw [tfS, show tfK s = (1, 4, 0, []) by rw [tfK, if_neg (tf_n a b c), if_neg (by rw [g]; decide), if_neg (fun z => z d), if_pos r, if_pos x]]; rfl
theorem tf_5 (a : s.1 1 = 2) (b : 0 < s.2.1.length) (c : ¬ (hdQ s).2.2.1 = 0) (g : goodF s.2.2.2.2.1 (s.2.2.2.2.2 1) = true) (d : s.2.2.2.2.1.getD 0 0 = (hdQ s).2.2.1) (r : rfF (hdQ s).1 (erP s) = true) (x : ¬ (erP s).getD 1 0 = 6) : tfS s = fnS s 1 ((erP s).getD 1 0) [] := by
  rw [tfS, show tfK s = (2, 1, (erP s).getD 1 0, []) by rw [tfK, if_neg (tf_n a b c), if_neg (by rw [g]; decide), if_neg (fun z => z d), if_pos r, if_neg x]]; rfl
theorem tf_6 (a : s.1 1 = 2) (b : 0 < s.2.1.length) (c : ¬ (hdQ s).2.2.1 = 0) (g : goodF s.2.2.2.2.1 (s.2.2.2.2.2 1) = true) (d : s.2.2.2.2.1.getD 0 0 = (hdQ s).2.2.1) (r : rfF (hdQ s).1 (erP s) = false) (x : fitF (hdQ s).1 (erP s) = true) : tfS s = fnS s 0 0 (erP s) := by
  rw [tfS, show tfK s = (2, 0, 0, erP s) by rw [tfK, if_neg (tf_n a b c), if_neg (by rw [g]; decide), if_neg (fun z => z d), if_neg (by rw [r]; decide), if_pos x]]; rfl
theorem tf_7 (a : s.1 1 = 2) (b : 0 < s.2.1.length) (c : ¬ (hdQ s).2.2.1 = 0) (g : goodF s.2.2.2.2.1 (s.2.2.2.2.2 1) = true) (d : s.2.2.2.2.1.getD 0 0 = (hdQ s).2.2.1) (r : rfF (hdQ s).1 (erP s) = false) (x : fitF (hdQ s).1 (erP s) = false) : tfS s = flS s 3 := by
  rw [tfS, show tfK s = (1, 3, 0, []) by rw [tfK, if_neg (tf_n a b c), if_neg (by rw [g]; decide), if_neg (fun z => z d), if_neg (by rw [r]; decide), if_neg (by rw [x]; decide)]]; rfl
end
set_option maxRecDepth 20000 in
set_option maxHeartbeats 2000000 in
theorem g_lm123 {m nu ad at9 : Nat} {F w v : Nat → Nat} {bg : Bool} {q er : List Nat} {R : List RQE} {RS : List RSE} {SC : List SCE} {mb : Nat → Bool} (hR : RS.length ≤ 32) (ha : at9 < 2 ^ 31) (hm : v 3 < 2 ^ 31) (h1 : v 1 < 2 ^ 31) (had : ad < 256) (hq : ∀ x ∈ q, x < 256) (hql : 1 ≤ q.length ∧ q.length ≤ 253) (her : ∀ x ∈ er, x < 256) (a : v 1 = 2) (b : 0 < ((v, (q, nu, ad, at9) :: R, RS, SC, er, mb) : MS).2.1.length) (c : ¬ (hdQ (v, (q, nu, ad, at9) :: R, RS, SC, er, mb)).2.2.1 = 0) (g : goodF er (mb 1) = true) (d : er.getD 0 0 = ad) (h4 : 4 ≤ er.length) {h : eH} (hL : stars [pt m (.inr (13, moF F (rmM w v) bg)), iar (F 5) 260 (pf er 1 (er.length - 3)), rst (F 6) er (v 20) (mb 1) (mb 2), rrw (F 12) 16 3 (((q, nu, ad, at9) :: R).map rqE), rrw (F 13) 32 5 (RS.map rsE)] h) : EE mX15_looksMaster 3 110 0 0 (fun x9 h' => ∃ K, (x9 = none ∧ ∃ p9, K = [rmo m F (rmM w (tfS (v, (q, nu, ad, at9) :: R, RS, SC, er, mb)).1) bg, iar (F 5) 260 p9, rst (F 6) (tfS (v, (q, nu, ad, at9) :: R, RS, SC, er, mb)).2.2.2.2.1 ((tfS (v, (q, nu, ad, at9) :: R, RS, SC, er, mb)).1 20) ((tfS (v, (q, nu, ad, at9) :: R, RS, SC, er, mb)).2.2.2.2.2 1) ((tfS (v, (q, nu, ad, at9) :: R, RS, SC, er, mb)).2.2.2.2.2 2), rrw (F 12) 16 3 ((tfS (v, (q, nu, ad, at9) :: R, RS, SC, er, mb)).2.1.map rqE), rrw (F 13) 32 5 ((tfS (v, (q, nu, ad, at9) :: R, RS, SC, er, mb)).2.2.1.map rsE)]) ∧ stars K h') 123 [some (.ref m), some (.int (nI (er.length - 3))), none] [] h 0 0 := by
  have hle9 : er.length ≤ 256 := by (obtain ⟨_, _, z⟩ := rst_V _ 2 hL rfl; exact z.le)
  refine e_aload_n 124 dX15_looksMaster_123 rfl rfl ?_
  refine e_get 127 (v := (.ref (F 12))) dX15_looksMaster_124 rfl fl_X15_44_13 (stars_at _ 0 hL rfl) rfl ?_
  obtain ⟨A127, u127_0, u127_1, u127_2, u127_3, u127_4⟩ := rrw_V _ 3 hL rfl
  refine e_get 130 (v := (.ref (A127 0))) dX15_looksMaster_127 rfl fl_X15_321_11 u127_0 rfl ?_
  refine e_iconst 131 (v := (nI 0)) dX15_looksMaster_130 rfl (by decide) ?_
  refine v_aald 132 u127_1 (k := 0) dX15_looksMaster_131 rfl (by omega) (by omega) (fun b131 y131 => ?_)
  refine e_astore_n 133 (ls' := [some (.ref m), some (.int (nI (er.length - 3))), some (.ref b131)]) dX15_looksMaster_132 rfl (by decide) rfl ?_
  refine e_iload_n 134 dX15_looksMaster_133 rfl rfl ?_
  refine e_iconst 135 (v := (nI 2)) dX15_looksMaster_134 rfl (by decide) ?_
  refine e_icmp_ne 184 138 dX15_looksMaster_135 rfl rfl (fun c135 => ?_) (fun c135 => ?_)
  · have k135 := j_ne_t (a := (er.length - 3)) (b := 2) (by omega) (by omega) c135
    have rf : rfF q (pf er 1 (er.length - 3)) = false := decide_eq_false (fun z => k135 (by have := z.1; rw [pf_len] at this; exact this))
    refine e_aload_n 185 dX15_looksMaster_184 rfl rfl ?_
    refine e_aload_n 186 dX15_looksMaster_185 rfl rfl ?_
    refine e_get 189 (v := (.ref (F 12))) dX15_looksMaster_186 rfl fl_X15_44_13 (stars_at _ 0 hL rfl) rfl ?_
    refine e_get 192 (v := (.ref (A127 1))) dX15_looksMaster_189 rfl fl_X15_323_11 u127_0 rfl ?_
    refine e_iconst 193 (v := (nI 0)) dX15_looksMaster_192 rfl (by decide) ?_
    refine v_iald 194 (r := (rZ (((q, nu, ad, at9) :: R).map rqE))) u127_2 (k := 0) (x := q.length) dX15_looksMaster_193 rfl (Nat.le_of_ble_eq_true rfl) (by omega) rfl ?_
    refine e_aload_n 195 dX15_looksMaster_194 rfl rfl ?_
    refine e_get 198 (v := (.ref (F 5))) dX15_looksMaster_195 rfl fl_X15_19_13 (stars_at _ 0 hL rfl) rfl ?_
    refine e_iload_n 199 dX15_looksMaster_198 rfl rfl ?_
    refine u_callS 202 dX15_looksMaster_199 rfl cs_X15_326 (by have z := u_X15_doesFit (q := q) (ar := (pf er 1 (er.length - 3))) y131 (by decide) hq (iar_V _ 1 hL rfl) (by decide) (pf_lt her (by decide)) hql.1 (by rw [pf_len]; omega) ⟨by omega, by rw [pf_len]; omega⟩; rw [pf_len] at z; exact z) rfl rfl (Nat.le_of_ble_eq_true rfl) (by decide) ⟨by omega, by omega⟩ ?_
    refine e_if_eq 216 205 dX15_looksMaster_202 rfl rfl (fun c202 => ?_) (fun c202 => ?_)
    · have k202 := jb_eq_t c202
      refine e_aload_n 217 dX15_looksMaster_216 rfl rfl ?_
      refine e_iconst 218 (v := (nI 3)) dX15_looksMaster_217 rfl (by decide) ?_
      refine p_callV 221 hL [0, 2, 3, 4, 1] 5 rfl (by decide) (L1 := [pt m (.inr (13, moF F (rmM w v) bg)), rst (F 6) er (v 20) (mb 1) (mb 2), rrw (F 12) 16 3 (((q, nu, ad, at9) :: R).map rqE), rrw (F 13) 32 5 (RS.map rsE)]) (L2 := [iar (F 5) 260 (pf er 1 (er.length - 3))]) rfl isO_pt 0 rfl dX15_looksMaster_218 rfl cv_X15_317 (K_fails (SC := SC) (why := 3) hR ha hm) rfl rfl (Nat.le_of_ble_eq_true rfl) ⟨by decide, by omega, by omega⟩ (fun r1 L1 h q hL => ?_)
      obtain ⟨rfl, rfl⟩ := q
      have hL : stars [rmo m F (rmM w (flS (v, (q, nu, ad, at9) :: R, RS, SC, er, mb) 3).1) bg, rst (F 6) (flS (v, (q, nu, ad, at9) :: R, RS, SC, er, mb) 3).2.2.2.2.1 ((flS (v, (q, nu, ad, at9) :: R, RS, SC, er, mb) 3).1 20) ((flS (v, (q, nu, ad, at9) :: R, RS, SC, er, mb) 3).2.2.2.2.2 1) ((flS (v, (q, nu, ad, at9) :: R, RS, SC, er, mb) 3).2.2.2.2.2 2), rrw (F 12) 16 3 ((flS (v, (q, nu, ad, at9) :: R, RS, SC, er, mb) 3).2.1.map rqE), rrw (F 13) 32 5 ((flS (v, (q, nu, ad, at9) :: R, RS, SC, er, mb) 3).2.2.1.map rsE), iar (F 5) 260 (pf er 1 (er.length - 3))] h := hL
      have hL : stars [rmo m F (rmM w (flS (v, (q, nu, ad, at9) :: R, RS, SC, er, mb) 3).1) bg, iar (F 5) 260 (pf er 1 (er.length - 3)), rst (F 6) (flS (v, (q, nu, ad, at9) :: R, RS, SC, er, mb) 3).2.2.2.2.1 ((flS (v, (q, nu, ad, at9) :: R, RS, SC, er, mb) 3).1 20) ((flS (v, (q, nu, ad, at9) :: R, RS, SC, er, mb) 3).2.2.2.2.2 1) ((flS (v, (q, nu, ad, at9) :: R, RS, SC, er, mb) 3).2.2.2.2.2 2), rrw (F 12) 16 3 ((flS (v, (q, nu, ad, at9) :: R, RS, SC, er, mb) 3).2.1.map rqE), rrw (F 13) 32 5 ((flS (v, (q, nu, ad, at9) :: R, RS, SC, er, mb) 3).2.2.1.map rsE)] h := stars_ixn hL 5 rfl [0, 4, 1, 2, 3] (by decide) rfl
      exact e_vret dX15_looksMaster_221 rfl (by omega) (by omega) (⟨_, ⟨rfl, _, rfl⟩, by rw [tf_7 (s := (v, (q, nu, ad, at9) :: R, RS, SC, er, mb)) a b c g d rf k202]; exact hL⟩)
    · have k202 := jb_eq_f c202
      refine e_aload_n 206 dX15_looksMaster_205 rfl rfl ?_
      refine e_iconst 207 (v := (nI 0)) dX15_looksMaster_206 rfl (by decide) ?_
      refine e_iconst 208 (v := (nI 0)) dX15_looksMaster_207 rfl (by decide) ?_
      refine e_iconst 209 (v := (nI 1)) dX15_looksMaster_208 rfl (by decide) ?_
      refine e_iload_n 210 dX15_looksMaster_209 rfl rfl ?_
      refine p_callV 213 hL [0, 2, 3, 4, 1] 5 rfl (by decide) (L1 := [pt m (.inr (13, moF F (rmM w v) bg)), rst (F 6) er (v 20) (mb 1) (mb 2), rrw (F 12) 16 3 (((q, nu, ad, at9) :: R).map rqE), rrw (F 13) 32 5 (RS.map rsE)]) (L2 := [iar (F 5) 260 (pf er 1 (er.length - 3))]) rfl isO_pt 0 rfl dX15_looksMaster_210 rfl cv_X15_309 (K_through (SC := SC) (oc := 0) (co := 0) (fr9 := 1) (n := (er.length - 3)) hR (by omega) (by omega)) rfl rfl (Nat.le_of_ble_eq_true rfl) ⟨by decide, by omega, by omega⟩ (fun r1 L1 h q hL => ?_)
      obtain ⟨rfl, rfl⟩ := q
      have hL : stars [rmo m F (rmM w (fnS (v, (q, nu, ad, at9) :: R, RS, SC, er, mb) 0 0 (pf er 1 (er.length - 3))).1) bg, rst (F 6) (fnS (v, (q, nu, ad, at9) :: R, RS, SC, er, mb) 0 0 (pf er 1 (er.length - 3))).2.2.2.2.1 ((fnS (v, (q, nu, ad, at9) :: R, RS, SC, er, mb) 0 0 (pf er 1 (er.length - 3))).1 20) ((fnS (v, (q, nu, ad, at9) :: R, RS, SC, er, mb) 0 0 (pf er 1 (er.length - 3))).2.2.2.2.2 1) ((fnS (v, (q, nu, ad, at9) :: R, RS, SC, er, mb) 0 0 (pf er 1 (er.length - 3))).2.2.2.2.2 2), rrw (F 12) 16 3 ((fnS (v, (q, nu, ad, at9) :: R, RS, SC, er, mb) 0 0 (pf er 1 (er.length - 3))).2.1.map rqE), rrw (F 13) 32 5 ((fnS (v, (q, nu, ad, at9) :: R, RS, SC, er, mb) 0 0 (pf er 1 (er.length - 3))).2.2.1.map rsE), iar (F 5) 260 (pf er 1 (er.length - 3))] h := hL
      have hL : stars [rmo m F (rmM w (fnS (v, (q, nu, ad, at9) :: R, RS, SC, er, mb) 0 0 (pf er 1 (er.length - 3))).1) bg, iar (F 5) 260 (pf er 1 (er.length - 3)), rst (F 6) (fnS (v, (q, nu, ad, at9) :: R, RS, SC, er, mb) 0 0 (pf er 1 (er.length - 3))).2.2.2.2.1 ((fnS (v, (q, nu, ad, at9) :: R, RS, SC, er, mb) 0 0 (pf er 1 (er.length - 3))).1 20) ((fnS (v, (q, nu, ad, at9) :: R, RS, SC, er, mb) 0 0 (pf er 1 (er.length - 3))).2.2.2.2.2 1) ((fnS (v, (q, nu, ad, at9) :: R, RS, SC, er, mb) 0 0 (pf er 1 (er.length - 3))).2.2.2.2.2 2), rrw (F 12) 16 3 ((fnS (v, (q, nu, ad, at9) :: R, RS, SC, er, mb) 0 0 (pf er 1 (er.length - 3))).2.1.map rqE), rrw (F 13) 32 5 ((fnS (v, (q, nu, ad, at9) :: R, RS, SC, er, mb) 0 0 (pf er 1 (er.length - 3))).2.2.1.map rsE)] h := stars_ixn hL 5 rfl [0, 4, 1, 2, 3] (by decide) rfl
      refine e_goto 221 dX15_looksMaster_213 rfl ?_
      exact e_vret dX15_looksMaster_221 rfl (by omega) (by omega) (⟨_, ⟨rfl, _, rfl⟩, by rw [tf_6 (s := (v, (q, nu, ad, at9) :: R, RS, SC, er, mb)) a b c g d rf k202]; exact hL⟩)
  · have k135 := j_ne_f (a := (er.length - 3)) (b := 2) (by omega) (by omega) c135
    refine e_aload_n 139 dX15_looksMaster_138 rfl rfl ?_
    refine e_get 142 (v := (.ref (F 5))) dX15_looksMaster_139 rfl fl_X15_19_13 (stars_at _ 0 hL rfl) rfl ?_
    refine e_aload_n 143 dX15_looksMaster_142 rfl rfl ?_
    refine e_iconst 144 (v := (nI 0)) dX15_looksMaster_143 rfl (by decide) ?_
    refine v_iald 145 (r := (rE1 (((q, nu, ad, at9) :: R).map rqE) 0)) y131 (k := 0) (x := (q.getD 0 0)) dX15_looksMaster_144 rfl (by exact hql.1) (by omega) rfl ?_
    refine u_callS 148 dX15_looksMaster_145 rfl cs_X15_269 (u_X15_isRefusal (iar_V _ 1 hL rfl) (by decide) (pf_lt her (by decide)) (by rw [pf_len]; omega) (Nat.lt_trans (gd_lt (i := 0) hq (by decide)) (by decide))) rfl rfl (Nat.le_of_ble_eq_true rfl) (by decide) ⟨by omega, by omega⟩ ?_
    refine e_if_eq 184 151 dX15_looksMaster_148 rfl rfl (fun c148 => ?_) (fun c148 => ?_)
    · have k148 := jb_eq_t c148
      have rf : rfF q (pf er 1 (er.length - 3)) = false := decide_eq_false (fun z => absurd z.2 (of_decide_eq_false k148))
      refine e_aload_n 185 dX15_looksMaster_184 rfl rfl ?_
      refine e_aload_n 186 dX15_looksMaster_185 rfl rfl ?_
      refine e_get 189 (v := (.ref (F 12))) dX15_looksMaster_186 rfl fl_X15_44_13 (stars_at _ 0 hL rfl) rfl ?_
      refine e_get 192 (v := (.ref (A127 1))) dX15_looksMaster_189 rfl fl_X15_323_11 u127_0 rfl ?_
      refine e_iconst 193 (v := (nI 0)) dX15_looksMaster_192 rfl (by decide) ?_
      refine v_iald 194 (r := (rZ (((q, nu, ad, at9) :: R).map rqE))) u127_2 (k := 0) (x := q.length) dX15_looksMaster_193 rfl (Nat.le_of_ble_eq_true rfl) (by omega) rfl ?_
      refine e_aload_n 195 dX15_looksMaster_194 rfl rfl ?_
      refine e_get 198 (v := (.ref (F 5))) dX15_looksMaster_195 rfl fl_X15_19_13 (stars_at _ 0 hL rfl) rfl ?_
      refine e_iload_n 199 dX15_looksMaster_198 rfl rfl ?_
      refine u_callS 202 dX15_looksMaster_199 rfl cs_X15_326 (by have z := u_X15_doesFit (q := q) (ar := (pf er 1 (er.length - 3))) y131 (by decide) hq (iar_V _ 1 hL rfl) (by decide) (pf_lt her (by decide)) hql.1 (by rw [pf_len]; omega) ⟨by omega, by rw [pf_len]; omega⟩; rw [pf_len] at z; exact z) rfl rfl (Nat.le_of_ble_eq_true rfl) (by decide) ⟨by omega, by omega⟩ ?_
      refine e_if_eq 216 205 dX15_looksMaster_202 rfl rfl (fun c202 => ?_) (fun c202 => ?_)
      · have k202 := jb_eq_t c202
        refine e_aload_n 217 dX15_looksMaster_216 rfl rfl ?_
        refine e_iconst 218 (v := (nI 3)) dX15_looksMaster_217 rfl (by decide) ?_
        refine p_callV 221 hL [0, 2, 3, 4, 1] 5 rfl (by decide) (L1 := [pt m (.inr (13, moF F (rmM w v) bg)), rst (F 6) er (v 20) (mb 1) (mb 2), rrw (F 12) 16 3 (((q, nu, ad, at9) :: R).map rqE), rrw (F 13) 32 5 (RS.map rsE)]) (L2 := [iar (F 5) 260 (pf er 1 (er.length - 3))]) rfl isO_pt 0 rfl dX15_looksMaster_218 rfl cv_X15_317 (K_fails (SC := SC) (why := 3) hR ha hm) rfl rfl (Nat.le_of_ble_eq_true rfl) ⟨by decide, by omega, by omega⟩ (fun r1 L1 h q hL => ?_)
        obtain ⟨rfl, rfl⟩ := q
        have hL : stars [rmo m F (rmM w (flS (v, (q, nu, ad, at9) :: R, RS, SC, er, mb) 3).1) bg, rst (F 6) (flS (v, (q, nu, ad, at9) :: R, RS, SC, er, mb) 3).2.2.2.2.1 ((flS (v, (q, nu, ad, at9) :: R, RS, SC, er, mb) 3).1 20) ((flS (v, (q, nu, ad, at9) :: R, RS, SC, er, mb) 3).2.2.2.2.2 1) ((flS (v, (q, nu, ad, at9) :: R, RS, SC, er, mb) 3).2.2.2.2.2 2), rrw (F 12) 16 3 ((flS (v, (q, nu, ad, at9) :: R, RS, SC, er, mb) 3).2.1.map rqE), rrw (F 13) 32 5 ((flS (v, (q, nu, ad, at9) :: R, RS, SC, er, mb) 3).2.2.1.map rsE), iar (F 5) 260 (pf er 1 (er.length - 3))] h := hL
        have hL : stars [rmo m F (rmM w (flS (v, (q, nu, ad, at9) :: R, RS, SC, er, mb) 3).1) bg, iar (F 5) 260 (pf er 1 (er.length - 3)), rst (F 6) (flS (v, (q, nu, ad, at9) :: R, RS, SC, er, mb) 3).2.2.2.2.1 ((flS (v, (q, nu, ad, at9) :: R, RS, SC, er, mb) 3).1 20) ((flS (v, (q, nu, ad, at9) :: R, RS, SC, er, mb) 3).2.2.2.2.2 1) ((flS (v, (q, nu, ad, at9) :: R, RS, SC, er, mb) 3).2.2.2.2.2 2), rrw (F 12) 16 3 ((flS (v, (q, nu, ad, at9) :: R, RS, SC, er, mb) 3).2.1.map rqE), rrw (F 13) 32 5 ((flS (v, (q, nu, ad, at9) :: R, RS, SC, er, mb) 3).2.2.1.map rsE)] h := stars_ixn hL 5 rfl [0, 4, 1, 2, 3] (by decide) rfl
        exact e_vret dX15_looksMaster_221 rfl (by omega) (by omega) (⟨_, ⟨rfl, _, rfl⟩, by rw [tf_7 (s := (v, (q, nu, ad, at9) :: R, RS, SC, er, mb)) a b c g d rf k202]; exact hL⟩)
      · have k202 := jb_eq_f c202
        refine e_aload_n 206 dX15_looksMaster_205 rfl rfl ?_
        refine e_iconst 207 (v := (nI 0)) dX15_looksMaster_206 rfl (by decide) ?_
        refine e_iconst 208 (v := (nI 0)) dX15_looksMaster_207 rfl (by decide) ?_
        refine e_iconst 209 (v := (nI 1)) dX15_looksMaster_208 rfl (by decide) ?_
        refine e_iload_n 210 dX15_looksMaster_209 rfl rfl ?_
        refine p_callV 213 hL [0, 2, 3, 4, 1] 5 rfl (by decide) (L1 := [pt m (.inr (13, moF F (rmM w v) bg)), rst (F 6) er (v 20) (mb 1) (mb 2), rrw (F 12) 16 3 (((q, nu, ad, at9) :: R).map rqE), rrw (F 13) 32 5 (RS.map rsE)]) (L2 := [iar (F 5) 260 (pf er 1 (er.length - 3))]) rfl isO_pt 0 rfl dX15_looksMaster_210 rfl cv_X15_309 (K_through (SC := SC) (oc := 0) (co := 0) (fr9 := 1) (n := (er.length - 3)) hR (by omega) (by omega)) rfl rfl (Nat.le_of_ble_eq_true rfl) ⟨by decide, by omega, by omega⟩ (fun r1 L1 h q hL => ?_)
        obtain ⟨rfl, rfl⟩ := q
        have hL : stars [rmo m F (rmM w (fnS (v, (q, nu, ad, at9) :: R, RS, SC, er, mb) 0 0 (pf er 1 (er.length - 3))).1) bg, rst (F 6) (fnS (v, (q, nu, ad, at9) :: R, RS, SC, er, mb) 0 0 (pf er 1 (er.length - 3))).2.2.2.2.1 ((fnS (v, (q, nu, ad, at9) :: R, RS, SC, er, mb) 0 0 (pf er 1 (er.length - 3))).1 20) ((fnS (v, (q, nu, ad, at9) :: R, RS, SC, er, mb) 0 0 (pf er 1 (er.length - 3))).2.2.2.2.2 1) ((fnS (v, (q, nu, ad, at9) :: R, RS, SC, er, mb) 0 0 (pf er 1 (er.length - 3))).2.2.2.2.2 2), rrw (F 12) 16 3 ((fnS (v, (q, nu, ad, at9) :: R, RS, SC, er, mb) 0 0 (pf er 1 (er.length - 3))).2.1.map rqE), rrw (F 13) 32 5 ((fnS (v, (q, nu, ad, at9) :: R, RS, SC, er, mb) 0 0 (pf er 1 (er.length - 3))).2.2.1.map rsE), iar (F 5) 260 (pf er 1 (er.length - 3))] h := hL
        have hL : stars [rmo m F (rmM w (fnS (v, (q, nu, ad, at9) :: R, RS, SC, er, mb) 0 0 (pf er 1 (er.length - 3))).1) bg, iar (F 5) 260 (pf er 1 (er.length - 3)), rst (F 6) (fnS (v, (q, nu, ad, at9) :: R, RS, SC, er, mb) 0 0 (pf er 1 (er.length - 3))).2.2.2.2.1 ((fnS (v, (q, nu, ad, at9) :: R, RS, SC, er, mb) 0 0 (pf er 1 (er.length - 3))).1 20) ((fnS (v, (q, nu, ad, at9) :: R, RS, SC, er, mb) 0 0 (pf er 1 (er.length - 3))).2.2.2.2.2 1) ((fnS (v, (q, nu, ad, at9) :: R, RS, SC, er, mb) 0 0 (pf er 1 (er.length - 3))).2.2.2.2.2 2), rrw (F 12) 16 3 ((fnS (v, (q, nu, ad, at9) :: R, RS, SC, er, mb) 0 0 (pf er 1 (er.length - 3))).2.1.map rqE), rrw (F 13) 32 5 ((fnS (v, (q, nu, ad, at9) :: R, RS, SC, er, mb) 0 0 (pf er 1 (er.length - 3))).2.2.1.map rsE)] h := stars_ixn hL 5 rfl [0, 4, 1, 2, 3] (by decide) rfl
        refine e_goto 221 dX15_looksMaster_213 rfl ?_
        exact e_vret dX15_looksMaster_221 rfl (by omega) (by omega) (⟨_, ⟨rfl, _, rfl⟩, by rw [tf_6 (s := (v, (q, nu, ad, at9) :: R, RS, SC, er, mb)) a b c g d rf k202]; exact hL⟩)
    · have k148 := jb_eq_f c148
      have rf : rfF q (pf er 1 (er.length - 3)) = true := decide_eq_true ⟨by rw [pf_len]; exact k135, of_decide_eq_true k148⟩
      refine e_aload_n 152 dX15_looksMaster_151 rfl rfl ?_
      refine e_get 155 (v := (.ref (F 5))) dX15_looksMaster_152 rfl fl_X15_19_13 (stars_at _ 0 hL rfl) rfl ?_
      refine e_iconst 156 (v := (nI 1)) dX15_looksMaster_155 rfl (by decide) ?_
      have b156 := gd_lt (i := 1) (pf_lt (s := 1) (m := er.length - 3) her (by decide)) (by decide)
      refine v_iald 157 (r := (pf er 1 (er.length - 3))) (iar_V _ 1 hL rfl) (k := 1) (x := ((pf er 1 (er.length - 3)).getD 1 0)) dX15_looksMaster_156 rfl (by rw [pf_len]; omega) (by omega) rfl ?_
      refine e_bipush 159 (v := (nI 6)) dX15_looksMaster_157 rfl (by decide) ?_
      refine e_icmp_ne 170 162 dX15_looksMaster_159 rfl rfl (fun c159 => ?_) (fun c159 => ?_)
      · have k159 := j_ne_t (a := ((pf er 1 (er.length - 3)).getD 1 0)) (b := 6) (by omega) (by omega) c159
        refine e_aload_n 171 dX15_looksMaster_170 rfl rfl ?_
        refine e_iconst 172 (v := (nI 1)) dX15_looksMaster_171 rfl (by decide) ?_
        refine e_aload_n 173 dX15_looksMaster_172 rfl rfl ?_
        refine e_get 176 (v := (.ref (F 5))) dX15_looksMaster_173 rfl fl_X15_19_13 (stars_at _ 0 hL rfl) rfl ?_
        refine e_iconst 177 (v := (nI 1)) dX15_looksMaster_176 rfl (by decide) ?_
        refine v_iald 178 (r := (pf er 1 (er.length - 3))) (iar_V _ 1 hL rfl) (k := 1) (x := ((pf er 1 (er.length - 3)).getD 1 0)) dX15_looksMaster_177 rfl (by rw [pf_len]; omega) (by omega) rfl ?_
        refine e_iconst 179 (v := (nI 0)) dX15_looksMaster_178 rfl (by decide) ?_
        refine e_iconst 180 (v := (nI 0)) dX15_looksMaster_179 rfl (by decide) ?_
        refine p_callV 183 hL [0, 2, 3, 4, 1] 5 rfl (by decide) (L1 := [pt m (.inr (13, moF F (rmM w v) bg)), rst (F 6) er (v 20) (mb 1) (mb 2), rrw (F 12) 16 3 (((q, nu, ad, at9) :: R).map rqE), rrw (F 13) 32 5 (RS.map rsE)]) (L2 := [iar (F 5) 260 (pf er 1 (er.length - 3))]) rfl isO_pt 0 rfl dX15_looksMaster_180 rfl cv_X15_309 (K_through (SC := SC) (oc := 1) (co := ((pf er 1 (er.length - 3)).getD 1 0)) (fr9 := 0) (n := 0) hR (by omega) (by omega)) rfl rfl (Nat.le_of_ble_eq_true rfl) ⟨by decide, by omega, by omega⟩ (fun r1 L1 h q hL => ?_)
        obtain ⟨rfl, rfl⟩ := q
        have hL : stars [rmo m F (rmM w (fnS (v, (q, nu, ad, at9) :: R, RS, SC, er, mb) 1 ((pf er 1 (er.length - 3)).getD 1 0) (pf er 0 0)).1) bg, rst (F 6) (fnS (v, (q, nu, ad, at9) :: R, RS, SC, er, mb) 1 ((pf er 1 (er.length - 3)).getD 1 0) (pf er 0 0)).2.2.2.2.1 ((fnS (v, (q, nu, ad, at9) :: R, RS, SC, er, mb) 1 ((pf er 1 (er.length - 3)).getD 1 0) (pf er 0 0)).1 20) ((fnS (v, (q, nu, ad, at9) :: R, RS, SC, er, mb) 1 ((pf er 1 (er.length - 3)).getD 1 0) (pf er 0 0)).2.2.2.2.2 1) ((fnS (v, (q, nu, ad, at9) :: R, RS, SC, er, mb) 1 ((pf er 1 (er.length - 3)).getD 1 0) (pf er 0 0)).2.2.2.2.2 2), rrw (F 12) 16 3 ((fnS (v, (q, nu, ad, at9) :: R, RS, SC, er, mb) 1 ((pf er 1 (er.length - 3)).getD 1 0) (pf er 0 0)).2.1.map rqE), rrw (F 13) 32 5 ((fnS (v, (q, nu, ad, at9) :: R, RS, SC, er, mb) 1 ((pf er 1 (er.length - 3)).getD 1 0) (pf er 0 0)).2.2.1.map rsE), iar (F 5) 260 (pf er 1 (er.length - 3))] h := hL
        have hL : stars [rmo m F (rmM w (fnS (v, (q, nu, ad, at9) :: R, RS, SC, er, mb) 1 ((pf er 1 (er.length - 3)).getD 1 0) (pf er 0 0)).1) bg, iar (F 5) 260 (pf er 1 (er.length - 3)), rst (F 6) (fnS (v, (q, nu, ad, at9) :: R, RS, SC, er, mb) 1 ((pf er 1 (er.length - 3)).getD 1 0) (pf er 0 0)).2.2.2.2.1 ((fnS (v, (q, nu, ad, at9) :: R, RS, SC, er, mb) 1 ((pf er 1 (er.length - 3)).getD 1 0) (pf er 0 0)).1 20) ((fnS (v, (q, nu, ad, at9) :: R, RS, SC, er, mb) 1 ((pf er 1 (er.length - 3)).getD 1 0) (pf er 0 0)).2.2.2.2.2 1) ((fnS (v, (q, nu, ad, at9) :: R, RS, SC, er, mb) 1 ((pf er 1 (er.length - 3)).getD 1 0) (pf er 0 0)).2.2.2.2.2 2), rrw (F 12) 16 3 ((fnS (v, (q, nu, ad, at9) :: R, RS, SC, er, mb) 1 ((pf er 1 (er.length - 3)).getD 1 0) (pf er 0 0)).2.1.map rqE), rrw (F 13) 32 5 ((fnS (v, (q, nu, ad, at9) :: R, RS, SC, er, mb) 1 ((pf er 1 (er.length - 3)).getD 1 0) (pf er 0 0)).2.2.1.map rsE)] h := stars_ixn hL 5 rfl [0, 4, 1, 2, 3] (by decide) rfl
        exact e_vret dX15_looksMaster_183 rfl (by omega) (by omega) (⟨_, ⟨rfl, _, rfl⟩, by rw [tf_5 (s := (v, (q, nu, ad, at9) :: R, RS, SC, er, mb)) a b c g d rf k159]; exact hL⟩)
      · have k159 := j_ne_f (a := ((pf er 1 (er.length - 3)).getD 1 0)) (b := 6) (by omega) (by omega) c159
        refine e_aload_n 163 dX15_looksMaster_162 rfl rfl ?_
        refine e_iconst 164 (v := (nI 4)) dX15_looksMaster_163 rfl (by decide) ?_
        refine p_callV 167 hL [0, 2, 3, 4, 1] 5 rfl (by decide) (L1 := [pt m (.inr (13, moF F (rmM w v) bg)), rst (F 6) er (v 20) (mb 1) (mb 2), rrw (F 12) 16 3 (((q, nu, ad, at9) :: R).map rqE), rrw (F 13) 32 5 (RS.map rsE)]) (L2 := [iar (F 5) 260 (pf er 1 (er.length - 3))]) rfl isO_pt 0 rfl dX15_looksMaster_164 rfl cv_X15_317 (K_fails (SC := SC) (why := 4) hR ha hm) rfl rfl (Nat.le_of_ble_eq_true rfl) ⟨by decide, by omega, by omega⟩ (fun r1 L1 h q hL => ?_)
        obtain ⟨rfl, rfl⟩ := q
        have hL : stars [rmo m F (rmM w (flS (v, (q, nu, ad, at9) :: R, RS, SC, er, mb) 4).1) bg, rst (F 6) (flS (v, (q, nu, ad, at9) :: R, RS, SC, er, mb) 4).2.2.2.2.1 ((flS (v, (q, nu, ad, at9) :: R, RS, SC, er, mb) 4).1 20) ((flS (v, (q, nu, ad, at9) :: R, RS, SC, er, mb) 4).2.2.2.2.2 1) ((flS (v, (q, nu, ad, at9) :: R, RS, SC, er, mb) 4).2.2.2.2.2 2), rrw (F 12) 16 3 ((flS (v, (q, nu, ad, at9) :: R, RS, SC, er, mb) 4).2.1.map rqE), rrw (F 13) 32 5 ((flS (v, (q, nu, ad, at9) :: R, RS, SC, er, mb) 4).2.2.1.map rsE), iar (F 5) 260 (pf er 1 (er.length - 3))] h := hL
        have hL : stars [rmo m F (rmM w (flS (v, (q, nu, ad, at9) :: R, RS, SC, er, mb) 4).1) bg, iar (F 5) 260 (pf er 1 (er.length - 3)), rst (F 6) (flS (v, (q, nu, ad, at9) :: R, RS, SC, er, mb) 4).2.2.2.2.1 ((flS (v, (q, nu, ad, at9) :: R, RS, SC, er, mb) 4).1 20) ((flS (v, (q, nu, ad, at9) :: R, RS, SC, er, mb) 4).2.2.2.2.2 1) ((flS (v, (q, nu, ad, at9) :: R, RS, SC, er, mb) 4).2.2.2.2.2 2), rrw (F 12) 16 3 ((flS (v, (q, nu, ad, at9) :: R, RS, SC, er, mb) 4).2.1.map rqE), rrw (F 13) 32 5 ((flS (v, (q, nu, ad, at9) :: R, RS, SC, er, mb) 4).2.2.1.map rsE)] h := stars_ixn hL 5 rfl [0, 4, 1, 2, 3] (by decide) rfl
        refine e_goto 183 dX15_looksMaster_167 rfl ?_
        exact e_vret dX15_looksMaster_183 rfl (by omega) (by omega) (⟨_, ⟨rfl, _, rfl⟩, by rw [tf_4 (s := (v, (q, nu, ad, at9) :: R, RS, SC, er, mb)) a b c g d rf k159]; exact hL⟩)
set_option maxRecDepth 20000 in
set_option maxHeartbeats 2000000 in
theorem l_lm95 {m nu ad at9 : Nat} {F w v : Nat → Nat} {bg : Bool} {q er : List Nat} {R : List RQE} {RS : List RSE} {SC : List SCE} {mb : Nat → Bool} (hR : RS.length ≤ 32) (ha : at9 < 2 ^ 31) (hm : v 3 < 2 ^ 31) (h1 : v 1 < 2 ^ 31) (had : ad < 256) (hq : ∀ x ∈ q, x < 256) (hql : 1 ≤ q.length ∧ q.length ≤ 253) (her : ∀ x ∈ er, x < 256) (a : v 1 = 2) (b : 0 < ((v, (q, nu, ad, at9) :: R, RS, SC, er, mb) : MS).2.1.length) (c : ¬ (hdQ (v, (q, nu, ad, at9) :: R, RS, SC, er, mb)).2.2.1 = 0) (g : goodF er (mb 1) = true) (d : er.getD 0 0 = ad) (h4 : 4 ≤ er.length) : ∀ (n : Nat) (i : Nat) (h : eH), (er.length - 3) - i < n → i ≤ (er.length - 3) → stars [pt m (.inr (13, moF F (rmM w v) bg)), iar (F 5) 260 (pf er 1 i), rst (F 6) er (v 20) (mb 1) (mb 2), rrw (F 12) 16 3 (((q, nu, ad, at9) :: R).map rqE), rrw (F 13) 32 5 (RS.map rsE)] h → EE mX15_looksMaster 3 110 0 0 (fun x9 h' => ∃ K, (x9 = none ∧ ∃ p9, K = [rmo m F (rmM w (tfS (v, (q, nu, ad, at9) :: R, RS, SC, er, mb)).1) bg, iar (F 5) 260 p9, rst (F 6) (tfS (v, (q, nu, ad, at9) :: R, RS, SC, er, mb)).2.2.2.2.1 ((tfS (v, (q, nu, ad, at9) :: R, RS, SC, er, mb)).1 20) ((tfS (v, (q, nu, ad, at9) :: R, RS, SC, er, mb)).2.2.2.2.2 1) ((tfS (v, (q, nu, ad, at9) :: R, RS, SC, er, mb)).2.2.2.2.2 2), rrw (F 12) 16 3 ((tfS (v, (q, nu, ad, at9) :: R, RS, SC, er, mb)).2.1.map rqE), rrw (F 13) 32 5 ((tfS (v, (q, nu, ad, at9) :: R, RS, SC, er, mb)).2.2.1.map rsE)]) ∧ stars K h') 95 [some (.ref m), some (.int (nI (er.length - 3))), some (.int (nI i))] [] h 0 0 := by
  intro n
  induction n with
  | zero => intro i h hlt hle hL; exact absurd hlt (by omega)
  | succ n ih =>
    intro i h hlt hle hL
    have hle9 : er.length ≤ 256 := by (obtain ⟨_, _, z⟩ := rst_V _ 2 hL rfl; exact z.le)
    refine e_iload_n 96 dX15_looksMaster_95 rfl rfl ?_
    refine e_iload_n 97 dX15_looksMaster_96 rfl rfl ?_
    refine e_icmp_ge 123 100 dX15_looksMaster_97 rfl rfl (fun c97 => ?_) (fun c97 => ?_)
    · have k97 := j_ge_t (a := i) (b := (er.length - 3)) (by omega) (by omega) c97
      rw [show i = (er.length - 3) by omega] at hL
      refine e_wk [some (.ref m), some (.int (nI (er.length - 3))), none] ⟨rfl, rfl, trivial⟩ ?_
      exact g_lm123 hR ha hm h1 had hq hql her a b c g d h4 hL
    · have k97 := j_ge_f (a := i) (b := (er.length - 3)) (by omega) (by omega) c97
      refine e_aload_n 101 dX15_looksMaster_100 rfl rfl ?_
      refine e_get 104 (v := (.ref (F 5))) dX15_looksMaster_101 rfl fl_X15_19_13 (stars_at _ 0 hL rfl) rfl ?_
      refine e_iload_n 105 dX15_looksMaster_104 rfl rfl ?_
      refine e_aload_n 106 dX15_looksMaster_105 rfl rfl ?_
      refine e_get 109 (v := (.ref (F 6))) dX15_looksMaster_106 rfl fl_X15_25_13 (stars_at _ 0 hL rfl) rfl ?_
      obtain ⟨b109, u109_0, u109_1⟩ := rst_V _ 2 hL rfl
      refine e_get 112 (v := (.ref b109)) dX15_looksMaster_109 rfl fl_X15_302_12 u109_0 rfl ?_
      refine e_iconst 113 (v := (nI 1)) dX15_looksMaster_112 rfl (by decide) ?_
      refine e_iload_n 114 dX15_looksMaster_113 rfl rfl ?_
      refine e_iadd 115 (v := (nI (1 + i))) dX15_looksMaster_114 rfl (nI_add 1 i) ?_
      refine v_iald 116 (r := er) u109_1 (k := (1 + i)) (x := (er.getD (1 + i) 0)) dX15_looksMaster_115 rfl (by omega) (by omega) rfl ?_
      refine p_iastR 117 hL 1 (r := (pf er 1 i)) (r' := (pf er 1 (i + 1))) (k := i) (v := (er.getD (1 + i) 0)) (L' := [pt m (.inr (13, moF F (rmM w v) bg)), iar (F 5) 260 (pf er 1 (i + 1)), rst (F 6) er (v 20) (mb 1) (mb 2), rrw (F 12) 16 3 (((q, nu, ad, at9) :: R).map rqE), rrw (F 13) 32 5 (RS.map rsE)]) rfl dX15_looksMaster_116 rfl (by omega) (by omega) (by rw [pf_succ]; exact iw_ap pf_len.symm (by rw [pf_len]; omega)) rfl (fun h hL => ?_)
      refine e_iinc 120 (v := (nI (i + 1))) (ls' := [some (.ref m), some (.int (nI (er.length - 3))), some (.int (nI (i + 1)))]) dX15_looksMaster_117 rfl rfl (nI_add i 1) (by decide) rfl ?_
      refine e_goto 95 dX15_looksMaster_120 rfl ?_
      refine e_wk [some (.ref m), some (.int (nI (er.length - 3))), some (.int (nI (i + 1)))] ⟨rfl, rfl, rfl, trivial⟩ ?_
      exact ih (i + 1) h (by omega) (by omega) hL
set_option maxRecDepth 20000 in
set_option maxHeartbeats 2000000 in
theorem k_X15_looksMaster {m nu ad at9 : Nat} {F w v : Nat → Nat} {bg : Bool} {q er : List Nat} {R : List RQE} {RS : List RSE} {SC : List SCE} {mb : Nat → Bool} (hR : RS.length ≤ 32) (ha : at9 < 2 ^ 31) (hm : v 3 < 2 ^ 31) (h1 : v 1 < 2 ^ 31) (had : ad < 256) (hq : ∀ x ∈ q, x < 256) (hql : 1 ≤ q.length ∧ q.length ≤ 253) (her : ∀ x ∈ er, x < 256) {pd : List Nat} : CA mX15_looksMaster [.ref m] [pt m (.inr (13, moF F (rmM w v) bg)), iar (F 5) 260 pd, rst (F 6) er (v 20) (mb 1) (mb 2), rrw (F 12) 16 3 (((q, nu, ad, at9) :: R).map rqE), rrw (F 13) 32 5 (RS.map rsE)] (fun x9 K => x9 = none ∧ ∃ p9, K = [rmo m F (rmM w (tfS (v, (q, nu, ad, at9) :: R, RS, SC, er, mb)).1) bg, iar (F 5) 260 p9, rst (F 6) (tfS (v, (q, nu, ad, at9) :: R, RS, SC, er, mb)).2.2.2.2.1 ((tfS (v, (q, nu, ad, at9) :: R, RS, SC, er, mb)).1 20) ((tfS (v, (q, nu, ad, at9) :: R, RS, SC, er, mb)).2.2.2.2.2 1) ((tfS (v, (q, nu, ad, at9) :: R, RS, SC, er, mb)).2.2.2.2.2 2), rrw (F 12) 16 3 ((tfS (v, (q, nu, ad, at9) :: R, RS, SC, er, mb)).2.1.map rqE), rrw (F 13) 32 5 ((tfS (v, (q, nu, ad, at9) :: R, RS, SC, er, mb)).2.2.1.map rsE)]) 3 110 0 0 := by
  refine CA.mk 2 (ls := [some (.ref m), none, none]) rfl rfl (Nat.le_of_ble_eq_true rfl) rfl (fun h hL => ?_)
  refine e_aload_n 1 dX15_looksMaster_0 rfl rfl ?_
  refine e_get 4 (v := (.int (nI (v 1)))) dX15_looksMaster_1 rfl fl_X15_306_13 (stars_at _ 0 hL rfl) rfl ?_
  refine e_iconst 5 (v := (nI 2)) dX15_looksMaster_4 rfl (by decide) ?_
  refine e_icmp_ne 22 8 dX15_looksMaster_5 rfl rfl (fun c5 => ?_) (fun c5 => ?_)
  · have k5 := j_ne_t (a := (v 1)) (b := 2) (by omega) (by omega) c5
    refine e_aload_n 23 dX15_looksMaster_22 rfl rfl ?_
    refine e_dup 24 dX15_looksMaster_23 rfl rfl ?_
    refine e_get 27 (v := (.int (nI (v 14)))) dX15_looksMaster_24 rfl fl_X15_313_13 (stars_at _ 0 hL rfl) rfl ?_
    refine e_iconst 28 (v := (nI 1)) dX15_looksMaster_27 rfl (by decide) ?_
    refine e_iadd 29 (v := (nI ((v 14) + 1))) dX15_looksMaster_28 rfl (nI_add (v 14) 1) ?_
    refine p_put 32 hL 0 (fs' := moF F (upN (rmM w v) 17 ((v 14) + 1)) bg) (L' := [pt m (.inr (13, moF F (upN (rmM w v) 17 ((v 14) + 1)) bg)), iar (F 5) 260 pd, rst (F 6) er (v 20) (mb 1) (mb 2), rrw (F 12) 16 3 (((q, nu, ad, at9) :: R).map rqE), rrw (F 13) 32 5 (RS.map rsE)]) rfl rfl dX15_looksMaster_29 rfl fp_X15_313_13 (Or.inl rfl) (Nat.le_of_ble_eq_true rfl) rfl rfl rfl (fun h hL => ?_)
    exact e_vret dX15_looksMaster_32 rfl (by omega) (by omega) (⟨_, ⟨rfl, _, rfl⟩, by rw [tf_0 (s := (v, (q, nu, ad, at9) :: R, RS, SC, er, mb)) (Or.inl k5)]; exact hL⟩)
  · have k5 := j_ne_f (a := (v 1)) (b := 2) (by omega) (by omega) c5
    refine e_aload_n 9 dX15_looksMaster_8 rfl rfl ?_
    refine e_get 12 (v := (.ref (F 12))) dX15_looksMaster_9 rfl fl_X15_44_13 (stars_at _ 0 hL rfl) rfl ?_
    obtain ⟨A12, u12_0, u12_1, u12_2, u12_3, u12_4⟩ := rrw_V _ 3 hL rfl
    refine e_get 15 (v := (.ref (A12 2))) dX15_looksMaster_12 rfl fl_X15_292_11 u12_0 rfl ?_
    refine e_iconst 16 (v := (nI 0)) dX15_looksMaster_15 rfl (by decide) ?_
    refine v_aald 17 u12_3 (k := 0) dX15_looksMaster_16 rfl (by omega) (by omega) (fun b16 y16 => ?_)
    refine e_iconst 18 (v := (nI 0)) dX15_looksMaster_17 rfl (by decide) ?_
    refine v_iald 19 (r := (rE2 (((q, nu, ad, at9) :: R).map rqE) 0)) y16 (k := 0) (x := ad) dX15_looksMaster_18 rfl (Nat.le_of_ble_eq_true rfl) (by omega) rfl ?_
    refine e_if_ne 33 22 dX15_looksMaster_19 rfl rfl (fun c19 => ?_) (fun c19 => ?_)
    · have k19 := j_ne0_t (a := ad) (by omega) c19
      refine e_aload_n 34 dX15_looksMaster_33 rfl rfl ?_
      refine e_get 37 (v := (.ref (F 6))) dX15_looksMaster_34 rfl fl_X15_25_13 (stars_at _ 0 hL rfl) rfl ?_
      obtain ⟨bb37, o37, r37⟩ := rst_V _ 2 hL rfl
      refine u_callV 40 dX15_looksMaster_37 rfl cv_X15_316 o37 (u_X14_isGood o37 r37 (fun x hx => Nat.lt_trans (her x hx) (by decide))) rfl rfl (Nat.le_of_ble_eq_true rfl) (by decide) ⟨by omega, by omega⟩ ?_
      refine e_if_ne 49 43 dX15_looksMaster_40 rfl rfl (fun c40 => ?_) (fun c40 => ?_)
      · have k40 := jb_ne_t c40
        have h4 := good_4 k40
        refine e_aload_n 50 dX15_looksMaster_49 rfl rfl ?_
        refine e_get 53 (v := (.ref (F 6))) dX15_looksMaster_50 rfl fl_X15_25_13 (stars_at _ 0 hL rfl) rfl ?_
        refine e_get 56 (v := (.ref bb37)) dX15_looksMaster_53 rfl fl_X15_302_12 o37 rfl ?_
        refine e_iconst 57 (v := (nI 0)) dX15_looksMaster_56 rfl (by decide) ?_
        have b57 := gd_lt (i := 0) her (by decide)
        refine v_iald 58 (r := er) r37 (k := 0) (x := (er.getD 0 0)) dX15_looksMaster_57 rfl (by omega) (by omega) rfl ?_
        refine e_aload_n 59 dX15_looksMaster_58 rfl rfl ?_
        refine e_get 62 (v := (.ref (F 12))) dX15_looksMaster_59 rfl fl_X15_44_13 (stars_at _ 0 hL rfl) rfl ?_
        refine e_get 65 (v := (.ref (A12 2))) dX15_looksMaster_62 rfl fl_X15_292_11 u12_0 rfl ?_
        refine e_iconst 66 (v := (nI 0)) dX15_looksMaster_65 rfl (by decide) ?_
        refine v_aald 67 u12_3 (k := 0) dX15_looksMaster_66 rfl (by omega) (by omega) (fun b66 y66 => ?_)
        refine e_iconst 68 (v := (nI 0)) dX15_looksMaster_67 rfl (by decide) ?_
        refine v_iald 69 (r := (rE2 (((q, nu, ad, at9) :: R).map rqE) 0)) y66 (k := 0) (x := ad) dX15_looksMaster_68 rfl (Nat.le_of_ble_eq_true rfl) (by omega) rfl ?_
        refine e_icmp_eq 83 72 dX15_looksMaster_69 rfl rfl (fun c69 => ?_) (fun c69 => ?_)
        · have k69 := j_eq_t (a := (er.getD 0 0)) (b := ad) (by omega) (by omega) c69
          refine e_aload_n 84 dX15_looksMaster_83 rfl rfl ?_
          refine e_get 87 (v := (.ref (F 6))) dX15_looksMaster_84 rfl fl_X15_25_13 (stars_at _ 0 hL rfl) rfl ?_
          refine e_get 90 (v := (.int (nI er.length))) dX15_looksMaster_87 rfl fl_X15_320_12 o37 rfl ?_
          refine e_iconst 91 (v := (nI 3)) dX15_looksMaster_90 rfl (by decide) ?_
          refine e_isub 92 (v := (nI (er.length - 3))) dX15_looksMaster_91 rfl (pk_sub (by omega)) ?_
          refine e_istore_n 93 (ls' := [some (.ref m), some (.int (nI (er.length - 3))), none]) dX15_looksMaster_92 rfl (by decide) rfl ?_
          refine e_iconst 94 (v := (nI 0)) dX15_looksMaster_93 rfl (by decide) ?_
          refine e_istore_n 95 (ls' := [some (.ref m), some (.int (nI (er.length - 3))), some (.int (nI 0))]) dX15_looksMaster_94 rfl (by decide) rfl ?_
          have hL : stars [pt m (.inr (13, moF F (rmM w v) bg)), iar (F 5) 260 ([]), rst (F 6) er (v 20) (mb 1) (mb 2), rrw (F 12) 16 3 (((q, nu, ad, at9) :: R).map rqE), rrw (F 13) 32 5 (RS.map rsE)] h := iar_em 1 hL rfl rfl
          exact l_lm95 (SC := SC) hR ha hm h1 had hq hql her k5 (Nat.succ_pos _) (by exact k19) k40 k69 h4 _ 0 h (Nat.lt_succ_self _) (Nat.zero_le _) hL
        · have k69 := j_eq_f (a := (er.getD 0 0)) (b := ad) (by omega) (by omega) c69
          refine e_aload_n 73 dX15_looksMaster_72 rfl rfl ?_
          refine e_dup 74 dX15_looksMaster_73 rfl rfl ?_
          refine e_get 77 (v := (.int (nI (v 14)))) dX15_looksMaster_74 rfl fl_X15_313_13 (stars_at _ 0 hL rfl) rfl ?_
          refine e_iconst 78 (v := (nI 1)) dX15_looksMaster_77 rfl (by decide) ?_
          refine e_iadd 79 (v := (nI ((v 14) + 1))) dX15_looksMaster_78 rfl (nI_add (v 14) 1) ?_
          refine p_put 82 hL 0 (fs' := moF F (upN (rmM w v) 17 ((v 14) + 1)) bg) (L' := [pt m (.inr (13, moF F (upN (rmM w v) 17 ((v 14) + 1)) bg)), iar (F 5) 260 pd, rst (F 6) er (v 20) (mb 1) (mb 2), rrw (F 12) 16 3 (((q, nu, ad, at9) :: R).map rqE), rrw (F 13) 32 5 (RS.map rsE)]) rfl rfl dX15_looksMaster_79 rfl fp_X15_313_13 (Or.inl rfl) (Nat.le_of_ble_eq_true rfl) rfl rfl rfl (fun h hL => ?_)
          exact e_vret dX15_looksMaster_82 rfl (by omega) (by omega) (⟨_, ⟨rfl, _, rfl⟩, by rw [tf_3 (s := (v, (q, nu, ad, at9) :: R, RS, SC, er, mb)) k5 (Nat.succ_pos _) (by exact k19) k40 k69]; exact hL⟩)
      · have k40 := jb_ne_f c40
        refine e_aload_n 44 dX15_looksMaster_43 rfl rfl ?_
        refine e_iconst 45 (v := (nI 2)) dX15_looksMaster_44 rfl (by decide) ?_
        refine p_callV 48 hL [0, 2, 3, 4, 1] 5 rfl (by decide) (L1 := [pt m (.inr (13, moF F (rmM w v) bg)), rst (F 6) er (v 20) (mb 1) (mb 2), rrw (F 12) 16 3 (((q, nu, ad, at9) :: R).map rqE), rrw (F 13) 32 5 (RS.map rsE)]) (L2 := [iar (F 5) 260 pd]) rfl isO_pt 0 rfl dX15_looksMaster_45 rfl cv_X15_317 (K_fails (SC := SC) (why := 2) hR ha hm) rfl rfl (Nat.le_of_ble_eq_true rfl) ⟨by decide, by omega, by omega⟩ (fun r1 L1 h q hL => ?_)
        obtain ⟨rfl, rfl⟩ := q
        have hL : stars [rmo m F (rmM w (flS (v, (q, nu, ad, at9) :: R, RS, SC, er, mb) 2).1) bg, rst (F 6) (flS (v, (q, nu, ad, at9) :: R, RS, SC, er, mb) 2).2.2.2.2.1 ((flS (v, (q, nu, ad, at9) :: R, RS, SC, er, mb) 2).1 20) ((flS (v, (q, nu, ad, at9) :: R, RS, SC, er, mb) 2).2.2.2.2.2 1) ((flS (v, (q, nu, ad, at9) :: R, RS, SC, er, mb) 2).2.2.2.2.2 2), rrw (F 12) 16 3 ((flS (v, (q, nu, ad, at9) :: R, RS, SC, er, mb) 2).2.1.map rqE), rrw (F 13) 32 5 ((flS (v, (q, nu, ad, at9) :: R, RS, SC, er, mb) 2).2.2.1.map rsE), iar (F 5) 260 pd] h := hL
        have hL : stars [rmo m F (rmM w (flS (v, (q, nu, ad, at9) :: R, RS, SC, er, mb) 2).1) bg, iar (F 5) 260 pd, rst (F 6) (flS (v, (q, nu, ad, at9) :: R, RS, SC, er, mb) 2).2.2.2.2.1 ((flS (v, (q, nu, ad, at9) :: R, RS, SC, er, mb) 2).1 20) ((flS (v, (q, nu, ad, at9) :: R, RS, SC, er, mb) 2).2.2.2.2.2 1) ((flS (v, (q, nu, ad, at9) :: R, RS, SC, er, mb) 2).2.2.2.2.2 2), rrw (F 12) 16 3 ((flS (v, (q, nu, ad, at9) :: R, RS, SC, er, mb) 2).2.1.map rqE), rrw (F 13) 32 5 ((flS (v, (q, nu, ad, at9) :: R, RS, SC, er, mb) 2).2.2.1.map rsE)] h := stars_ixn hL 5 rfl [0, 4, 1, 2, 3] (by decide) rfl
        exact e_vret dX15_looksMaster_48 rfl (by omega) (by omega) (⟨_, ⟨rfl, _, rfl⟩, by rw [tf_2 (s := (v, (q, nu, ad, at9) :: R, RS, SC, er, mb)) k5 (Nat.succ_pos _) (by exact k19) k40]; exact hL⟩)
    · have k19 := j_ne0_f (a := ad) (by omega) c19
      refine e_aload_n 23 dX15_looksMaster_22 rfl rfl ?_
      refine e_dup 24 dX15_looksMaster_23 rfl rfl ?_
      refine e_get 27 (v := (.int (nI (v 14)))) dX15_looksMaster_24 rfl fl_X15_313_13 (stars_at _ 0 hL rfl) rfl ?_
      refine e_iconst 28 (v := (nI 1)) dX15_looksMaster_27 rfl (by decide) ?_
      refine e_iadd 29 (v := (nI ((v 14) + 1))) dX15_looksMaster_28 rfl (nI_add (v 14) 1) ?_
      refine p_put 32 hL 0 (fs' := moF F (upN (rmM w v) 17 ((v 14) + 1)) bg) (L' := [pt m (.inr (13, moF F (upN (rmM w v) 17 ((v 14) + 1)) bg)), iar (F 5) 260 pd, rst (F 6) er (v 20) (mb 1) (mb 2), rrw (F 12) 16 3 (((q, nu, ad, at9) :: R).map rqE), rrw (F 13) 32 5 (RS.map rsE)]) rfl rfl dX15_looksMaster_29 rfl fp_X15_313_13 (Or.inl rfl) (Nat.le_of_ble_eq_true rfl) rfl rfl rfl (fun h hL => ?_)
      exact e_vret dX15_looksMaster_32 rfl (by omega) (by omega) (⟨_, ⟨rfl, _, rfl⟩, by rw [tf_0 (s := (v, (q, nu, ad, at9) :: R, RS, SC, er, mb)) (Or.inr k19)]; exact hL⟩)
set_option maxRecDepth 20000 in
set_option maxHeartbeats 2000000 in
theorem k_X15_looksMaster0 {m : Nat} {F w v : Nat → Nat} {bg : Bool} {er : List Nat} {RQ : List RQE} {RS : List RSE} {SC : List SCE} {mb : Nat → Bool} (h1 : v 1 < 2 ^ 31) (h2 : ¬ v 1 = 2) : CA mX15_looksMaster [.ref m] [pt m (.inr (13, moF F (rmM w v) bg))] (fun x9 K => x9 = none ∧ K = [rmo m F (rmM w (tfS (v, RQ, RS, SC, er, mb)).1) bg]) 3 110 0 0 := by
  refine CA.mk 2 (ls := [some (.ref m), none, none]) rfl rfl (Nat.le_of_ble_eq_true rfl) rfl (fun h hL => ?_)
  refine e_aload_n 1 dX15_looksMaster_0 rfl rfl ?_
  refine e_get 4 (v := (.int (nI (v 1)))) dX15_looksMaster_1 rfl fl_X15_306_13 (stars_at _ 0 hL rfl) rfl ?_
  refine e_iconst 5 (v := (nI 2)) dX15_looksMaster_4 rfl (by decide) ?_
  refine e_icmp_ne 22 8 dX15_looksMaster_5 rfl rfl (fun c5 => ?_) (fun c5 => ?_)
  · have k5 := j_ne_t (a := (v 1)) (b := 2) (by omega) (by omega) c5
    refine e_aload_n 23 dX15_looksMaster_22 rfl rfl ?_
    refine e_dup 24 dX15_looksMaster_23 rfl rfl ?_
    refine e_get 27 (v := (.int (nI (v 14)))) dX15_looksMaster_24 rfl fl_X15_313_13 (stars_at _ 0 hL rfl) rfl ?_
    refine e_iconst 28 (v := (nI 1)) dX15_looksMaster_27 rfl (by decide) ?_
    refine e_iadd 29 (v := (nI ((v 14) + 1))) dX15_looksMaster_28 rfl (nI_add (v 14) 1) ?_
    refine p_put 32 hL 0 (fs' := moF F (upN (rmM w v) 17 ((v 14) + 1)) bg) (L' := [pt m (.inr (13, moF F (upN (rmM w v) 17 ((v 14) + 1)) bg))]) rfl rfl dX15_looksMaster_29 rfl fp_X15_313_13 (Or.inl rfl) (Nat.le_of_ble_eq_true rfl) rfl rfl rfl (fun h hL => ?_)
    exact e_vret dX15_looksMaster_32 rfl (by omega) (by omega) (⟨_, ⟨rfl, rfl⟩, by rw [tf_0 (s := (v, RQ, RS, SC, er, mb)) (Or.inl h2)]; exact hL⟩)
  · have k5 := j_ne_f (a := (v 1)) (b := 2) (by omega) (by omega) c5
    exact absurd k5 h2
