/-! every device keeps okE -/
theorem wrI_len {mk fr : Nat} {vs : List Nat} {x v : Int32} : (wrI mk fr vs x v).length = vs.length := by
  unfold wrI
  split
  · exact List.length_set
  · rfl
theorem wrI_b {fr : Nat} {vs : List Nat} {x v : Int32} (h : ∀ y ∈ vs, y < 2) : ∀ y ∈ wrI 1 fr vs x v, y < 2 := by
  intro y hy
  unfold wrI at hy
  split at hy
  · rcases List.mem_or_eq_of_mem_set hy with z | z
    · exact h y z
    · rw [z]; exact Nat.mod_lt _ (by decide)
  · exact h y hy
theorem aoV_ind {bf : Nat → Nat} {P : (Nat → List Nat) → Prop} (hw : ∀ bv k a x, P bv → P (wrK bf bv k a x)) {bv : Nat → List Nat} {kd a b c : Nat} (h : P bv) : P (aoV bf bv kd a b c) := by
  unfold aoV
  split
  · unfold ao0; split; exact hw _ _ _ _ h; exact h
  · unfold ao1; split; exact hw _ _ _ _ h; exact h
  · unfold ao2; split; exact hw _ _ _ _ h; exact h
  · unfold ao3; split; exact hw _ _ _ _ h; exact h
  · unfold ao4; split; exact hw _ _ _ _ h; exact h
  · unfold ao5; split; exact hw _ _ _ _ (hw _ _ _ _ h); exact h
  · exact h
theorem arV_ind {bf : Nat → Nat} {ru : List Nat} {P : (Nat → List Nat) → Prop} (hw : ∀ bv k a x, P bv → P (wrK bf bv k a x)) {bv : Nat → List Nat} (h : P bv) : ∀ n, P (arV bf ru bv n)
  | 0 => h
  | n + 1 => aoV_ind hw (arV_ind hw h n)
theorem arV_len {bf : Nat → Nat} {ru : List Nat} {bv : Nat → List Nat} {n k : Nat} : (arV bf ru bv n k).length = (bv k).length := by
  refine arV_ind (P := fun w => (w k).length = (bv k).length) (fun w j a x h => ?_) rfl n
  show (if k = j then wrI (mkK j) (bf j) (w j) (nI a) x else w k).length = _
  split
  · rename_i e; subst e; rw [wrI_len]; exact h
  · exact h
theorem arV_b {bf : Nat → Nat} {ru : List Nat} {bv : Nat → List Nat} {n k : Nat} (hk : k < 2) (h : ∀ x ∈ bv k, x < 2) : ∀ x ∈ arV bf ru bv n k, x < 2 := by
  refine arV_ind (P := fun w => ∀ x ∈ w k, x < 2) (fun w j a x h => ?_) h n
  show ∀ y ∈ (if k = j then wrI (mkK j) (bf j) (w j) (nI a) x else w k), y < 2
  split
  · rename_i e; subst e
    rw [show mkK k = 1 from if_pos hk]
    exact wrI_b h
  · exact h
theorem lat_len {cap v : Nat} {r : List Nat} (h : r.length ≤ cap) : (lat cap r v).length ≤ cap := by
  unfold lat
  split
  · rw [List.length_append, List.length_singleton]; omega
  · split
    · exact h
    · rw [List.length_append, List.length_tail, List.length_singleton]; omega
theorem keM_at {M : List (Nat × List Nat)} {i : Nat} (hi : i < M.length) : keM M i = M[i].1 := by
  show (M.getD i (0, [])).1 = _
  simp [List.getD, hi]
theorem st_keys {M : List (Nat × List Nat)} {i : Nat} {r : List Nat} : (stM M i r).map (·.1) = M.map (·.1) := by
  by_cases hi : i < M.length
  · show (M.set i (keM M i, r)).map (·.1) = _
    rw [List.map_set, keM_at hi]
    have : (M.map (·.1))[i]'(by simpa using hi) = M[i].1 := by rw [List.getElem_map]
    rw [← this]
    exact List.set_getElem_self _
  · show (M.set i (keM M i, r)).map (·.1) = _
    rw [List.set_eq_of_length_le (by omega)]
theorem shO_st {cap rm kb i : Nat} {M : List (Nat × List Nat)} {r : List Nat} (h : shO cap rm kb M) (hr : r.length ≤ rm) : shO cap rm kb (stM M i r) := by
  refine ⟨by show (M.set i _).length ≤ cap; rw [List.length_set]; exact h.1, ?_, by rw [st_keys]; exact h.2.2⟩
  intro e he
  rcases List.mem_or_eq_of_mem_set he with z | z
  · exact h.2.1 e z
  · by_cases hi : i < M.length
    · subst z
      refine ⟨?_, hr⟩
      show keM M i < kb
      rw [keM_at hi]
      exact (h.2.1 _ (List.getElem_mem hi)).1
    · have he' : e ∈ M.set i (keM M i, r) := he
      rw [List.set_eq_of_length_le (by omega)] at he'
      exact h.2.1 e he'
theorem shO_po {M : List (Nat × List Nat)} {x t : Nat} (h : shO 4 40 65536 M) : shO 4 40 65536 (poM M x t) := by
  unfold poM
  split
  · exact h
  · exact shO_st h (lat_len (rwM_len h))
theorem shO_ar {bf : Nat → Nat} {ru : List Nat} {bv : Nat → List Nat} {M : List (Nat × List Nat)} (h : shO 4 40 65536 M) : ∀ n, shO 4 40 65536 (arM bf ru bv M n)
  | 0 => h
  | n + 1 => by
    rw [arM, aoM]
    split
    · exact shO_po (shO_ar h n)
    · exact shO_ar h n
theorem okE_ar {s : DS} (h : okE s) : okE (arD s) := by
  obtain ⟨v, bf, lm, ct, L, S, B⟩ := s
  obtain ⟨e1, e2, e3, ⟨eF, eQ, eT⟩, eL⟩ := h
  refine ⟨fun k hk => ?_, ⟨?_, ?_⟩, e3, ⟨eF, shO_ar eQ _, eT⟩, eL⟩
  · show (if k < 4 then arV bf (L 4) L ((L 4).length / 4) k else L k).length ≤ 400 ∧ bf k + (if k < 4 then arV bf (L 4) L ((L 4).length / 4) k else L k).length ≤ 65536
    rw [if_pos hk, arV_len]
    exact e1 k hk
  · exact arV_b (by decide) e2.1
  · exact arV_b (by decide) e2.2
theorem okE_sl {s : DS} (h : okE s) : okE (slD s) := by
  unfold slD
  split
  · obtain ⟨e1, e2, ⟨e3, e4, e5, e6, e7⟩, e8, eL⟩ := h
    refine ⟨e1, e2, ⟨e3, e4, e5, e6, fun z => ?_⟩, e8, eL⟩
    show s.1 17 - 1 = 0
    have := e7 z
    omega
  · exact h
theorem okE_he {s : DS} {b : Nat} (h : okE s) : okE (heD b s) := by
  obtain ⟨v, bf, lm, ct, L, S, B⟩ := s
  obtain ⟨e1, e2, ⟨e3, e4, e5, e6, e7⟩, e8, eL⟩ := h
  refine ⟨fun k hk => ?_, e2, ⟨e3, e4, ?_, e6, e7⟩, e8, eL⟩
  · have := e1 k hk
    show (upL L 6 _ k).length ≤ 400 ∧ bf k + (upL L 6 _ k).length ≤ 65536
    rw [show upL L 6 (hrR (L 6) b) k = L k from if_neg (by omega)]
    exact this
  · show (hrR (L 6) b).length ≤ 256
    unfold hrR
    split
    · rw [List.length_append, List.length_singleton]; omega
    · exact e5
theorem okE_q {s : DS} {q : Nat} (h : okE s) : okE (upN s.1 20 q, s.2) := h
theorem upL_lo {L : Nat → List Nat} {j : Nat} {r : List Nat} {bf : Nat → Nat} (hj : 4 ≤ j) (e : ∀ k, k < 4 → (L k).length ≤ 400 ∧ bf k + (L k).length ≤ 65536) : ∀ k, k < 4 → (upL L j r k).length ≤ 400 ∧ bf k + (upL L j r k).length ≤ 65536 := by
  intro k hk
  rw [show upL L j r k = L k from if_neg (by omega)]
  exact e k hk
theorem okE_cf {s : DS} (h : okE s) : okE (cfD s) := by
  obtain ⟨v, bf, lm, ct, L, S, B⟩ := s
  obtain ⟨e1, e2, ⟨e3, e4, e5, e6, e7⟩, e8, eL⟩ := h
  refine ⟨upL_lo (by decide) e1, e2, ⟨e3, ?_, e5, e6, e7⟩, e8, eL⟩
  show (cfL (L 5) (v 1) (B 0) (L 6) (B 1) (B 2)).length ≤ 64
  unfold cfL
  (repeat' split) <;> first | exact e4 | exact lat_len e4
theorem okE_kr {s : DS} {p : List Nat} {code : Nat} (h : okE s) (hp : p.length ≤ 253) : okE (krD s p code) := by
  obtain ⟨v, bf, lm, ct, L, S, B⟩ := s
  obtain ⟨e1, e2, ⟨e3, e4, e5, e6, e7⟩, e8, eL⟩ := h
  refine ⟨upL_lo (by decide) (upL_lo (by decide) e1), e2, ⟨e3, ?_, e5, ?_, ?_⟩, e8, ?_⟩
  · show (krL (L 5) p code).length ≤ 64
    unfold krL
    (repeat' split) <;> first | exact e4 | exact lat_len e4
  · show (krR (L 7) p).length ≤ 253
    unfold krR
    split
    · exact e6
    · exact hp
  · show (krR (L 7) p).length = 0 → krV v p 17 = 0
    unfold krR krV
    split
    · exact e7
    · rename_i z
      intro y
      exact absurd (List.eq_nil_of_length_eq_zero y) z
  · have : krV v p 8 = v 8 := by
      unfold krV
      split <;> rfl
    show ∀ i, i < krV v p 8 → _
    rw [this]
    exact eL
theorem okE_fg {s : DS} (h : okE s) : okE (fgD s) := by
  obtain ⟨v, bf, lm, ct, L, S, B⟩ := s
  obtain ⟨e1, e2, ⟨e3, e4, e5, e6, e7⟩, e8, eL⟩ := h
  exact ⟨upL_lo (by decide) e1, e2, ⟨e3, e4, Nat.zero_le _, e6, e7⟩, e8, eL⟩
theorem okE_cl {s : DS} (h : okE s) (h17 : s.1 17 = 0) : okE (clR s) := by
  obtain ⟨v, bf, lm, ct, L, S, B⟩ := s
  obtain ⟨e1, e2, ⟨e3, e4, e5, e6, e7⟩, e8, eL⟩ := h
  exact ⟨upL_lo (by decide) e1, e2, ⟨e3, e4, e5, Nat.zero_le _, fun _ => h17⟩, e8, eL⟩
theorem pfV_len {bf : Nat → Nat} {bv : Nat → List Nat} {q : List Nat} {k : Nat} : (pfV bf bv q k).length = (bv k).length := by
  have hu : ∀ j r, r.length = (bv j).length → (upL bv j r k).length = (bv k).length := by
    intro j r h
    unfold upL
    split
    · rename_i e; subst e; exact h
    · rfl
  unfold pfV
  (repeat' split) <;> first | exact hu _ _ List.length_set | exact hu _ _ (wbF_len _) | exact hu _ _ (wwF_len _) | rfl
theorem wbF_b {q vs : List Nat} {fr : Nat} (h : ∀ y ∈ vs, y < 2) : ∀ i, ∀ y ∈ wbF q fr vs i, y < 2
  | 0 => h
  | i + 1 => set_lt (wbF_b h i) (Nat.mod_lt _ (by decide))
theorem pfV_b0 {bf : Nat → Nat} {bv : Nat → List Nat} {q : List Nat} (h : ∀ x ∈ bv 0, x < 2) : ∀ x ∈ pfV bf bv q 0, x < 2 := by
  have h5 : (if wd q 3 = 65280 then 1 else 0) < 2 := by split <;> decide
  unfold pfV
  split
  · exact set_lt h h5
  · split
    · exact h
    · split
      · exact wbF_b h _
      · (repeat' split) <;> exact h
theorem wvF_shO {q : List Nat} {M : List (Nat × List Nat)} {i : Nat} (h : shO 4 120 65536 M) : shO 4 120 65536 (wfS q M i) := by
  unfold wfS
  split
  · exact h
  · exact shO_st h (by rw [wvF_len]; exact rwM_len h)
theorem wfF_shO {q : List Nat} : ∀ (t i : Nat) (M : List (Nat × List Nat)), shO 4 120 65536 M → shO 4 120 65536 (wfF q t i M)
  | 0, _, M, h => h
  | t + 1, i, M, h => by
    rw [wfF]
    split
    · exact wfF_shO t _ _ (wvF_shO h)
    · exact h
theorem okE_sv {s : DS} {q : List Nat} (h : okE s) : okE (svS s q) := by
  obtain ⟨v, bf, lm, ct, L, S, B⟩ := s
  obtain ⟨e1, e2, ⟨e3, e4, e5, e6, e7⟩, ⟨eF, eQ, eT⟩, eL⟩ := h
  simp only at e1 e2 e3 e4 e5 e6 e7 eF eQ eT eL
  unfold svS
  split
  · exact ⟨e1, e2, ⟨e3, e4, e5, e6, e7⟩, ⟨eF, eQ, eT⟩, eL⟩
  · split
    · exact ⟨e1, e2, ⟨e3, e4, e5, e6, e7⟩, ⟨eF, eQ, eT⟩, eL⟩
    · split
      · exact ⟨e1, e2, ⟨e3, e4, e5, e6, e7⟩, ⟨eF, eQ, eT⟩, eL⟩
      · have e : ∀ k, k ≠ 0 → k ≠ 2 → k ≠ 5 → upL (pfV bf L q) 5 (pfL (L 5) q) k = L k := fun k h0 h2 h5 => by
          rw [show upL (pfV bf L q) 5 (pfL (L 5) q) k = pfV bf L q k from if_neg h5]
          exact pfV_k h0 h2
        refine ⟨fun k hk => ?_, ⟨?_, ?_⟩, ⟨?_, ?_, ?_, ?_, ?_⟩, ⟨?_, eQ, eT⟩, eL⟩
        · show (upL (pfV bf L q) 5 (pfL (L 5) q) k).length ≤ 400 ∧ bf k + (upL (pfV bf L q) 5 (pfL (L 5) q) k).length ≤ 65536
          rw [show upL (pfV bf L q) 5 (pfL (L 5) q) k = pfV bf L q k from if_neg (by omega), pfV_len]
          exact e1 k hk
        · exact pfV_b0 e2.1
        · show ∀ x ∈ upL (pfV bf L q) 5 (pfL (L 5) q) 1, x < 2
          rw [e 1 (by decide) (by decide) (by decide)]; exact e2.2
        · show (upL (pfV bf L q) 5 (pfL (L 5) q) 4).length ≤ 48
          rw [e 4 (by decide) (by decide) (by decide)]; exact e3
        · show (pfL (L 5) q).length ≤ 64
          unfold pfL dnL
          (repeat' split) <;> first | exact e4 | exact lat_len e4 | exact lat_len (Nat.zero_le _)
        · show (upL (pfV bf L q) 5 (pfL (L 5) q) 6).length ≤ 256
          rw [e 6 (by decide) (by decide) (by decide)]; exact e5
        · show (upL (pfV bf L q) 5 (pfL (L 5) q) 7).length ≤ 253
          rw [e 7 (by decide) (by decide) (by decide)]; exact e6
        · show (upL (pfV bf L q) 5 (pfL (L 5) q) 7).length = 0 → v 17 = 0
          rw [e 7 (by decide) (by decide) (by decide)]; exact e7
        · show shO 4 120 65536 (pfF (S 0) q)
          unfold pfF
          split
          · exact wfF_shO _ _ _ eF
          · exact eF
theorem eaP_ok {s : DS} (hd : okD s) (he : okE s) : (∀ x ∈ eaP s, x < 256) ∧ (eaP s).length ≤ 253 := by
  refine ⟨pf_lt hd.2.2.2.2.2.2.2.2.1 (by decide), ?_⟩
  rw [eaP, pf_len]
  have := he.2.2.1.2.2.1
  omega
theorem ok_tm {s : DS} (hd : okD s) (he : okE s) : okD (tmD s) ∧ okE (tmD s) := by
  obtain ⟨p1, p2⟩ := eaP_ok hd he
  obtain ⟨a1, a2⟩ := svA_ok hd he p1 p2
  have h1 : okD (if tmV s = true then svS s (eaP s) else s) ∧ okE (if tmV s = true then svS s (eaP s) else s) := by
    split
    · exact ⟨okD_sv hd p1, okE_sv he⟩
    · exact ⟨hd, he⟩
  unfold tmD
  constructor
  · refine okD_kr h1.1 ?_
    split
    · exact a1
    · intro x hx; cases hx
  · refine okE_kr h1.2 ?_
    split
    · exact a2
    · exact Nat.zero_le _
theorem kr20 {s : DS} {p : List Nat} {code : Nat} : (krD s p code).1 20 = s.1 20 := krV_20
theorem sv20 {s : DS} {q : List Nat} : (svS s q).1 20 = s.1 20 := by
  unfold svS
  (repeat' split) <;> rfl
theorem tm20 {s : DS} : (tmD s).1 20 = s.1 20 := by
  unfold tmD
  rw [kr20]
  split
  · exact sv20
  · rfl
theorem ok_siD {s : DS} (hd : okD s) (he : okE s) : okD (siD s) ∧ okE (siD s) ∧ (siD s).1 20 = s.1 20 + 1 := by
  have d1 := okD_cf (okD_q (q := s.1 20 + 1) hd)
  have g1 := okE_cf (okE_q (q := s.1 20 + 1) he)
  unfold siD
  split
  · split
    · obtain ⟨d2, g2⟩ := ok_tm d1 g1
      exact ⟨okD_fg d2, okE_fg g2, tm20⟩
    · exact ⟨okD_fg d1, okE_fg g1, rfl⟩
  · exact ⟨okD_q hd, okE_q he, rfl⟩
