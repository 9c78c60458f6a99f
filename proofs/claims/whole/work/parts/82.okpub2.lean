/-! shelves, rules, serving, the master's calls -/
theorem ix_none {M : List (Nat × List Nat)} {k : Nat} (hk : k < 65536) (hM : ∀ e ∈ M, e.1 < 65536) (h : ixM M (nI k) = none) : ∀ e ∈ M, e.1 ≠ k := by
  intro e he z
  unfold ixM at h
  rw [List.findIdx?_eq_none_iff] at h
  have := h e he
  rw [z] at this
  simp at this
theorem shO_app {cap rm kb k : Nat} {M : List (Nat × List Nat)} {r : List Nat} (h : shO cap rm kb M) (hkb : kb ≤ 65536) (hk : k < kb) (hr : r.length ≤ rm) (hl : M.length < cap) (hn : ixM M (nI k) = none) : shO cap rm kb (M ++ [(k, r)]) := by
  have hno := ix_none (by omega) (fun e he => Nat.lt_of_lt_of_le (h.2.1 e he).1 hkb) hn
  refine ⟨by rw [List.length_append, List.length_singleton]; omega, ?_, ?_⟩
  · intro e he
    rcases List.mem_append.mp he with z | z
    · exact h.2.1 e z
    · rw [List.mem_singleton.mp z]; exact ⟨hk, hr⟩
  · rw [List.map_append, List.nodup_append]
    refine ⟨h.2.2, by simp, ?_⟩
    intro a ha b hb
    obtain ⟨e, he, rfl⟩ := List.mem_map.mp ha
    simp at hb
    rw [hb]
    exact hno e he
theorem shO_fm {cap rm kb k : Nat} {M : List (Nat × List Nat)} {r : List Nat} (h : shO cap rm kb M) (hkb : kb ≤ 65536) (hk : k < kb) (hr : r.length ≤ rm) : shO cap rm kb (fmM cap M k r) := by
  unfold fmM
  split
  · exact shO_st h hr
  · rename_i hn
    split
    · rename_i hl; exact shO_app h hkb hk hr hl hn
    · exact h
theorem okM_fm {cap k B : Nat} {M : List (Nat × List Nat)} {r : List Nat} (h : okM B M) (hr : ∀ x ∈ r, x < B) : okM B (fmM cap M k r) := by
  unfold fmM
  split
  · exact okM_st h hr
  · split
    · intro e he
      rcases List.mem_append.mp he with z | z
      · exact h e z
      · rw [List.mem_singleton.mp z]; exact hr
    · exact h
/-- a shelf changed -/
theorem ok_shS0 {s : DS} {M : List (Nat × List Nat)} (od : okD s) (oe : okE s) (h1 : okM 65536 M) (h2 : shO 4 120 65536 M) : okD (shS s 0 M) ∧ okE (shS s 0 M) := by
  obtain ⟨v, bf, lm, ct, L, S, B⟩ := s
  obtain ⟨h8, hb, hct, hLs, hSs, hru, h18, hlo9, her9, hrp9, hT9, hK9, r⟩ := od
  obtain ⟨e1, e2, e3, ⟨eF, eQ, eT⟩, eL⟩ := oe
  exact ⟨⟨h8, hb, hct, hLs, upM_at (P := okM 65536) hSs h1, hru, h18, hlo9, her9, hrp9, hT9, hK9, r⟩, ⟨e1, e2, e3, ⟨h2, eQ, eT⟩, eL⟩⟩
theorem ok_shS1 {s : DS} {M : List (Nat × List Nat)} (od : okD s) (oe : okE s) (h1 : okM 65536 M) (h2 : shO 4 40 65536 M) : okD (shS s 1 M) ∧ okE (shS s 1 M) := by
  obtain ⟨v, bf, lm, ct, L, S, B⟩ := s
  obtain ⟨h8, hb, hct, hLs, hSs, hru, h18, hlo9, her9, hrp9, hT9, hK9, r⟩ := od
  obtain ⟨e1, e2, e3, ⟨eF, eQ, eT⟩, eL⟩ := oe
  exact ⟨⟨h8, hb, hct, hLs, upM_at (P := okM 65536) hSs h1, hru, h18, hlo9, her9, hrp9, hT9, hK9, r⟩, ⟨e1, e2, e3, ⟨eF, h2, eT⟩, eL⟩⟩
theorem ok_shS2 {s : DS} {M : List (Nat × List Nat)} (od : okD s) (oe : okE s) (h1 : okM 256 M) (h2 : shO 10 40 256 M) : okD (shS s 2 M) ∧ okE (shS s 2 M) := by
  obtain ⟨v, bf, lm, ct, L, S, B⟩ := s
  obtain ⟨h8, hb, hct, hLs, hSs, hru, h18, hlo9, her9, hrp9, hT9, hK9, r⟩ := od
  obtain ⟨e1, e2, e3, ⟨eF, eQ, eT⟩, eL⟩ := oe
  exact ⟨⟨h8, hb, hct, hLs, upM_at (P := okM 65536) hSs (fun e he x hx => Nat.lt_trans (h1 e he x hx) (by decide)), hru, h18, hlo9, her9, hrp9, h1, fun e he => (h2.2.1 e he).1, r⟩, ⟨e1, e2, e3, ⟨eF, eQ, h2⟩, eL⟩⟩
theorem ov_fl {t : Nat} {g : GS} {d k n : Int32} (h : okV (bnd t) g) : okV (bnd (t + 1)) (flG g d k n) := by
  unfold flG
  split
  · rename_i hc
    simp only [flC, Bool.and_eq_true] at hc
    obtain ⟨c1, c2, c3, -⟩ := hc
    have hi := dIn_cl (len6 h) c1
    have a2 := inI_cl (by decide) (by decide) c2
    have a3 := inI_cl (by decide) (by decide) c3
    obtain ⟨od, oe, o20⟩ := gD_ok h hi
    have hr : (List.replicate n.toNatClampNeg 0).length ≤ 120 := by rw [List.length_replicate]; exact a3.2
    have q := ok_shS0 od oe (okM_fm (cap := 4) (k := k.toNatClampNeg) (od.2.2.2.2.1 0) (rep_lt (n := n.toNatClampNeg) (by decide))) (shO_fm oe.2.2.2.1.1 (Nat.le_refl _) (by omega) hr)
    exact ov_dev h q.1 q.2 o20
  · exact ov_up h
theorem ov_qu {t : Nat} {g : GS} {d a : Int32} (h : okV (bnd t) g) : okV (bnd (t + 1)) (quG g d a) := by
  unfold quG
  split
  · rename_i hc
    simp only [quC, Bool.and_eq_true, decide_eq_true_eq, Option.isNone_iff_eq_none] at hc
    obtain ⟨c1, c2, c3, c4⟩ := hc
    have hi := dIn_cl (len6 h) c1
    obtain ⟨m, rfl, m1, m2⟩ := inI_nat (by decide) (by decide) c2
    have hcl : (nI m).toNatClampNeg = m := nI_clamp (by omega)
    obtain ⟨od, oe, o20⟩ := gD_ok h hi
    rw [hcl]
    have q := ok_shS1 (M := (gD g d.toNatClampNeg).2.2.2.2.2.1 1 ++ [(m, [])]) od oe (by
      intro e he
      rcases List.mem_append.mp he with z | z
      · exact od.2.2.2.2.1 1 e z
      · rw [List.mem_singleton.mp z]; intro x hx; cases hx) (shO_app oe.2.2.2.1.2.1 (Nat.le_refl _) (by omega) (Nat.zero_le _) c4 c3)
    exact ov_dev h q.1 q.2 o20
  · exact ov_up h
theorem ov_ps {t : Nat} {g : GS} {d a x : Int32} (h : okV (bnd t) g) : okV (bnd (t + 1)) (psG g d a x) := by
  unfold psG
  split
  · exact ov_up h
  · rename_i i hps
    unfold psI at hps
    split at hps
    · rename_i c1
      have hi := dIn_cl (len6 h) c1
      obtain ⟨od, oe, o20⟩ := gD_ok h hi
      split at hps
      · cases hps
      · rename_i j hj
        split at hps
        · rename_i hl
          cases hps
          have hm : x.toBitVec.toNat % 2 ^ 16 < 65536 := Nat.mod_lt _ (by decide)
          have q := ok_shS1 od oe (okM_st (i := i) (r := rwM ((gD g d.toNatClampNeg).2.2.2.2.2.1 1) i ++ [x.toBitVec.toNat % 2 ^ 16]) (od.2.2.2.2.1 1) (fun y hy => by
            rcases List.mem_append.mp hy with z | z
            · exact okM_at (od.2.2.2.2.1 1) y z
            · rw [List.mem_singleton.mp z]; exact hm)) (shO_st oe.2.2.2.1.2.1 (by rw [List.length_append, List.length_singleton]; omega))
          exact ov_dev h q.1 q.2 o20
        · cases hps
    · cases hps
theorem ov_nm {t : Nat} {g : GS} {d k : Int32} (h : okV (bnd t) g) : okV (bnd (t + 1)) (nmG g d k) := by
  unfold nmG
  split
  · rename_i hc
    simp only [nmC, Bool.and_eq_true, decide_eq_true_eq, Bool.or_eq_true] at hc
    obtain ⟨c1, c2, c3, -⟩ := hc
    have hi := dIn_cl (len6 h) c1
    have hk : k.toNatClampNeg < 256 := by
      rcases c3 with z | z
      · have := inI_cl (by decide) (by decide) z; omega
      · have := inI_cl (by decide) (by decide) z; omega
    obtain ⟨od, oe, o20⟩ := gD_ok h hi
    have q := ok_shS2 od oe (okM_fm (cap := 10) (k := k.toNatClampNeg) od.2.2.2.2.2.2.2.2.2.2.1 h.1.1) (shO_fm oe.2.2.2.1.2.2 (by decide) hk c2)
    exact ov_tape (ov_dev h q.1 q.2 o20) (fun x hx => by cases hx)
  · exact ov_up h
theorem okR_app {ru : List Nat} {k a b c : Nat} (h : okR ru) (hk : k < 7) (ha : a < 65536) (hb : b < 65536) (hc : c < 65536) : okR (ru ++ [k, a, b, c]) := by
  refine ⟨by rw [List.length_append]; have := h.1; simp; omega, ?_⟩
  intro n hn
  rw [List.length_append] at hn
  simp at hn
  have hm := h.1
  have hl : ∀ i, i < ru.length → (ru ++ [k, a, b, c]).getD i 0 = ru.getD i 0 := fun i hi => by simp [List.getD, List.getElem?_append_left hi]
  have hr : ∀ i, (ru ++ [k, a, b, c]).getD (ru.length + i) 0 = [k, a, b, c].getD i 0 := fun i => by simp [List.getD, List.getElem?_append_right]
  rcases Nat.lt_or_ge (4 * n + 3) ru.length with z | z
  · rw [hl _ (by omega), hl _ (by omega), hl _ (by omega), hl _ z]
    exact h.2 n z
  · have e : 4 * n = ru.length := by omega
    rw [e]
    have e0 := hr 0
    rw [Nat.add_zero] at e0
    rw [e0, hr 1, hr 2, hr 3]
    exact ⟨hk, ha, hb, hc⟩
theorem ov_ru {t : Nat} {g : GS} {d k a b c : Int32} (h : okV (bnd t) g) : okV (bnd (t + 1)) (ruG g d k a b c) := by
  unfold ruG
  split
  · rename_i hc
    simp only [ruC, Bool.and_eq_true, decide_eq_true_eq] at hc
    obtain ⟨c1, c2, c3, c4, c5, c6⟩ := hc
    have hi := dIn_cl (len6 h) c1
    have a2 := inI_cl (by decide) (by decide) c2
    have a3 := inI_cl (by decide) (by decide) c3
    have a4 := inI_cl (by decide) (by decide) c4
    have a5 := inI_cl (by decide) (by decide) c5
    obtain ⟨od, oe, o20⟩ := gD_ok h hi
    generalize gD g d.toNatClampNeg = s at od oe o20 c6
    obtain ⟨v, bf, lm, ct, L, S, B⟩ := s
    simp only at c6 o20
    refine ov_dev h ?_ ?_ o20
    · obtain ⟨h8, hb, hct, hLs, hSs, hru, r⟩ := od
      refine ⟨h8, hb, hct, upL_lt hLs (fun x hx => ?_), hSs, okR_app hru (by omega) (by omega) (by omega) (by omega), r⟩
      rcases List.mem_append.mp hx with z | z
      · exact hLs 4 x z
      · simp only [List.mem_cons, List.not_mem_nil, or_false] at z
        rcases z with z | z | z | z <;> rw [z] <;> omega
    · obtain ⟨e1, e2, ⟨e3, e4, e5, e6, e7⟩, e8, eL⟩ := oe
      refine ⟨upL_lo (by decide) e1, e2, ⟨?_, e4, e5, e6, e7⟩, e8, eL⟩
      show (L 4 ++ _).length ≤ 48
      have := od.2.2.2.2.2.1.1
      simp only at this
      rw [List.length_append]
      simp
      omega
  · exact ov_up h
theorem ov_se {t : Nat} {g : GS} {d : Int32} (h : okV (bnd t) g) : okV (bnd (t + 1)) (seG g d) := by
  unfold seG
  split
  · rename_i hc
    simp only [seC, Bool.and_eq_true] at hc
    have hi := dIn_cl (len6 h) hc.1
    obtain ⟨od, oe, o20⟩ := gD_ok h hi
    have q := ov_dev (i := d.toNatClampNeg) h (okD_sv od h.1.1) (okE_sv oe) (by rw [sv20]; exact o20)
    exact ⟨⟨(fun x hx => by cases hx), q.1.2⟩, q.2⟩
  · exact ov_up h
/-- the master changed -/
theorem ov_mas {t : Nat} {g : GS} {M : MS} (h : okV (bnd t) g) (hM : okMS (bnd (t + 1)) M) : okV (bnd (t + 1)) (stM3 g M) := by
  have hu := ov_up h
  exact ⟨⟨hu.1.1, hu.1.2.1, hu.1.2.2.1, hM, hu.1.2.2.2.2⟩, hu.2⟩
theorem ov_sg {t : Nat} {g : GS} {a b c : Int32} (h : okV (bnd t) g) : okV (bnd (t + 1)) (sgG g a b c) := by
  unfold sgG
  split
  · rename_i hc
    simp only [seB, Bool.and_eq_true] at hc
    have a1 := inI_cl (by decide) (by decide) hc.1
    have a2 := inI_cl (by decide) (by decide) hc.2.1
    have a3 := inI_cl (by decide) (by decide) hc.2.2
    have hm := (ov_up h).1.2.2.2.1
    refine ov_mas h ⟨⟨hm.1.1, hm.1.2.1, a1.2, a2.2, a3.2, hm.1.2.2.2.2.2⟩, hm.2⟩
  · exact ov_up h
theorem ov_rq {t : Nat} {g : GS} {a : Int32} (h : okV (bnd t) g) : okV (bnd (t + 1)) (rqG g a) := by
  unfold rqG
  split
  · rename_i hc
    simp only [rqC, Bool.and_eq_true] at hc
    have a1 := inI_cl (by decide) (by decide) hc.1
    have a2 := jin_t0 hc.2.1
    have hM := ok_ar (ad := a.toNatClampNeg) (p := g.1) h.1.2.2.2.1 (bnd_m (t := t)) (by show 8 * t + 1 ≤ 8 * (t + 1); omega) (by omega) h.1.1 a2
    have q := ov_mas h hM
    exact ov_tape q (fun x hx => by cases hx)
  · exact ov_up h
theorem ov_sn {t : Nat} {g : GS} {e a : Int32} (h : okV (bnd t) g) : okV (bnd (t + 1)) (snG g e a) := by
  unfold snG
  split
  · rename_i hc
    simp only [snC, Bool.and_eq_true, decide_eq_true_eq] at hc
    obtain ⟨c1, c2, c3, c4⟩ := hc
    have a1 := inI_cl (by decide) (by decide) c1
    have a2 := inI_cl (by decide) (by decide) c2
    have a3 := jin_t0 c3
    have hu := ov_up h
    obtain ⟨hv, hQ, hS, hC, he, l1, l2, l3, l4⟩ := hu.1.2.2.2.1
    have hck : g.2.2.2.2.2 ≤ t := h.1.2.2.2.2.1
    refine ⟨⟨(fun x hx => by cases hx), hu.1.2.1, hu.1.2.2.1, ⟨hv, hQ, hS, ?_, he, l1, l2, ?_, l4⟩, hu.1.2.2.2.2⟩, hu.2⟩
    · intro s hs
      rcases List.mem_append.mp hs with z | z
      · exact hC s z
      · rw [List.mem_singleton.mp z]
        refine ⟨h.1.1, a3, a1, by show a.toNatClampNeg < 248; omega, ?_, (fun k hk => by cases hk)⟩
        show g.2.2.2.2.2 + e.toNatClampNeg ≤ t + 1 + 30000
        omega
    · show (g.2.2.2.2.1.2.2.2.1 ++ [_]).length ≤ 8
      rw [List.length_append, List.length_singleton]; omega
  · exact ov_up h
theorem teL_ok {hs : List (Nat × Nat)} {k x : Nat} {P : Nat × Nat → Prop} (h : ∀ e ∈ hs, P e) (hk : P (k, x)) : ∀ e ∈ teL hs k x, P e := by
  intro e he
  unfold teL at he
  split at he
  · split at he
    · rcases List.mem_append.mp he with z | z
      · exact h e z
      · rw [List.mem_singleton.mp z]; exact hk
    · exact h e he
  · rcases List.mem_or_eq_of_mem_set he with z | z
    · exact h e z
    · rw [z]; exact hk
theorem teL_len {hs : List (Nat × Nat)} {k x : Nat} (h : hs.length ≤ 64) : (teL hs k x).length ≤ 64 := by
  unfold teL
  split
  · split
    · rw [List.length_append, List.length_singleton]; omega
    · exact h
  · rw [List.length_set]; exact h
theorem ov_hm {t : Nat} {g : GS} {n x : Int32} (h : okV (bnd t) g) : okV (bnd (t + 1)) (hmG g n x) := by
  unfold hmG
  split
  · rename_i hc
    simp only [hmB, Bool.and_eq_true] at hc
    have a1 := inI_cl (by decide) (by decide) hc.1
    have a2 := inI_cl (by decide) (by decide) hc.2
    have hu := ov_up h
    obtain ⟨w0, w1, wh, wl⟩ := hu.1.2.2.1
    have w8 : g.2.2.2.1.2.1 8 ≤ t := h.1.2.2.1.2.1.2.2.2.2.2.2.2.1
    refine ⟨⟨hu.1.1, hu.1.2.1, ⟨w0, w1, teL_ok wh ⟨?_, a2.2⟩, teL_len wl⟩, hu.1.2.2.2⟩, hu.2⟩
    show g.2.2.2.1.2.1 8 + n.toNatClampNeg ≤ t + 1 + 2000
    omega
  · exact ov_up h
theorem ov_tkG {t : Nat} {g : GS} (h : okV (bnd t) g) : okV (bnd (t + 1)) (tkG g) := by
  have hm := (ov_up h).1.2.2.2.1
  obtain ⟨hv, hQ, hS, hC, he, l1, l2, l3, l4⟩ := hm
  refine ov_mas h ⟨hv, hQ, fun e hs => hS e (List.mem_of_mem_tail hs), hC, he, l1, ?_, l3, l4⟩
  show g.2.2.2.2.1.2.2.1.tail.length ≤ 32
  rw [List.length_tail]; omega
theorem ov_0 : okV (bnd 14) gs0 := by
  have e0 : ∀ B : Nat, ∀ x ∈ ([] : List Nat), x < B := fun B x hx => by cases hx
  refine ⟨⟨e0 _, (fun s hs => by cases hs), ⟨e0 _, ⟨by decide, by decide, by decide, by decide, by decide, by decide, by decide, by decide, by decide, by decide⟩, (fun e he => by cases he), by decide⟩, ⟨⟨by decide, by decide, by decide, by decide, by decide, by decide, by decide, by decide, by decide⟩, (fun e he => by cases he), (fun e he => by cases he), (fun e he => by cases he), e0 _, by decide, by decide, by decide, by decide⟩, by decide, by decide⟩, (fun s hs => by cases hs)⟩
