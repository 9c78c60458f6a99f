/-! what a heap holds, to be read: views. iaR: an int array; grR: an array of int arrays -/
def hsub (h1 h : eH) : Prop := ∀ (b : Nat) (x : va_E), h1 b = some x → h b = some x
def iaR (a n : Nat) (r : List Nat) (h : eH) : Prop := ∃ f : Nat → Int32, h a = some (.inl (0, n, .inl f)) ∧ r.length ≤ n ∧ ∀ j, j < r.length → f j = nI (r.getD j 0)
def grR (a n rm : Nat) (C : Nat → List Nat) (h : eH) : Prop := ∃ g : Nat → Option Nat, h a = some (.inl (7, n, .inr (.inr (.inr (.inr g))))) ∧ ∀ i, i < n → ∃ b, g i = some b ∧ iaR b rm (C i) h
theorem iaR.up {a n : Nat} {r : List Nat} {h1 h : eH} (k : iaR a n r h1) (hs : hsub h1 h) : iaR a n r h := by
  obtain ⟨f, h2, h3⟩ := k
  exact ⟨f, hs _ _ h2, h3⟩
theorem grR.up {a n rm : Nat} {C : Nat → List Nat} {h1 h : eH} (k : grR a n rm C h1) (hs : hsub h1 h) : grR a n rm C h := by
  obtain ⟨g, h2, h3⟩ := k
  exact ⟨g, hs _ _ h2, fun i hi => let ⟨b, e1, e2⟩ := h3 i hi; ⟨b, e1, e2.up hs⟩⟩
theorem iaR.le {a n : Nat} {r : List Nat} {h : eH} (k : iaR a n r h) : r.length ≤ n := by
  obtain ⟨f, h2, h3, -⟩ := k
  exact h3
theorem iar_R {a n : Nat} {r : List Nat} {h : eH} (k : iar a n r h) : iaR a n r h := by
  obtain ⟨f, ⟨h1, h2⟩, h3⟩ := k
  exact ⟨f, pt_at h3, h1, h2⟩
theorem iar_V (L : List sA) (i : Nat) {a n : Nat} {r : List Nat} {h : eH} (hL : stars L h) (hi : L[i]? = some (iar a n r)) : iaR a n r h := by
  obtain ⟨h1, p, e⟩ := stars_part L i hL hi
  exact (iar_R p).up e
theorem grd_R {a n rm : Nat} {C : Nat → List Nat} {h : eH} (k : grd a n rm C h) : grR a n rm C h := by
  obtain ⟨BL, g, k⟩ := k
  refine ⟨adP BL, stars_at _ 0 k rfl, fun i hi => ?_⟩
  obtain ⟨b, hb⟩ := gOK_at g hi
  refine ⟨b, adP_at hb, ?_⟩
  obtain ⟨h1, p, e⟩ := lst_part _ 1 k rfl hb
  exact (iar_R p).up e
theorem grd_V (L : List sA) (i : Nat) {a n rm : Nat} {C : Nat → List Nat} {h : eH} (hL : stars L h) (hi : L[i]? = some (grd a n rm C)) : grR a n rm C h := by
  obtain ⟨h1, p, e⟩ := stars_part L i hL hi
  exact (grd_R p).up e
/-- a method that reads alone: the heap stays -/
def PC (M : MD) (av : List Value) (h : eH) (x : Option Value) (fr lo : Nat) : Prop := Ct M av h (fun r h' => r = x ∧ h' = h) fr lo 0 0
theorem PC.mk {M : MD} {av : List Value} {h : eH} {x : Option Value} {fr lo : Nat} (j : Nat) {ls : List (Option Value)} (hy : (plainName M.1.cls && notLaw M.1) = true) (hav : av.all (fun v => v.category == 1) = true) (hn : av.length ≤ M.2.2.1) (hls : av.map some ++ List.replicate j none = ls) (k : EE M fr lo 0 0 (fun r h' => r = x ∧ h' = h) 0 ls [] h 0 0) : PC M av h x fr lo := Ct.mk j hy hav hn hls k
section ER
variable {M : MD} {fr lo mc ms : Nat} {Q : Option Value → eH → Prop} {pc ce sl : Nat} {ls : List (Option Value)} {st : List Value} {h : eH}
theorem v_iald (np : Nat) {a n k x : Nat} {r : List Nat} (hR : iaR a n r h) (hd : decode M.2.1 pc = .ok (.iaload, 1)) (hn : pc + 1 = np) (hk : k < r.length) (hb : n < 2 ^ 31) (hx : r.getD k 0 = x) (kk : EE M fr lo mc ms Q np ls (.int (nI x) :: st) h ce sl) : EE M fr lo mc ms Q pc ls (.int (nI k) :: .ref a :: st) h ce sl := by
  obtain ⟨f, ha, hl, hf⟩ := hR
  subst hx
  exact e_iald np (v := nI (r.getD k 0)) hd hn ha (vp_in_nI (by omega) (by omega)) (by rw [nI_clamp (by omega)]; exact hf k hk) kk
theorem v_aald (np : Nat) {a n rm k : Nat} {C : Nat → List Nat} (hR : grR a n rm C h) (hd : decode M.2.1 pc = .ok (.aaload, 1)) (hn : pc + 1 = np) (hk : k < n) (hb : n < 2 ^ 31) (kk : ∀ b, iaR b rm (C k) h → EE M fr lo mc ms Q np ls (.ref b :: st) h ce sl) : EE M fr lo mc ms Q pc ls (.int (nI k) :: .ref a :: st) h ce sl := by
  obtain ⟨g, ha, hg⟩ := hR
  obtain ⟨b, e1, e2⟩ := hg k hk
  exact e_aald np (v := .ref b) hd hn ha rfl (Or.inr ⟨_, rfl⟩) (vp_in_nI (by omega) (by omega)) (by rw [nI_clamp (by omega), e1]; rfl) (kk b e2)
theorem u_callS (np : Nat) {index n fr' lo' : Nat} {M' : MD} {av st0 : List Value} {x : Option Value} (hd : decode M.2.1 pc = .ok (.invokestatic index, 3)) (hn : pc + 3 = np) (hC : CS M.1.cls index M' n) (hM : PC M' av h x fr' lo') (hlen : av.length = n) (hst : st0 = av.reverse ++ st) (hcat : (st.map fun v => v.category).sum ≤ 8) (hR : fr' + 1 ≤ fr ∧ 8 + (M'.2.2.1 + 11) + lo' ≤ lo) (hcs : ce ≤ mc ∧ sl ≤ ms) (kk : EE M fr lo mc ms Q np ls (x.toList ++ st) h ce sl) : EE M fr lo mc ms Q pc ls st0 h ce sl := by
  refine e_callS np (h2 := e_em) e_un_em e_dj_em hd hn hC hM hlen hst hcat ⟨hR, hcs⟩ (fun r h1' q hj' => ?_)
  obtain ⟨rfl, rfl⟩ := q
  rw [e_un_em]
  exact kk
theorem u_callI (np : Nat) {index n fr' lo' b : Nat} {M' : MD} {av st0 : List Value} {x : Option Value} (hd : decode M.2.1 pc = .ok (.invokespecial index, 3)) (hn : pc + 3 = np) (hC : CI M.1.cls index M' n) (hM : PC M' (.ref b :: av) h x fr' lo') (hlen : av.length = n) (hst : st0 = av.reverse ++ .ref b :: st) (hcat : (st.map fun v => v.category).sum ≤ 8) (hR : fr' + 1 ≤ fr ∧ 8 + (M'.2.2.1 + 11) + lo' ≤ lo) (hcs : ce ≤ mc ∧ sl ≤ ms) (kk : EE M fr lo mc ms Q np ls (x.toList ++ st) h ce sl) : EE M fr lo mc ms Q pc ls st0 h ce sl := by
  refine e_callI np (h2 := e_em) e_un_em e_dj_em hd hn hC hM hlen hst hcat ⟨hR, hcs⟩ (fun r h1' q hj' => ?_)
  obtain ⟨rfl, rfl⟩ := q
  rw [e_un_em]
  exact kk
theorem u_callV (np : Nat) {index n fr' lo' b ci : Nat} {fs : List Value} {M' : MD} {av st0 : List Value} {x : Option Value} (hd : decode M.2.1 pc = .ok (.invokevirtual index, 3)) (hn : pc + 3 = np) (hC : CV M.1.cls index M' ci n) (hb : h b = some (.inr (ci, fs))) (hM : PC M' (.ref b :: av) h x fr' lo') (hlen : av.length = n) (hst : st0 = av.reverse ++ .ref b :: st) (hcat : (st.map fun v => v.category).sum ≤ 8) (hR : fr' + 1 ≤ fr ∧ 8 + (M'.2.2.1 + 11) + lo' ≤ lo) (hcs : ce ≤ mc ∧ sl ≤ ms) (kk : EE M fr lo mc ms Q np ls (x.toList ++ st) h ce sl) : EE M fr lo mc ms Q pc ls st0 h ce sl := by
  refine e_callV np (h2 := e_em) e_un_em e_dj_em hd hn hC hb hM hlen hst hcat ⟨hR, hcs⟩ (fun r h1' q hj' => ?_)
  obtain ⟨rfl, rfl⟩ := q
  rw [e_un_em]
  exact kk
theorem u_callU (np : Nat) {index n fr' lo' b ci : Nat} {xc : String} {fs : List Value} {M' : MD} {av st0 : List Value} {x : Option Value} (hd : decode M.2.1 pc = .ok (.invokevirtual index, 3)) (hn : pc + 3 = np) (hC : CU M.1.cls index M' xc ci n) (hb : h b = some (.inr (ci, fs))) (hM : PC M' (.ref b :: av) h x fr' lo') (hlen : av.length = n) (hst : st0 = av.reverse ++ .ref b :: st) (hcat : (st.map fun v => v.category).sum ≤ 8) (hR : fr' + 1 ≤ fr ∧ 8 + (M'.2.2.1 + 11) + lo' ≤ lo) (hcs : ce ≤ mc ∧ sl ≤ ms) (kk : EE M fr lo mc ms Q np ls (x.toList ++ st) h ce sl) : EE M fr lo mc ms Q pc ls st0 h ce sl := by
  refine e_callU np (h2 := e_em) e_un_em e_dj_em hd hn hC hb hM hlen hst hcat ⟨hR, hcs⟩ (fun r h1' q hj' => ?_)
  obtain ⟨rfl, rfl⟩ := q
  rw [e_un_em]
  exact kk
end ER
/-! a device of the reference -/
abbrev dF (s : DS) : Nat → Nat := s.2.1
abbrev dM (s : DS) : Nat → Nat := s.2.2.1
abbrev dC (s : DS) : Nat → Nat := s.2.2.2.1
abbrev dL (s : DS) : Nat → List Nat := s.2.2.2.2.1
abbrev dS (s : DS) : Nat → List (Nat × List Nat) := s.2.2.2.2.2.1
abbrev dB (s : DS) : Nat → Bool := s.2.2.2.2.2.2
def insT (e : Nat × List Nat) : List (Nat × List Nat) → List (Nat × List Nat)
  | [] => [e]
  | x :: l => if e.1 < x.1 then e :: x :: l else x :: insT e l
def sortT (M : List (Nat × List Nat)) : List (Nat × List Nat) := M.foldl (fun a e => insT e a) []
def tbl (n : Nat) (f : Nat → Nat) : List Nat := (List.range n).map f
theorem tbl_len {n : Nat} {f : Nat → Nat} : (tbl n f).length = n := by simp [tbl]
theorem tbl_at {n k : Nat} {f : Nat → Nat} (h : k < n) : (tbl n f).getD k 0 = f k := by simp [tbl, List.getD, h]
theorem tbl_up {n k x : Nat} {f : Nat → Nat} : (tbl n f).set k x = tbl n (upN f k x) := by
  refine List.ext_getElem (by simp [tbl]) (fun i h1 h2 => ?_)
  by_cases e : k = i
  · subst e; simp [tbl, upN]
  · simp [tbl, upN, e, Ne.symm e]
theorem tbl_app {n : Nat} {f : Nat → Nat} : tbl (n + 1) f = tbl n f ++ [f n] := by simp [tbl, List.range_succ]
def kys (M : List (Nat × List Nat)) : List Nat := M.map (·.1)
def szs (M : List (Nat × List Nat)) : List Nat := M.map (·.2.length)
theorem kys_len {M : List (Nat × List Nat)} : (kys M).length = M.length := by simp [kys]
theorem szs_len {M : List (Nat × List Nat)} : (szs M).length = M.length := by simp [szs]
theorem kys_at {M : List (Nat × List Nat)} {k : Nat} : (kys M).getD k 0 = keM M k := by
  simp only [kys, keM, List.getD, List.getElem?_map]
  cases M[k]? <;> rfl
theorem szs_at {M : List (Nat × List Nat)} {k : Nat} : (szs M).getD k 0 = (rwM M k).length := by
  simp only [szs, rwM, List.getD, List.getElem?_map]
  cases M[k]? <;> rfl
abbrev rdF (A : Nat → Nat) (s : DS) : List Value := [.ref (A 0), .int (nI (dL s 6).length), .int (nI (s.1 20)), .int (bI (dB s 1)), .int (bI (dB s 2)), .int (nI (s.1 1)), .int (nI (s.1 2)), .int (nI (s.1 0)), .ref (A 8), .ref (A 9), .ref (A 10), .int (nI (s.1 8)), .ref (A 12), .ref (A 13), .ref (A 14), .ref (A 15), .int (nI (dS s 0).length), .ref (A 17), .ref (A 18), .ref (A 19), .int (nI (dS s 1).length), .ref (A 21), .ref (A 22), .ref (A 23), .int (nI (dS s 2).length), .ref (A 25), .ref (A 26), .ref (A 27), .int (nI ((dL s 4).length / 4)), .ref (A 29), .ref (A 30), .int (nI (dL s 5).length), .ref (A 32), .int (bI (dB s 0)), .int (nI (s.1 18)), .int (nI (dL s 7).length), .int (nI (s.1 17)), .ref (A 37)]
abbrev lmR (s : DS) (j : Nat) : List Nat := tbl (s.1 8) (fun i => dM s (i * 4 + j))
abbrev lmN (s : DS) : List Nat := tbl (s.1 8) (fun i => dM s (i * 4 + 1) + 1 - dM s (i * 4))
abbrev plL (s : DS) : List Nat := tbl 4 (fun k => (dL s k).length)
def qd4 (a b c e : List Nat) : Nat → List Nat
  | 0 => a
  | 1 => b
  | 2 => c
  | 3 => e
  | _ + 4 => []
theorem qd4_at {f : Nat → List Nat} : ∀ {k : Nat}, k < 4 → qd4 (f 0) (f 1) (f 2) (f 3) k = f k
  | 0, _ => rfl
  | 1, _ => rfl
  | 2, _ => rfl
  | 3, _ => rfl
  | k + 4, h => absurd h (by omega)
theorem grR.cg {a n rm : Nat} {C C' : Nat → List Nat} {h : eH} (k : grR a n rm C h) (e : ∀ i, i < n → C i = C' i) : grR a n rm C' h := by
  obtain ⟨g, h2, h3⟩ := k
  exact ⟨g, h2, fun i hi => let ⟨b, e1, e2⟩ := h3 i hi; ⟨b, e1, e i hi ▸ e2⟩⟩
abbrev rdA (A : Nat → Nat) (s : DS) : List sA := [iar (A 0) 256 (dL s 6), grd (A 8) 4 400 (qd4 (dL s 0) (dL s 1) (dL s 2) (dL s 3)), iar (A 9) 4 (tbl 4 (dF s)), iar (A 10) 4 [(dL s 0).length, (dL s 1).length, (dL s 2).length, (dL s 3).length], iar (A 12) 8 (lmR s 0), iar (A 13) 8 (lmN s), iar (A 14) 8 (lmR s 2), iar (A 15) 8 (lmR s 3), iar (A 17) 4 (kys (dS s 0)), iar (A 18) 4 (szs (dS s 0)), grd (A 19) 4 120 (rwM (dS s 0)), iar (A 21) 4 (kys (dS s 1)), iar (A 22) 4 (szs (dS s 1)), grd (A 23) 4 40 (rwM (dS s 1)), iar (A 25) 10 (kys (sortT (dS s 2))), iar (A 26) 10 (szs (sortT (dS s 2))), grd (A 27) 10 40 (rwM (sortT (dS s 2))), iar (A 29) 48 (dL s 4), iar (A 30) 9 (tbl 9 (dC s)), iar (A 32) 64 (dL s 5).reverse, iar (A 37) 260 (dL s 7)]
def rdv (d : Nat) (s : DS) : sA := fun h => ∃ A : Nat → Nat, stars (pt d (.inr (10, rdF A s)) :: rdA A s) h
def rdV (d : Nat) (s : DS) (h : eH) : Prop := ∃ A : Nat → Nat, h d = some (.inr (10, rdF A s)) ∧ iaR (A 0) 256 (dL s 6) h ∧ grR (A 8) 4 400 (dL s) h ∧ iaR (A 9) 4 (tbl 4 (dF s)) h ∧ iaR (A 10) 4 (plL s) h ∧ iaR (A 12) 8 (lmR s 0) h ∧ iaR (A 13) 8 (lmN s) h ∧ iaR (A 14) 8 (lmR s 2) h ∧ iaR (A 15) 8 (lmR s 3) h ∧ iaR (A 17) 4 (kys (dS s 0)) h ∧ iaR (A 18) 4 (szs (dS s 0)) h ∧ grR (A 19) 4 120 (rwM (dS s 0)) h ∧ iaR (A 21) 4 (kys (dS s 1)) h ∧ iaR (A 22) 4 (szs (dS s 1)) h ∧ grR (A 23) 4 40 (rwM (dS s 1)) h ∧ iaR (A 25) 10 (kys (sortT (dS s 2))) h ∧ iaR (A 26) 10 (szs (sortT (dS s 2))) h ∧ grR (A 27) 10 40 (rwM (sortT (dS s 2))) h ∧ iaR (A 29) 48 (dL s 4) h ∧ iaR (A 30) 9 (tbl 9 (dC s)) h ∧ iaR (A 32) 64 (dL s 5).reverse h ∧ iaR (A 37) 260 (dL s 7) h
theorem rdv_R {d : Nat} {s : DS} {h : eH} (k : rdv d s h) : rdV d s h := by
  obtain ⟨A, k⟩ := k
  exact ⟨A, stars_at _ 0 k rfl, iar_V _ 1 k rfl, (grd_V _ 2 k rfl).cg (fun i hi => qd4_at (f := dL s) hi), iar_V _ 3 k rfl, iar_V _ 4 k rfl, iar_V _ 5 k rfl, iar_V _ 6 k rfl, iar_V _ 7 k rfl, iar_V _ 8 k rfl, iar_V _ 9 k rfl, iar_V _ 10 k rfl, grd_V _ 11 k rfl, iar_V _ 12 k rfl, iar_V _ 13 k rfl, grd_V _ 14 k rfl, iar_V _ 15 k rfl, iar_V _ 16 k rfl, grd_V _ 17 k rfl, iar_V _ 18 k rfl, iar_V _ 19 k rfl, iar_V _ 20 k rfl, iar_V _ 21 k rfl⟩
theorem rdV.up {d : Nat} {s : DS} {h1 h : eH} (k : rdV d s h1) (u : hsub h1 h) : rdV d s h := by
  obtain ⟨A, k0, k1, k2, k3, k4, k5, k6, k7, k8, k9, k10, k11, k12, k13, k14, k15, k16, k17, k18, k19, k20, k21⟩ := k
  exact ⟨A, u _ _ k0, k1.up u, k2.up u, k3.up u, k4.up u, k5.up u, k6.up u, k7.up u, k8.up u, k9.up u, k10.up u, k11.up u, k12.up u, k13.up u, k14.up u, k15.up u, k16.up u, k17.up u, k18.up u, k19.up u, k20.up u, k21.up u⟩
theorem rdv_V (L : List sA) (i : Nat) {d : Nat} {s : DS} {h : eH} (hL : stars L h) (hi : L[i]? = some (rdv d s)) : rdV d s h := by
  obtain ⟨h1, p, e⟩ := stars_part L i hL hi
  exact (rdv_R p).up e
theorem rdv_O {d : Nat} {s : DS} : isO (rdv d s) d 10 := by
  rintro h ⟨A, k⟩
  exact ⟨_, stars_at _ 0 k rfl⟩
theorem rdv_o {d : Nat} {s : DS} {X : List sA} {h : eH} (k : stars (rdv d s :: X) h) : ∃ A : Nat → Nat, stars ((pt d (.inr (10, rdF A s)) :: rdA A s) ++ X) h := by
  obtain ⟨h1, h2, hu, hj, ⟨A, k⟩, q⟩ := k
  exact ⟨A, (stars_app _ X).mpr ⟨h1, h2, hu, hj, k, q⟩⟩
theorem rdv_c {d : Nat} {s : DS} {A : Nat → Nat} {X : List sA} {h : eH} (k : stars ((pt d (.inr (10, rdF A s)) :: rdA A s) ++ X) h) : stars (rdv d s :: X) h := stars_close k (fun h' k' => ⟨A, k'⟩)
