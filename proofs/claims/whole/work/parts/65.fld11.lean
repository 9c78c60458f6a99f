/-! contracts over more parts; the device's methods over the whole device -/
theorem Ct.frame {M : MD} {av : List Value} {h1 h2 h : eH} {Q : Option Value → eH → Prop} {fr lo mc ms : Nat} (hu : e_un h1 h2 = h) (hj : e_dj h1 h2) (k : Ct M av h1 Q fr lo mc ms) : Ct M av h (fun r h' => ∃ h1', Q r h1' ∧ e_dj h1' h2 ∧ e_un h1' h2 = h') fr lo mc ms := by
  subst hu
  intro l D cA sz
  refine MetFree.mono (k l D cA sz) ?_ (fun _ _ _ _ _ z => z) ?_
  · rintro a s ⟨e1, e2, e3, e4⟩
    exact ⟨e1, e2, fun b x hx => ⟨Or.inl ⟨x, hx⟩, (e3 b x (e_un_l hx)).2⟩, e4⟩
  · rintro a st o t ⟨e1, e2, R, e4⟩ ⟨⟨r, h', e, q, hrp, hz, hk⟩, L, fe, hL⟩
    subst e2
    have hin : ∀ q : Nat, e_A h1 st.heap.size q → e_A (e_un h1 h2) st.heap.size q := by
      rintro q (⟨x, hx⟩ | hq)
      · exact Or.inl ⟨x, e_un_l hx⟩
      · exact Or.inr hq
    have out2 : ∀ (b : Nat) (x : va_E), h2 b = some x → b < st.heap.size ∧ ¬ e_A h1 st.heap.size b := by
      intro b x hx
      have h9 : h1 b = none := (hj b).resolve_right (by rw [hx]; simp)
      have hl := (R b x (by rw [e_un, h9]; exact hx)).2.lt
      refine ⟨hl, ?_⟩
      rintro (⟨y, hy⟩ | hy)
      · rw [h9] at hy; cases hy
      · omega
    have hj' : e_dj h' h2 := by
      intro b
      cases hb : h2 b with
      | none => exact Or.inr rfl
      | some x =>
        left
        cases hb' : h' b with
        | none => rfl
        | some y => exact absurd (hrp b y hb').1 (out2 b x hb).2
    refine ⟨⟨r, e_un h' h2, e, ⟨h', q, hj', rfl⟩, ?_, hz, fun q h3 h4 => hk q h3 (fun z => h4 (hin q z))⟩, L, fe, fun q hq => hin _ (hL q hq)⟩
    intro b x hx
    cases hb : h' b with
    | some y =>
      rw [e_un, hb] at hx
      cases hx
      exact ⟨hin b (hrp b _ hb).1, (hrp b _ hb).2⟩
    | none =>
      rw [e_un, hb] at hx
      have h9 : h1 b = none := (hj b).resolve_right (by rw [show h2 b = some x from hx]; simp)
      have hR := R b x (by rw [e_un, h9]; exact hx)
      exact ⟨Or.inl ⟨x, by rw [e_un, h9]; exact hx⟩, hR.2.kept (hk b (out2 b x hx).1 (out2 b x hx).2)⟩
theorem CA.frame {M : MD} {av : List Value} {L1 : List sA} (L2 : List sA) {Q : Option Value → List sA → Prop} {fr lo mc ms : Nat} (k : CA M av L1 Q fr lo mc ms) : CA M av (L1 ++ L2) (fun r K => ∃ K1, Q r K1 ∧ K = K1 ++ L2) fr lo mc ms := by
  intro h hL
  obtain ⟨h1, h2, hu, hj, k1, k2⟩ := (stars_app L1 L2).mp hL
  exact Ct.mono (Ct.frame hu hj (k h1 k1)) (fun r h' ⟨h1', ⟨K1, q, s1⟩, dj, e⟩ => ⟨K1 ++ L2, ⟨K1, q, rfl⟩, (stars_app K1 L2).mpr ⟨h1', h2, e, dj, s1, k2⟩⟩)
theorem CA.via {ι : Type} {M : MD} {av : List Value} {L : ι → List sA} {L' : List sA} {Q : Option Value → List sA → Prop} {fr lo mc ms : Nat} (f : ∀ h, stars L' h → ∃ i : ι, stars (L i) h) (k : ∀ i, CA M av (L i) Q fr lo mc ms) : CA M av L' Q fr lo mc ms := fun h hL => let ⟨i, p⟩ := f h hL; k i h p
theorem CA.to {M : MD} {av : List Value} {L : List sA} {Q Q' : Option Value → List sA → Prop} {fr lo mc ms : Nat} (k : CA M av L Q fr lo mc ms) (f : ∀ r K h, Q r K → stars K h → ∃ K', Q' r K' ∧ stars K' h) : CA M av L Q' fr lo mc ms := fun h hL => Ct.mono (k h hL) (fun r h' ⟨K, q, s⟩ => f r K h' q s)
theorem CA.pre {M : MD} {av : List Value} {L L' : List sA} {Q : Option Value → List sA → Prop} {fr lo mc ms : Nat} (k : CA M av L Q fr lo mc ms) (f : ∀ h, stars L' h → stars L h) : CA M av L' Q fr lo mc ms := fun h hL => k h (f h hL)
theorem krV_20 {v : Nat → Nat} {p : List Nat} : krV v p 20 = v 20 := by
  unfold krV
  split <;> rfl
theorem DK_keepReply {d b code : Nat} {s : DS} {p : List Nat} (hct : ∀ i, i < 9 → s.2.2.2.1 i < 65536) (hcode : code < 256) : CA mX1_keepReply [.ref d, .ref b, .int (nI code)] [dev d s, row b 253 p] (fun r K => r = none ∧ K = [dev d (krD s p code), row b 253 p]) 2 48 0 0 := by
  obtain ⟨v, bf, lm, ct, L, S, B⟩ := s
  refine CA.via (fun h hL => dev_o hL) (fun A => ?_)
  refine CA.pre (CA.to (CA.frame [bank (A 3) 1 (bf 0) (L 0), bank (A 4) 1 (bf 1) (L 1), bank (A 5) 65535 (bf 2) (L 2), bank (A 6) 65535 (bf 3) (L 3), pI (A 7) 32 lm, shf (A 9) 4 120 (S 0), shf (A 10) 4 40 (S 1), shf (A 11) 10 40 (S 2), row (A 12) 48 (L 4), stn (A 15) (L 6) (v 20) (B 1) (B 2)] (k_X1_keepReply (A := A) (v := v) (df := B 0) (ct := ct) (lo := L 5) (rp := L 7) hct hcode)) ?_) (fun h hL => stars_ixn hL 15 rfl [0, 10, 11, 13, 14, 1, 2, 3, 4, 5, 6, 7, 8, 9, 12] (by decide) rfl)
  rintro r K h ⟨K1, ⟨rfl, rfl⟩, rfl⟩ k
  refine ⟨_, ⟨rfl, rfl⟩, ?_⟩
  refine dev_c (A := A) (v := krV v p) (ct := krC ct p code) (L := upL (upL L 5 (krL (L 5) p code)) 7 (krR (L 7) p)) ?_
  rw [krV_20]
  exact stars_ixn k 15 rfl [0, 5, 6, 7, 8, 9, 10, 11, 12, 13, 1, 2, 14, 3, 4] (by decide) rfl
theorem DK_countFrame {d : Nat} {s : DS} (hct : ∀ i, i < 9 → s.2.2.2.1 i < 65536) (hb : ∀ x ∈ s.2.2.2.2.1 6, x < 65536) (h1 : s.1 1 < 65536) : CA mX1_countFrame [.ref d] [dev d s] (fun r K => r = some (.int (bI (cfB (s.1 1) (s.2.2.2.2.1 6) (s.2.2.2.2.2.2 1)))) ∧ K = [dev d (cfD s)]) 2 44 0 0 := by
  obtain ⟨v, bf, lm, ct, L, S, B⟩ := s
  refine CA.via (fun h hL => dev_o hL) (fun A => ?_)
  refine CA.pre (CA.to (CA.frame [bank (A 3) 1 (bf 0) (L 0), bank (A 4) 1 (bf 1) (L 1), bank (A 5) 65535 (bf 2) (L 2), bank (A 6) 65535 (bf 3) (L 3), pI (A 7) 32 lm, shf (A 9) 4 120 (S 0), shf (A 10) 4 40 (S 1), shf (A 11) 10 40 (S 2), row (A 12) 48 (L 4), row (A 16) 253 (L 7)] (k_X1_countFrame (A := A) (v := v) (df := B 0) (ct := ct) (lo := L 5) (r := L 6) (q := v 20) (sp := B 1) (ov := B 2) hct hb h1)) ?_) (fun h hL => stars_ixn hL 14 rfl [0, 10, 11, 12, 1, 2, 3, 4, 5, 6, 7, 8, 9, 13] (by decide) rfl)
  rintro r K h ⟨K1, ⟨rfl, rfl⟩, rfl⟩ k
  refine ⟨_, ⟨rfl, rfl⟩, ?_⟩
  refine dev_c (A := A) (v := v) (ct := cfC ct (v 1) (L 6) (B 1) (B 2)) (L := upL L 5 (cfL (L 5) (v 1) (B 0) (L 6) (B 1) (B 2))) ?_
  exact stars_ixn k 14 rfl [0, 4, 5, 6, 7, 8, 9, 10, 11, 12, 1, 2, 3, 13] (by decide) rfl
theorem DK_applyRules {d : Nat} {s : DS} (hbv : ∀ k, ∀ x ∈ s.2.2.2.2.1 k, x < 65536) (hru : okR (s.2.2.2.2.1 4)) : CA mX1_applyRules [.ref d] [dev d s] (fun r K => r = none ∧ K = [dev d (arD s)]) 3 69 0 0 := by
  obtain ⟨v, bf, lm, ct, L, S, B⟩ := s
  refine CA.via (fun h hL => dev_o hL) (fun A => ?_)
  refine CA.via (ι := {KC : List (Nat × Nat) × (Nat → List Nat) // KC.1.map (fun e => (e.1, KC.2 e.2)) = S 1 ∧ (KC.1.map (·.2)).Nodup}) (L := fun KC => [shB (A 10) 4 40 KC.1.1, rws 40 KC.1.1 KC.1.2, dvO d A v (B 0), bank (A 3) 1 (bf 0) (L 0), bank (A 4) 1 (bf 1) (L 1), bank (A 5) 65535 (bf 2) (L 2), bank (A 6) 65535 (bf 3) (L 3), pI (A 7) 32 lm, shf (A 9) 4 120 (S 0), shf (A 11) 10 40 (S 2), row (A 12) 48 (L 4), pI (A 13) 9 ct, row (A 14) 64 (L 5), stn (A 15) (L 6) (v 20) (B 1) (B 2), row (A 16) 253 (L 7)]) (fun h hL => ?_) (fun KC => ?_)
  · obtain ⟨K, C, hM, k⟩ := shf_o (stars_ixn (L' := [shf (A 10) 4 40 (S 1), dvO d A v (B 0), bank (A 3) 1 (bf 0) (L 0), bank (A 4) 1 (bf 1) (L 1), bank (A 5) 65535 (bf 2) (L 2), bank (A 6) 65535 (bf 3) (L 3), pI (A 7) 32 lm, shf (A 9) 4 120 (S 0), shf (A 11) 10 40 (S 2), row (A 12) 48 (L 4), pI (A 13) 9 ct, row (A 14) 64 (L 5), stn (A 15) (L 6) (v 20) (B 1) (B 2), row (A 16) 253 (L 7)]) hL 14 rfl [7, 0, 1, 2, 3, 4, 5, 6, 8, 9, 10, 11, 12, 13] (by decide) rfl)
    have hn : (K.map (·.2)).Nodup := by
      obtain ⟨h3, p3, -⟩ := stars_part _ 1 (P := rws 40 K C) k rfl
      exact rws_nd K p3
    exact ⟨⟨(K, C), hM, hn⟩, k⟩
  obtain ⟨⟨K, C⟩, hM, hn⟩ := KC
  refine CA.pre (CA.to (CA.frame [pI (A 7) 32 lm, shf (A 9) 4 120 (S 0), shf (A 11) 10 40 (S 2), pI (A 13) 9 ct, row (A 14) 64 (L 5), stn (A 15) (L 6) (v 20) (B 1) (B 2), row (A 16) 253 (L 7)] (k_X1_applyRules (d := d) (A := A) (v := v) (df := B 0) (bf := bf) (bv := L) (K := K) (C := C) (ru := L 4) hbv hru)) ?_) (fun h hL => stars_ixn hL 15 rfl [2, 10, 3, 4, 5, 6, 0, 1, 7, 8, 9, 11, 12, 13, 14] (by decide) rfl)
  rintro r K9 h ⟨K1, ⟨rfl, rfl⟩, rfl⟩ k
  refine ⟨_, ⟨rfl, rfl⟩, ?_⟩
  have k2 := shf_c (M := arM bf (L 4) L (S 1) ((L 4).length / 4)) (by rw [ar_eq hn, hM]) (stars_ixn k 15 rfl [6, 7, 0, 2, 3, 4, 5, 8, 9, 10, 1, 11, 12, 13, 14] (by decide) rfl)
  refine dev_c (A := A) (v := v) (bf := bf) (lm := lm) (ct := ct) (L := fun k => if k < 4 then arV bf (L 4) L ((L 4).length / 4) k else L k) (S := upM S 1 (arM bf (L 4) L (S 1) ((L 4).length / 4))) (B := B) ?_
  exact stars_ixn k2 14 rfl [1, 2, 3, 4, 5, 6, 7, 0, 8, 9, 10, 11, 12, 13] (by decide) rfl
