/-! small rows for walks -/
theorem e_ne_oa {h : eH} {b a : Nat} {x : Nat × List Value} {y : ClassId × vp_A} (hb : h b = some (.inr x)) (ha : h a = some (.inl y)) : b ≠ a := fun e => by rw [e, ha] at hb; cases hb
theorem e_ne_ao {h : eH} {b a : Nat} {x : Nat × List Value} {y : ClassId × vp_A} (hb : h b = some (.inl y)) (ha : h a = some (.inr x)) : b ≠ a := fun e => by rw [e, ha] at hb; cases hb
theorem e_ne_c {h : eH} {b a i j : Nat} {x y : List Value} (hb : h b = some (.inr (i, x))) (ha : h a = some (.inr (j, y))) (n : i ≠ j) : b ≠ a := fun e => by rw [e, ha] at hb; cases hb; exact n rfl
theorem e_ne_ir {h : eH} {b a n m : Nat} {t1 t2 : ClassId} {f : Nat → Int32} {g : Nat → Option Nat} (hb : h b = some (.inl (t1, n, .inl f))) (ha : h a = some (.inl (t2, m, .inr (.inr (.inr (.inr g)))))) : b ≠ a := fun e => by rw [e, ha] at hb; cases hb
theorem e_ne_new {h : eH} {b q : Nat} {x : va_E} (hb : h b = some x) (hq : h q = none) : b ≠ q := fun e => by rw [e, hq] at hb; cases hb
theorem e_iast' {M : MD} {fr lo mc ms : Nat} {Q : Option Value → eH → Prop} {pc ce sl : Nat} {ls : List (Option Value)} {st : List Value} {h : eH} (np : Nat) {a n k : Nat} {f : Nat → Int32} {i x : Int32} (hd : decode M.2.1 pc = .ok (.iastore, 1)) (hn : pc + 1 = np) (ha : h a = some (.inl (0, n, .inl f))) (hi : vp_in i n) (hk : i.toNatClampNeg = k) (kk : EE M fr lo mc ms Q np ls st (e_up h a (.inl (0, n, .inl (upd f k x)))) ce sl) : EE M fr lo mc ms Q pc ls (.int x :: .int i :: .ref a :: st) h ce sl := by
  subst hk
  exact e_iast np hd hn ha hi kk
theorem j_eq_t {a b : Nat} (ha : a < 2 ^ 31) (hb : b < 2 ^ 31) (h : nI a = nI b) : a = b := by
  simp only [nI_eq ha hb, nI_leI ha hb, nI_ltI ha hb, nI_eq hb ha, nI_leI hb ha, nI_ltI hb ha] at h
  omega
theorem j_eq_f {a b : Nat} (ha : a < 2 ^ 31) (hb : b < 2 ^ 31) (h : ¬ nI a = nI b) : a ≠ b := by
  simp only [nI_eq ha hb, nI_leI ha hb, nI_ltI ha hb, nI_eq hb ha, nI_leI hb ha, nI_ltI hb ha] at h
  omega
theorem j_eq0_t {a : Nat} (ha : a < 2 ^ 31) (h : nI a = 0) : a = 0 := by
  have hb : (0 : Nat) < 2 ^ 31 := by decide
  rw [← nI_0] at h
  simp only [nI_eq ha hb, nI_leI ha hb, nI_ltI ha hb, nI_eq hb ha, nI_leI hb ha, nI_ltI hb ha] at h
  omega
theorem j_eq0_f {a : Nat} (ha : a < 2 ^ 31) (h : ¬ nI a = 0) : a ≠ 0 := by
  have hb : (0 : Nat) < 2 ^ 31 := by decide
  rw [← nI_0] at h
  simp only [nI_eq ha hb, nI_leI ha hb, nI_ltI ha hb, nI_eq hb ha, nI_leI hb ha, nI_ltI hb ha] at h
  omega
theorem j_ne_t {a b : Nat} (ha : a < 2 ^ 31) (hb : b < 2 ^ 31) (h : ¬ nI a = nI b) : a ≠ b := by
  simp only [nI_eq ha hb, nI_leI ha hb, nI_ltI ha hb, nI_eq hb ha, nI_leI hb ha, nI_ltI hb ha] at h
  omega
theorem j_ne_f {a b : Nat} (ha : a < 2 ^ 31) (hb : b < 2 ^ 31) (h : nI a = nI b) : a = b := by
  simp only [nI_eq ha hb, nI_leI ha hb, nI_ltI ha hb, nI_eq hb ha, nI_leI hb ha, nI_ltI hb ha] at h
  omega
theorem j_ne0_t {a : Nat} (ha : a < 2 ^ 31) (h : ¬ nI a = 0) : a ≠ 0 := by
  have hb : (0 : Nat) < 2 ^ 31 := by decide
  rw [← nI_0] at h
  simp only [nI_eq ha hb, nI_leI ha hb, nI_ltI ha hb, nI_eq hb ha, nI_leI hb ha, nI_ltI hb ha] at h
  omega
theorem j_ne0_f {a : Nat} (ha : a < 2 ^ 31) (h : nI a = 0) : a = 0 := by
  have hb : (0 : Nat) < 2 ^ 31 := by decide
  rw [← nI_0] at h
  simp only [nI_eq ha hb, nI_leI ha hb, nI_ltI ha hb, nI_eq hb ha, nI_leI hb ha, nI_ltI hb ha] at h
  omega
theorem j_lt_t {a b : Nat} (ha : a < 2 ^ 31) (hb : b < 2 ^ 31) (h : nI a < nI b) : a < b := by
  simp only [nI_eq ha hb, nI_leI ha hb, nI_ltI ha hb, nI_eq hb ha, nI_leI hb ha, nI_ltI hb ha] at h
  omega
theorem j_lt_f {a b : Nat} (ha : a < 2 ^ 31) (hb : b < 2 ^ 31) (h : ¬ nI a < nI b) : b ≤ a := by
  simp only [nI_eq ha hb, nI_leI ha hb, nI_ltI ha hb, nI_eq hb ha, nI_leI hb ha, nI_ltI hb ha] at h
  omega
theorem j_lt0_t {a : Nat} (ha : a < 2 ^ 31) (h : nI a < 0) : a < 0 := by
  have hb : (0 : Nat) < 2 ^ 31 := by decide
  rw [← nI_0] at h
  simp only [nI_eq ha hb, nI_leI ha hb, nI_ltI ha hb, nI_eq hb ha, nI_leI hb ha, nI_ltI hb ha] at h
  omega
theorem j_lt0_f {a : Nat} (ha : a < 2 ^ 31) (h : ¬ nI a < 0) : 0 ≤ a := by
  have hb : (0 : Nat) < 2 ^ 31 := by decide
  rw [← nI_0] at h
  simp only [nI_eq ha hb, nI_leI ha hb, nI_ltI ha hb, nI_eq hb ha, nI_leI hb ha, nI_ltI hb ha] at h
  omega
theorem j_ge_t {a b : Nat} (ha : a < 2 ^ 31) (hb : b < 2 ^ 31) (h : nI b ≤ nI a) : b ≤ a := by
  simp only [nI_eq ha hb, nI_leI ha hb, nI_ltI ha hb, nI_eq hb ha, nI_leI hb ha, nI_ltI hb ha] at h
  omega
theorem j_ge_f {a b : Nat} (ha : a < 2 ^ 31) (hb : b < 2 ^ 31) (h : ¬ nI b ≤ nI a) : a < b := by
  simp only [nI_eq ha hb, nI_leI ha hb, nI_ltI ha hb, nI_eq hb ha, nI_leI hb ha, nI_ltI hb ha] at h
  omega
theorem j_ge0_t {a : Nat} (ha : a < 2 ^ 31) (h : 0 ≤ nI a) : 0 ≤ a := by
  have hb : (0 : Nat) < 2 ^ 31 := by decide
  rw [← nI_0] at h
  simp only [nI_eq ha hb, nI_leI ha hb, nI_ltI ha hb, nI_eq hb ha, nI_leI hb ha, nI_ltI hb ha] at h
  omega
theorem j_ge0_f {a : Nat} (ha : a < 2 ^ 31) (h : ¬ 0 ≤ nI a) : a < 0 := by
  have hb : (0 : Nat) < 2 ^ 31 := by decide
  rw [← nI_0] at h
  simp only [nI_eq ha hb, nI_leI ha hb, nI_ltI ha hb, nI_eq hb ha, nI_leI hb ha, nI_ltI hb ha] at h
  omega
theorem j_gt_t {a b : Nat} (ha : a < 2 ^ 31) (hb : b < 2 ^ 31) (h : nI b < nI a) : b < a := by
  simp only [nI_eq ha hb, nI_leI ha hb, nI_ltI ha hb, nI_eq hb ha, nI_leI hb ha, nI_ltI hb ha] at h
  omega
theorem j_gt_f {a b : Nat} (ha : a < 2 ^ 31) (hb : b < 2 ^ 31) (h : ¬ nI b < nI a) : a ≤ b := by
  simp only [nI_eq ha hb, nI_leI ha hb, nI_ltI ha hb, nI_eq hb ha, nI_leI hb ha, nI_ltI hb ha] at h
  omega
theorem j_gt0_t {a : Nat} (ha : a < 2 ^ 31) (h : 0 < nI a) : 0 < a := by
  have hb : (0 : Nat) < 2 ^ 31 := by decide
  rw [← nI_0] at h
  simp only [nI_eq ha hb, nI_leI ha hb, nI_ltI ha hb, nI_eq hb ha, nI_leI hb ha, nI_ltI hb ha] at h
  omega
theorem j_gt0_f {a : Nat} (ha : a < 2 ^ 31) (h : ¬ 0 < nI a) : a ≤ 0 := by
  have hb : (0 : Nat) < 2 ^ 31 := by decide
  rw [← nI_0] at h
  simp only [nI_eq ha hb, nI_leI ha hb, nI_ltI ha hb, nI_eq hb ha, nI_leI hb ha, nI_ltI hb ha] at h
  omega
theorem j_le_t {a b : Nat} (ha : a < 2 ^ 31) (hb : b < 2 ^ 31) (h : nI a ≤ nI b) : a ≤ b := by
  simp only [nI_eq ha hb, nI_leI ha hb, nI_ltI ha hb, nI_eq hb ha, nI_leI hb ha, nI_ltI hb ha] at h
  omega
theorem j_le_f {a b : Nat} (ha : a < 2 ^ 31) (hb : b < 2 ^ 31) (h : ¬ nI a ≤ nI b) : b < a := by
  simp only [nI_eq ha hb, nI_leI ha hb, nI_ltI ha hb, nI_eq hb ha, nI_leI hb ha, nI_ltI hb ha] at h
  omega
theorem j_le0_t {a : Nat} (ha : a < 2 ^ 31) (h : nI a ≤ 0) : a ≤ 0 := by
  have hb : (0 : Nat) < 2 ^ 31 := by decide
  rw [← nI_0] at h
  simp only [nI_eq ha hb, nI_leI ha hb, nI_ltI ha hb, nI_eq hb ha, nI_leI hb ha, nI_ltI hb ha] at h
  omega
theorem j_le0_f {a : Nat} (ha : a < 2 ^ 31) (h : ¬ nI a ≤ 0) : 0 < a := by
  have hb : (0 : Nat) < 2 ^ 31 := by decide
  rw [← nI_0] at h
  simp only [nI_eq ha hb, nI_leI ha hb, nI_ltI ha hb, nI_eq hb ha, nI_leI hb ha, nI_ltI hb ha] at h
  omega
theorem Ct.mk {M : MD} {av : List Value} {h : eH} {Q : Option Value → eH → Prop} {fr lo mc ms : Nat} (j : Nat) {ls : List (Option Value)} (hy : (plainName M.1.cls && notLaw M.1) = true) (hav : av.all (fun v => v.category == 1) = true) (hn : av.length ≤ M.2.2.1) (hls : av.map some ++ List.replicate j none = ls) (k : EE M fr lo mc ms Q 0 ls [] h 0 0) : Ct M av h Q fr lo mc ms := by
  refine Ct.of ls hy (fun v hv => by simpa using List.all_eq_true.mp hav v hv) hn ?_ k
  intro i v hi
  subst hls
  by_cases q : i < av.length
  · rw [List.getElem?_append_left (by simpa using q), List.getElem?_map] at hi
    cases e : av[i]? with
    | none => rw [e] at hi; simp at hi
    | some w => rw [e] at hi; simp at hi; rw [hi]
  · rw [List.getElem?_append_right (by simpa using q)] at hi
    have h2 := List.mem_of_getElem? hi
    simp at h2
/-- a Row of the class: object a, cells at c, room for cap, the numbers r -/
def rwAt (h : eH) (a c cap : Nat) (r : List Nat) : Prop := ∃ f : Nat → Int32, h a = some (.inr (4, [.ref c, .int (nI r.length)])) ∧ h c = some (.inl (0, cap, .inl f)) ∧ r.length ≤ cap ∧ cap < 65536 ∧ ∀ i, i < r.length → f i = nI (r.getD i 0)
/-- nothing but the cells of S has changed -/
def sm (h h' : eH) (S : List Nat) : Prop := ∀ b, b ∉ S → h' b = h b
theorem sm.rf {h : eH} {S : List Nat} : sm h h S := fun _ _ => rfl
theorem sm.up {h h' : eH} {S : List Nat} {a : Nat} {x : va_E} (k : sm h h' S) (ha : a ∈ S) : sm h (e_up h' a x) S := fun b hb => (e_up_n (fun e => hb (by rw [e]; exact ha))).trans (k b hb)
theorem sm.tr {h h' h'' : eH} {S : List Nat} (k : sm h h' S) (k' : sm h' h'' S) : sm h h'' S := fun b hb => (k' b hb).trans (k b hb)
theorem gd_app {r : List Nat} {v i : Nat} (hi : i < r.length) : (r ++ [v]).getD i 0 = r.getD i 0 := by simp [List.getD, List.getElem?_append_left hi]
theorem gd_last {r : List Nat} {v : Nat} : (r ++ [v]).getD r.length 0 = v := by simp [List.getD]
theorem gd_out {r : List Nat} {i : Nat} (hi : r.length ≤ i) : r.getD i 0 = 0 := by simp [List.getD, List.getElem?_eq_none hi]
theorem rwAt.push {h : eH} {a c cap v : Nat} {r : List Nat} {f : Nat → Int32} (ha : h a = some (.inr (4, [.ref c, .int (nI r.length)]))) (hc : h c = some (.inl (0, cap, .inl f))) (hlt : r.length < cap) (hcap : cap < 65536) (hf : ∀ i, i < r.length → f i = nI (r.getD i 0)) : rwAt (e_up (e_up h c (.inl (0, cap, .inl (upd f r.length (nI v))))) a (.inr (4, [.ref c, .int (nI (r.length + 1))]))) a c cap (r ++ [v]) := by
  refine ⟨upd f r.length (nI v), ?_, ?_, ?_, hcap, ?_⟩
  · rw [e_up_s, List.length_append]; rfl
  · rw [e_up_n (e_ne_ao hc ha), e_up_s]
  · rw [List.length_append]; show r.length + 1 ≤ cap; omega
  · intro i hi
    rw [List.length_append] at hi
    by_cases e : i = r.length
    · subst e
      rw [pk_us, gd_last]
    · have h2 : i < r.length := by have : i < r.length + 1 := hi; omega
      rw [pk_un e, gd_app h2, hf i h2]
theorem Ct.mono {M : MD} {av : List Value} {h : eH} {Q Q' : Option Value → eH → Prop} {fr lo mc ms : Nat} (k : Ct M av h Q fr lo mc ms) (f : ∀ r h', Q r h' → Q' r h') : Ct M av h Q' fr lo mc ms := by
  intro l D cA sz
  refine MetFree.mono (k l D cA sz) (fun _ _ z => z) (fun _ _ _ _ _ z => z) ?_
  rintro a st o t - ⟨⟨r, h', e, q, z⟩, w⟩
  exact ⟨⟨r, h', e, f r h' q, z⟩, w⟩
/-- a Row as a part -/
def row (a cap : Nat) (r : List Nat) : sA := fun h => ∃ c, rwAt h a c cap r ∧ ∀ b, b ≠ a → b ≠ c → h b = none
theorem row_O {a cap : Nat} {r : List Nat} : isO (row a cap r) a 4 := by
  rintro h ⟨c, ⟨f, ha, -⟩, -⟩
  exact ⟨_, ha⟩
theorem row_to {h h' : eH} {a c cap : Nat} {r' : List Nat} (hn : ∀ b, b ≠ a → b ≠ c → h b = none) (hr : rwAt h' a c cap r') (k : sm h h' [a, c]) : row a cap r' h' := ⟨c, hr, fun b h1 h2 => (k b (by simp [h1, h2])).trans (hn b h1 h2)⟩
