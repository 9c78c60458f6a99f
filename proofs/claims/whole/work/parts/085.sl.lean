/-! heaps in parts: assertions, side by side -/
abbrev sA : Type := eH → Prop
def e_em : eH := fun _ => none
def star (P R : sA) : sA := fun h => ∃ h1 h2, e_un h1 h2 = h ∧ e_dj h1 h2 ∧ P h1 ∧ R h2
def stars : List sA → sA
  | [] => fun h => h = e_em
  | P :: L => star P (stars L)
/-- one cell -/
def pt (a : Nat) (x : va_E) : sA := fun h => h = e_up e_em a x
theorem e_dj.symm {h1 h2 : eH} (h : e_dj h1 h2) : e_dj h2 h1 := fun a => (h a).symm
theorem e_un_comm {h1 h2 : eH} (h : e_dj h1 h2) : e_un h1 h2 = e_un h2 h1 := by
  funext a
  cases e1 : h1 a <;> cases e2 : h2 a <;> simp only [e_un, e1, e2]
  rcases h a with q | q
  · rw [e1] at q; cases q
  · rw [e2] at q; cases q
theorem e_un_assoc {a b c : eH} : e_un (e_un a b) c = e_un a (e_un b c) := by
  funext x
  cases e1 : a x <;> cases e2 : b x <;> simp only [e_un, e1, e2]
theorem e_un_none {a b : eH} {x : Nat} : e_un a b x = none ↔ a x = none ∧ b x = none := by
  cases e1 : a x <;> cases e2 : b x <;> simp [e_un, e1, e2]
theorem e_dj_un {a b c : eH} : e_dj (e_un a b) c ↔ e_dj a c ∧ e_dj b c := by
  constructor
  · intro h
    refine ⟨fun x => ?_, fun x => ?_⟩
    · rcases h x with q | q
      · exact Or.inl (e_un_none.mp q).1
      · exact Or.inr q
    · rcases h x with q | q
      · exact Or.inl (e_un_none.mp q).2
      · exact Or.inr q
  · rintro ⟨h1, h2⟩ x
    rcases h1 x with q | q
    · rcases h2 x with q2 | q2
      · exact Or.inl (e_un_none.mpr ⟨q, q2⟩)
      · exact Or.inr q2
    · exact Or.inr q
theorem e_dj_un' {a b c : eH} : e_dj a (e_un b c) ↔ e_dj a b ∧ e_dj a c := by
  constructor
  · intro h
    have := e_dj_un.mp h.symm
    exact ⟨this.1.symm, this.2.symm⟩
  · rintro ⟨h1, h2⟩
    exact (e_dj_un.mpr ⟨h1.symm, h2.symm⟩).symm
theorem e_un_em {h : eH} : e_un h e_em = h := by
  funext x
  cases e : h x <;> simp only [e_un, e, e_em]
theorem e_em_un {h : eH} : e_un e_em h = h := rfl
theorem e_dj_em {h : eH} : e_dj h e_em := fun _ => Or.inr rfl
theorem star_comm {P R : sA} {h : eH} (k : star P R h) : star R P h := by
  obtain ⟨h1, h2, hu, hj, a, b⟩ := k
  exact ⟨h2, h1, by rw [← hu, e_un_comm hj], hj.symm, b, a⟩
theorem star_assoc {P R S : sA} {h : eH} (k : star P (star R S) h) : star (star P R) S h := by
  obtain ⟨h1, h2, hu, hj, a, h3, h4, hu2, hj2, b, c⟩ := k
  subst hu2; subst hu
  have q := e_dj_un'.mp hj
  exact ⟨e_un h1 h3, h4, e_un_assoc, e_dj_un.mpr ⟨q.2, hj2⟩, ⟨h1, h3, rfl, q.1, a, b⟩, c⟩
theorem star_assoc' {P R S : sA} {h : eH} (k : star (star P R) S h) : star P (star R S) h := by
  obtain ⟨h1, h2, hu, hj, ⟨h3, h4, hu2, hj2, a, b⟩, c⟩ := k
  subst hu2; subst hu
  have q := e_dj_un.mp hj
  exact ⟨h3, e_un h4 h2, e_un_assoc.symm, e_dj_un'.mpr ⟨hj2, q.1⟩, a, h4, h2, rfl, q.2, b, c⟩
theorem star_mono {P P' R R' : sA} {h : eH} (k : star P R h) (f : ∀ h, P h → P' h) (g : ∀ h, R h → R' h) : star P' R' h := by
  obtain ⟨h1, h2, hu, hj, a, b⟩ := k
  exact ⟨h1, h2, hu, hj, f h1 a, g h2 b⟩
theorem stars_app : ∀ (L1 L2 : List sA) {h : eH}, stars (L1 ++ L2) h ↔ star (stars L1) (stars L2) h
  | [], L2, h => by
    constructor
    · intro k
      exact ⟨e_em, h, rfl, fun _ => Or.inl rfl, rfl, k⟩
    · rintro ⟨h1, h2, hu, -, rfl, b⟩
      rw [e_em_un] at hu
      rw [← hu]; exact b
  | P :: L1, L2, h => by
    constructor
    · intro k
      have k2 : star P (star (stars L1) (stars L2)) h := star_mono k (fun _ z => z) (fun _ z => (stars_app L1 L2).mp z)
      exact star_assoc k2
    · intro k
      have k2 : star P (star (stars L1) (stars L2)) h := star_assoc' k
      exact star_mono k2 (fun _ z => z) (fun _ z => (stars_app L1 L2).mpr z)
theorem stars_perm {L L' : List sA} (p : L.Perm L') : ∀ {h : eH}, stars L h → stars L' h := by
  induction p with
  | nil => intro h k; exact k
  | cons x _ ih => intro h k; exact star_mono k (fun _ z => z) (fun _ z => ih z)
  | swap x y l =>
    intro h k
    exact star_assoc' (star_mono (star_assoc k) (fun _ z => star_comm z) (fun _ z => z))
  | trans _ _ i1 i2 => intro h k; exact i2 (i1 k)
theorem fm_r : ∀ (L pre : List sA), (List.range' pre.length L.length).filterMap (fun i => (pre ++ L)[i]?) = L
  | [], pre => by simp
  | a :: L, pre => by
    have h1 : (pre ++ a :: L)[pre.length]? = some a := by simp
    have h2 := fm_r L (pre ++ [a])
    rw [List.length_append, List.length_singleton, List.append_assoc] at h2
    rw [List.length_cons, List.range'_succ, List.filterMap_cons, h1]
    exact congrArg (a :: ·) h2
theorem fm_range (L : List sA) : (List.range L.length).filterMap (fun i => L[i]?) = L := by
  rw [List.range_eq_range']
  exact fm_r L []
/-- the same parts in another order -/
theorem stars_ix {L L' : List sA} {h : eH} (k : stars L h) (is : List Nat) (hp : is.isPerm (List.range L.length) = true) (hs : is.filterMap (fun i => L[i]?) = L') : stars L' h := by
  have p : is.Perm (List.range L.length) := List.isPerm_iff.mp hp
  have p2 := p.filterMap (fun i => L[i]?)
  rw [fm_range, hs] at p2
  exact stars_perm p2.symm k
theorem stars_ixn {L L' : List sA} {h : eH} (k : stars L h) (n : Nat) (hn : L.length = n) (is : List Nat) (hp : is.isPerm (List.range n) = true) (hs : is.filterMap (fun i => L[i]?) = L') : stars L' h := stars_ix k is (by rw [hn]; exact hp) hs
theorem pt_at {a : Nat} {x : va_E} {h : eH} (k : pt a x h) : h a = some x := by rw [k]; exact e_up_s
theorem stars_at : ∀ (L : List sA) (i : Nat) {a : Nat} {x : va_E} {h : eH}, stars L h → L[i]? = some (pt a x) → h a = some x
  | [], i, a, x, h, _, hi => by simp at hi
  | P :: L, 0, a, x, h, k, hi => by
    obtain ⟨h1, h2, hu, hj, p, q⟩ := k
    simp at hi
    subst hi
    rw [← hu]
    exact e_un_l (pt_at p)
  | P :: L, i + 1, a, x, h, k, hi => by
    obtain ⟨h1, h2, hu, hj, p, q⟩ := k
    have h9 := stars_at L i q (by simpa using hi)
    have : h1 a = none := (hj a).resolve_right (by rw [h9]; simp)
    rw [← hu, e_un_r this]
    exact h9
theorem stars_set : ∀ (L : List sA) (i : Nat) {a : Nat} {x y : va_E} {h : eH}, stars L h → L[i]? = some (pt a x) → stars (L.set i (pt a y)) (e_up h a y)
  | [], i, a, x, y, h, _, hi => by simp at hi
  | P :: L, 0, a, x, y, h, k, hi => by
    obtain ⟨h1, h2, hu, hj, p, q⟩ := k
    simp at hi
    subst hi
    refine ⟨e_up e_em a y, h2, ?_, ?_, rfl, q⟩
    · funext b
      rw [← hu, p]
      by_cases e : b = a
      · subst e; rw [e_up_s, e_un_l e_up_s]
      · rw [e_up_n e, e_un_r (by rw [e_up_n e]; rfl), e_un_r (by rw [e_up_n e]; rfl)]
    · intro b
      rcases hj b with z | z
      · left
        by_cases e : b = a
        · subst e; rw [p, e_up_s] at z; cases z
        · rw [e_up_n e]; rfl
      · exact Or.inr z
  | P :: L, i + 1, a, x, y, h, k, hi => by
    obtain ⟨h1, h2, hu, hj, p, q⟩ := k
    have hi' : L[i]? = some (pt a x) := by simpa using hi
    have h9 := stars_at L i q hi'
    have h8 : h1 a = none := (hj a).resolve_right (by rw [h9]; simp)
    refine ⟨h1, e_up h2 a y, ?_, ?_, p, stars_set L i q hi'⟩
    · funext b
      rw [← hu]
      by_cases e : b = a
      · subst e; rw [e_up_s, e_un_r h8, e_up_s]
      · rw [e_up_n e]
        cases e1 : h1 b <;> simp only [e_un, e1, e_up_n e]
    · intro b
      by_cases e : b = a
      · subst e; exact Or.inl h8
      · rw [e_up_n e]; exact hj b
theorem stars_new {L : List sA} {h : eH} {q : Nat} {x : va_E} (k : stars L h) (hq : h q = none) : stars (pt q x :: L) (e_up h q x) := by
  refine ⟨e_up e_em q x, h, ?_, ?_, rfl, k⟩
  · funext b
    by_cases e : b = q
    · subst e; rw [e_up_s, e_un_l e_up_s]
    · rw [e_up_n e, e_un_r (by rw [e_up_n e]; rfl)]
  · intro b
    by_cases e : b = q
    · subst e; exact Or.inr hq
    · left; rw [e_up_n e]; rfl
theorem stars_ne : ∀ (L : List sA) (i j : Nat) {a b : Nat} {x y : va_E} {h : eH}, stars L h → L[i]? = some (pt a x) → L[j]? = some (pt b y) → i ≠ j → a ≠ b
  | [], i, j, a, b, x, y, h, _, hi, _, _ => by simp at hi
  | P :: L, 0, 0, a, b, x, y, h, _, _, _, n => absurd rfl n
  | P :: L, 0, j + 1, a, b, x, y, h, k, hi, hj, _ => by
    obtain ⟨h1, h2, hu, hd, p, q⟩ := k
    simp at hi
    subst hi
    have h9 := stars_at L j q (by simpa using hj)
    intro e
    subst e
    rcases hd a with z | z
    · rw [pt_at p] at z; cases z
    · rw [h9] at z; cases z
  | P :: L, i + 1, 0, a, b, x, y, h, k, hi, hj, _ => by
    obtain ⟨h1, h2, hu, hd, p, q⟩ := k
    simp at hj
    subst hj
    have h9 := stars_at L i q (by simpa using hi)
    intro e
    subst e
    rcases hd a with z | z
    · rw [pt_at p] at z; cases z
    · rw [h9] at z; cases z
  | P :: L, i + 1, j + 1, a, b, x, y, h, k, hi, hj, n => by
    obtain ⟨h1, h2, hu, hd, p, q⟩ := k
    exact stars_ne L i j q (by simpa using hi) (by simpa using hj) (fun e => n (by rw [e]))
/-- opening a part that is parts -/
theorem stars_open {P : sA} {K L : List sA} {h : eH} (k : stars (P :: L) h) (o : ∀ h, P h → stars K h) : stars (K ++ L) h := (stars_app K L).mpr (star_mono k o (fun _ z => z))
theorem stars_ex {α : Type} {P : α → sA} {L : List sA} {h : eH} (k : stars ((fun h => ∃ x, P x h) :: L) h) : ∃ x, stars (P x :: L) h := by
  obtain ⟨h1, h2, hu, hj, ⟨x, p⟩, q⟩ := k
  exact ⟨x, h1, h2, hu, hj, p, q⟩
theorem stars_and {c : Prop} {P : sA} {L : List sA} {h : eH} (k : stars ((fun h => c ∧ P h) :: L) h) : c ∧ stars (P :: L) h := by
  obtain ⟨h1, h2, hu, hj, ⟨x, p⟩, q⟩ := k
  exact ⟨x, h1, h2, hu, hj, p, q⟩
theorem stars_to {P P' : sA} {L : List sA} {h : eH} (k : stars (P :: L) h) (o : ∀ h, P h → P' h) : stars (P' :: L) h := star_mono k o (fun _ z => z)
/-- closing: the first parts are one -/
theorem stars_close {P : sA} {K L : List sA} {h : eH} (k : stars (K ++ L) h) (o : ∀ h, stars K h → P h) : stars (P :: L) h := star_mono ((stars_app K L).mp k) o (fun _ z => z)
theorem stars_one {P : sA} {h : eH} (k : stars [P] h) : P h := by
  obtain ⟨h1, h2, hu, hj, p, q⟩ := k
  rw [show h2 = e_em from q, e_un_em] at hu
  rw [← hu]; exact p
theorem stars_of {P : sA} {h : eH} (k : P h) : stars [P] h := ⟨h, e_em, e_un_em, e_dj_em, k, rfl⟩
/-- a contract over parts -/
def CA (M : MD) (av : List Value) (L : List sA) (Q : Option Value → List sA → Prop) (fr lo mc ms : Nat) : Prop := ∀ h, stars L h → Ct M av h (fun r h' => ∃ L', Q r L' ∧ stars L' h') fr lo mc ms
section ER
variable {M : MD} {fr lo mc ms : Nat} {Q : Option Value → eH → Prop} {pc ce sl : Nat} {ls : List (Option Value)} {st : List Value} {h : eH}
theorem p_put (np : Nat) {L L' : List sA} (hL : stars L h) (i : Nat) {index ci k a : Nat} {fs fs' : List Value} {v : Value} {ty : FieldType} {fin : Bool} (hi : L[i]? = some (pt a (.inr (ci, fs)))) (hL' : L.set i (pt a (.inr (ci, fs'))) = L') (hd : decode M.2.1 pc = .ok (.putfield index, 3)) (hn : pc + 3 = np) (hF : FP M.1.cls index ci k ty fin) (hfi : fin = false ∨ M.1.name = "<init>") (hl : k < fs.length) (hnr : narrow ty v = v) (hfit : fits ty v = true) (hfs : fs.set k v = fs') (kk : ∀ h' : eH, stars L' h' → EE M fr lo mc ms Q np ls st h' ce sl) : EE M fr lo mc ms Q pc ls (v :: .ref a :: st) h ce sl :=
  e_put np hd hn hF hfi (stars_at L i hL hi) hl hnr hfit hfs (kk _ (hL' ▸ stars_set L i hL hi))
theorem p_iast (np : Nat) {L L' : List sA} (hL : stars L h) (i : Nat) {a n k : Nat} {f : Nat → Int32} {ix x : Int32} (hi : L[i]? = some (pt a (.inl (0, n, .inl f)))) (hL' : L.set i (pt a (.inl (0, n, .inl (upd f k x)))) = L') (hd : decode M.2.1 pc = .ok (.iastore, 1)) (hn : pc + 1 = np) (hx : vp_in ix n) (hk : ix.toNatClampNeg = k) (kk : ∀ h' : eH, stars L' h' → EE M fr lo mc ms Q np ls st h' ce sl) : EE M fr lo mc ms Q pc ls (.int x :: .int ix :: .ref a :: st) h ce sl := by
  subst hk
  exact e_iast np hd hn (stars_at L i hL hi) hx (kk _ (hL' ▸ stars_set L i hL hi))
theorem p_aast (np : Nat) {L L' : List sA} (hL : stars L h) (i j : Nat) {a n t v ci k : Nat} {vs : List Value} {q0 : vw_C} {f : Nat → Option Nat} {ix : Int32} (hi : L[i]? = some (pt a (.inl (t, n, .inr (.inr (.inr (.inr f))))))) (hj : L[j]? = some (pt v (.inr (ci, vs)))) (hL' : L.set i (pt a (.inl (t, n, .inr (.inr (.inr (.inr (va_up f k (some v)))))))) = L') (hd : decode M.2.1 pc = .ok (.aastore, 1)) (hn : pc + 1 = np) (hc : vwCl[ci]? = some q0) (ht : atys[t]? = some (.object q0.1)) (hx : vp_in ix n) (hk : ix.toNatClampNeg = k) (kk : ∀ h' : eH, stars L' h' → EE M fr lo mc ms Q np ls st h' ce sl) : EE M fr lo mc ms Q pc ls (.ref v :: .int ix :: .ref a :: st) h ce sl := by
  subst hk
  exact e_aast np hd hn (stars_at L i hL hi) hc ht (stars_at L j hL hj) hx (kk _ (hL' ▸ stars_set L i hL hi))
theorem p_new (np N : Nat) {L : List sA} (hL : stars L h) {index ci : Nat} {fs : List Value} (hlen : fs.length = N) (hd : decode M.2.1 pc = .ok (.new index, 3)) (hn : pc + 3 = np) (hN : NC M.1.cls index ci fs) (hce : ce + 1 ≤ mc) (hsl : sl + N ≤ ms) (kk : ∀ (q : Nat) (h' : eH), stars (pt q (.inr (ci, fs)) :: L) h' → EE M fr lo mc ms Q np ls (.ref q :: st) h' (ce + 1) (sl + N)) : EE M fr lo mc ms Q pc ls st h ce sl := by
  subst hlen
  exact e_new np hd hn hN hce hsl (fun q hq => kk q _ (stars_new hL hq))
theorem p_newI (np : Nat) {L : List sA} (hL : stars L h) {n : Int32} {N : Nat} (hd : decode M.2.1 pc = .ok (.newarray .int, 2)) (hn : pc + 2 = np) (h0 : ¬ n < 0) (hN : n.toNatClampNeg = N) (hb : N ≤ 100000) (hce : ce + 1 ≤ mc) (hsl : sl + N ≤ ms) (kk : ∀ (q : Nat) (h' : eH), stars (pt q (.inl (0, N, .inl (fun _ => 0))) :: L) h' → EE M fr lo mc ms Q np ls (.ref q :: st) h' (ce + 1) (sl + N)) : EE M fr lo mc ms Q pc ls (.int n :: st) h ce sl :=
  e_newI np hd hn h0 hN hb hce hsl (fun q hq => kk q _ (stars_new hL hq))
theorem p_anew (np : Nat) {L : List sA} (hL : stars L h) {index t : Nat} {C : String} {n : Int32} {N : Nat} (hd : decode M.2.1 pc = .ok (.anewarray index, 3)) (hn : pc + 3 = np) (hw : Cond.classLink M.1.cls index C ∈ gw) (ho : Cond.arrayOver (.object C) ∈ ow) (ht : atys[t]? = some (.object C)) (h0 : ¬ n < 0) (hN : n.toNatClampNeg = N) (hb : N ≤ 100000) (hce : ce + 1 ≤ mc) (hsl : sl + N ≤ ms) (kk : ∀ (q : Nat) (h' : eH), stars (pt q (.inl (t, N, .inr (.inr (.inr (.inr (fun _ => none)))))) :: L) h' → EE M fr lo mc ms Q np ls (.ref q :: st) h' (ce + 1) (sl + N)) : EE M fr lo mc ms Q pc ls (.int n :: st) h ce sl :=
  e_anew np hd hn hw ho ht h0 hN hb hce hsl (fun q hq => kk q _ (stars_new hL hq))
theorem p_callS (np : Nat) {L L1 L2 : List sA} (hL : stars L h) (is : List Nat) (n9 : Nat) (hn9 : L.length = n9) (hp : is.isPerm (List.range n9) = true) (hs : is.filterMap (fun i => L[i]?) = L1 ++ L2) {index n fr' lo' mc' ms' : Nat} {M' : MD} {av st0 : List Value} {Q' : Option Value → List sA → Prop} (hd : decode M.2.1 pc = .ok (.invokestatic index, 3)) (hn : pc + 3 = np) (hC : CS M.1.cls index M' n) (hM : CA M' av L1 Q' fr' lo' mc' ms') (hlen : av.length = n) (hst : st0 = av.reverse ++ st) (hcat : (st.map fun v => v.category).sum ≤ 8) (hR : (fr' + 1 ≤ fr ∧ 8 + (M'.2.2.1 + 11) + lo' ≤ lo) ∧ ce + mc' ≤ mc ∧ sl + ms' ≤ ms) (kk : ∀ (r : Option Value) (L1' : List sA) (h' : eH), Q' r L1' → stars (L1' ++ L2) h' → EE M fr lo mc ms Q np ls (r.toList ++ st) h' (ce + mc') (sl + ms')) : EE M fr lo mc ms Q pc ls st0 h ce sl := by
  obtain ⟨h1, h2, hu, hj, k1, k2⟩ := (stars_app L1 L2).mp (stars_ix hL is (by rw [hn9]; exact hp) hs)
  refine e_callS np hu hj hd hn hC (hM h1 k1) hlen hst hcat hR (fun r h1' q hj' => ?_)
  obtain ⟨L', q1, q2⟩ := q
  exact kk r L' _ q1 ((stars_app L' L2).mpr ⟨h1', h2, rfl, hj', q2, k2⟩)
theorem p_callI (np : Nat) {L L1 L2 : List sA} (hL : stars L h) (is : List Nat) (n9 : Nat) (hn9 : L.length = n9) (hp : is.isPerm (List.range n9) = true) (hs : is.filterMap (fun i => L[i]?) = L1 ++ L2) {index n fr' lo' mc' ms' b : Nat} {M' : MD} {av st0 : List Value} {Q' : Option Value → List sA → Prop} (hd : decode M.2.1 pc = .ok (.invokespecial index, 3)) (hn : pc + 3 = np) (hC : CI M.1.cls index M' n) (hM : CA M' (.ref b :: av) L1 Q' fr' lo' mc' ms') (hlen : av.length = n) (hst : st0 = av.reverse ++ .ref b :: st) (hcat : (st.map fun v => v.category).sum ≤ 8) (hR : (fr' + 1 ≤ fr ∧ 8 + (M'.2.2.1 + 11) + lo' ≤ lo) ∧ ce + mc' ≤ mc ∧ sl + ms' ≤ ms) (kk : ∀ (r : Option Value) (L1' : List sA) (h' : eH), Q' r L1' → stars (L1' ++ L2) h' → EE M fr lo mc ms Q np ls (r.toList ++ st) h' (ce + mc') (sl + ms')) : EE M fr lo mc ms Q pc ls st0 h ce sl := by
  obtain ⟨h1, h2, hu, hj, k1, k2⟩ := (stars_app L1 L2).mp (stars_ix hL is (by rw [hn9]; exact hp) hs)
  refine e_callI np hu hj hd hn hC (hM h1 k1) hlen hst hcat hR (fun r h1' q hj' => ?_)
  obtain ⟨L', q1, q2⟩ := q
  exact kk r L' _ q1 ((stars_app L' L2).mpr ⟨h1', h2, rfl, hj', q2, k2⟩)
/-- of which class the object at a is, as an assertion says it -/
def isO (P : sA) (b ci : Nat) : Prop := ∀ h, P h → ∃ fs, h b = some (.inr (ci, fs))
theorem isO_pt {b ci : Nat} {fs : List Value} : isO (pt b (.inr (ci, fs))) b ci := fun h k => ⟨fs, pt_at k⟩
theorem stars_isO : ∀ (L : List sA) (i : Nat) {P : sA} {b ci : Nat} {h : eH}, stars L h → L[i]? = some P → isO P b ci → ∃ fs, h b = some (.inr (ci, fs))
  | [], i, P, b, ci, h, _, hi, _ => by simp at hi
  | P :: L, 0, P', b, ci, h, k, hi, o => by
    obtain ⟨h1, h2, hu, hj, p, q⟩ := k
    simp at hi
    subst hi
    obtain ⟨fs, hf⟩ := o h1 p
    exact ⟨fs, by rw [← hu]; exact e_un_l hf⟩
  | P :: L, i + 1, P', b, ci, h, k, hi, o => by
    obtain ⟨h1, h2, hu, hj, p, q⟩ := k
    obtain ⟨fs, h9⟩ := stars_isO L i q (by simpa using hi) o
    have : h1 b = none := (hj b).resolve_right (by rw [h9]; simp)
    exact ⟨fs, by rw [← hu, e_un_r this]; exact h9⟩
theorem p_callV (np : Nat) {L L1 L2 : List sA} (hL : stars L h) (is : List Nat) (n9 : Nat) (hn9 : L.length = n9) (hp : is.isPerm (List.range n9) = true) (hs : is.filterMap (fun i => L[i]?) = L1 ++ L2) {index n fr' lo' mc' ms' b ci : Nat} {M' : MD} {av st0 : List Value} {Q' : Option Value → List sA → Prop} {P : sA} (ho : isO P b ci) (j : Nat) (hP : L[j]? = some P) (hd : decode M.2.1 pc = .ok (.invokevirtual index, 3)) (hn : pc + 3 = np) (hC : CV M.1.cls index M' ci n) (hM : CA M' (.ref b :: av) L1 Q' fr' lo' mc' ms') (hlen : av.length = n) (hst : st0 = av.reverse ++ .ref b :: st) (hcat : (st.map fun v => v.category).sum ≤ 8) (hR : (fr' + 1 ≤ fr ∧ 8 + (M'.2.2.1 + 11) + lo' ≤ lo) ∧ ce + mc' ≤ mc ∧ sl + ms' ≤ ms) (kk : ∀ (r : Option Value) (L1' : List sA) (h' : eH), Q' r L1' → stars (L1' ++ L2) h' → EE M fr lo mc ms Q np ls (r.toList ++ st) h' (ce + mc') (sl + ms')) : EE M fr lo mc ms Q pc ls st0 h ce sl := by
  obtain ⟨fs, hb⟩ := stars_isO L j hL hP ho
  obtain ⟨h1, h2, hu, hj, k1, k2⟩ := (stars_app L1 L2).mp (stars_ix hL is (by rw [hn9]; exact hp) hs)
  refine e_callV np hu hj hd hn hC hb (hM h1 k1) hlen hst hcat hR (fun r h1' q hj' => ?_)
  obtain ⟨L', q1, q2⟩ := q
  exact kk r L' _ q1 ((stars_app L' L2).mpr ⟨h1', h2, rfl, hj', q2, k2⟩)
end ER
