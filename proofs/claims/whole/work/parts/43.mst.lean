/-! lists of parts -/
theorem ei_perm {α : Type} : ∀ (L : List α) (i : Nat) {x : α}, L[i]? = some x → L.Perm (x :: L.eraseIdx i)
  | [], i, x, h => by simp at h
  | a :: L, 0, x, h => by
    have e : a = x := by simpa using h
    subst e
    exact List.Perm.refl _
  | a :: L, i + 1, x, h => by
    have := ei_perm L i (x := x) (by simpa using h)
    rw [List.eraseIdx_cons_succ]
    exact (List.Perm.cons a this).trans (List.Perm.swap _ _ _)
def lst {α : Type} (f : α → sA) (L : List α) : sA := stars (L.map f)
theorem lst_o {α : Type} {f : α → sA} {L : List α} {K : List sA} {h : eH} (i : Nat) {x : α} (hx : L[i]? = some x) (k : stars (lst f L :: K) h) : stars (f x :: lst f (L.eraseIdx i) :: K) h := by
  have k1 : star (stars (L.map f)) (stars K) h := k
  have k2 : star (stars ((x :: L.eraseIdx i).map f)) (stars K) h := star_mono k1 (fun _ z => stars_perm ((ei_perm L i hx).map f) z) (fun _ z => z)
  exact star_assoc' k2
theorem lst_c {α : Type} {f : α → sA} {L : List α} {K : List sA} {h : eH} (i : Nat) (hi : i < L.length) {x : α} (k : stars (f x :: lst f (L.eraseIdx i) :: K) h) : stars (lst f (L.set i x) :: K) h := by
  have p := ei_perm (L.set i x) i (x := x) (List.getElem?_set_self hi)
  rw [List.eraseIdx_set_eq] at p
  have k1 : star (f x) (star (lst f (L.eraseIdx i)) (stars K)) h := k
  exact star_mono (star_assoc k1) (fun _ z => stars_perm (p.symm.map f) z) (fun _ z => z)
theorem lst_b {α : Type} {f : α → sA} {L : List α} {K : List sA} {h : eH} (i : Nat) {x : α} (hx : L[i]? = some x) (k : stars (f x :: lst f (L.eraseIdx i) :: K) h) : stars (lst f L :: K) h := by
  have k1 : star (f x) (star (lst f (L.eraseIdx i)) (stars K)) h := k
  exact star_mono (star_assoc k1) (fun _ z => stars_perm ((ei_perm L i hx).symm.map f) z) (fun _ z => z)
theorem lst_a {α : Type} {f : α → sA} {L : List α} {K : List sA} {h : eH} {x : α} (k : stars (f x :: lst f L :: K) h) : stars (lst f (L ++ [x]) :: K) h := by
  have p : (x :: L).Perm (L ++ [x]) := (List.perm_append_singleton x L).symm
  have k1 : star (f x) (star (lst f L) (stars K)) h := k
  exact star_mono (star_assoc k1) (fun _ z => stars_perm (p.map f) z) (fun _ z => z)
theorem stars_em {K : List sA} {h : eH} (k : stars ((fun h => h = e_em) :: K) h) : stars K h := by
  obtain ⟨h1, h2, hu, -, rfl, q⟩ := k
  rw [e_em_un] at hu
  rw [← hu]; exact q
theorem stars_me {K : List sA} {h : eH} (k : stars K h) : stars ((fun h => h = e_em) :: K) h := ⟨e_em, h, rfl, fun _ => Or.inl rfl, rfl, k⟩
/-! rings -/
def ring {α β : Type} (cap : Nat) (q : α → β) (L : List (Option α)) (hd : Nat) (R : List β) : Prop := L.length = cap ∧ hd < cap ∧ R.length ≤ cap ∧ ∀ i, i < R.length → ∃ j, L[(hd + i) % cap]? = some (some j) ∧ R[i]? = some (q j)
theorem md_at {hd i cap : Nat} (h : hd < cap) (hi : i < cap) : (hd + i) % cap = if hd + i < cap then hd + i else hd + i - cap := by
  split
  · rename_i z; exact Nat.mod_eq_of_lt z
  · rename_i z
    rw [Nat.mod_eq_sub_mod (by omega)]
    exact Nat.mod_eq_of_lt (by omega)
theorem md_ne {hd i k cap : Nat} (h : hd < cap) (hi : i < cap) (hk : k < cap) (n : i ≠ k) : (hd + i) % cap ≠ (hd + k) % cap := by
  rw [md_at h hi, md_at h hk]
  split <;> split <;> omega
theorem md_lt {hd i cap : Nat} (h : hd < cap) : (hd + i) % cap < cap := Nat.mod_lt _ (by omega)
theorem md_s {hd i cap : Nat} : ((hd + 1) % cap + i) % cap = (hd + (i + 1)) % cap := by
  rw [Nat.mod_add_mod]
  congr 1
  omega
theorem ring_push {α β : Type} {cap : Nat} {q : α → β} {L : List (Option α)} {hd : Nat} {R : List β} (h : ring cap q L hd R) (hl : R.length < cap) (j : α) : ring cap q (L.set ((hd + R.length) % cap) (some j)) hd (R ++ [q j]) := by
  obtain ⟨h1, h2, h3, h4⟩ := h
  refine ⟨by rw [List.length_set]; exact h1, h2, by rw [List.length_append]; simp; omega, fun i hi => ?_⟩
  rw [List.length_append, List.length_singleton] at hi
  by_cases e : i = R.length
  · subst e
    refine ⟨j, ?_, by simp⟩
    rw [List.getElem?_set_self (by rw [h1]; exact md_lt h2)]
  · obtain ⟨j2, g1, g2⟩ := h4 i (by omega)
    refine ⟨j2, ?_, ?_⟩
    · rw [List.getElem?_set_ne (md_ne h2 hl (by omega) (fun z => e z.symm))]; exact g1
    · rw [List.getElem?_append_left (by omega)]; exact g2
theorem ring_pop {α β : Type} {cap : Nat} {q : α → β} {L : List (Option α)} {hd : Nat} {e : β} {R : List β} (h : ring cap q L hd (e :: R)) (x : Option α) : ring cap q (L.set hd x) ((hd + 1) % cap) R := by
  obtain ⟨h1, h2, h3, h4⟩ := h
  rw [List.length_cons] at h3
  refine ⟨by rw [List.length_set]; exact h1, md_lt h2, by omega, fun i hi => ?_⟩
  obtain ⟨j, g1, g2⟩ := h4 (i + 1) (by rw [List.length_cons]; omega)
  refine ⟨j, ?_, by simpa using g2⟩
  rw [md_s, List.getElem?_set_ne ?_]
  · exact g1
  · have := md_ne h2 (i := 0) (k := i + 1) (cap := cap) (by omega) (by omega) (by omega)
    rw [Nat.add_zero, Nat.mod_eq_of_lt h2] at this
    exact this
theorem ring_drop {α β : Type} {cap : Nat} {q : α → β} {L : List (Option α)} {hd : Nat} {e : β} {R : List β} (h : ring cap q L hd (e :: R)) : ring cap q L ((hd + 1) % cap) R := by
  have h2 := h.2.1
  have h1 := h.1
  have := ring_pop h (L[hd]'(by omega))
  rw [List.set_getElem_self] at this
  exact this
theorem ring_first {α β : Type} {cap : Nat} {q : α → β} {L : List (Option α)} {hd : Nat} {e : β} {R : List β} (h : ring cap q L hd (e :: R)) : ∃ j, L[hd]? = some (some j) ∧ e = q j := by
  obtain ⟨j, g1, g2⟩ := h.2.2.2 0 (by simp)
  rw [Nat.add_zero, Nat.mod_eq_of_lt h.2.1] at g1
  exact ⟨j, g1, by simpa using g2⟩
theorem ring_set0 {α β : Type} {cap : Nat} {q : α → β} {L : List (Option α)} {hd : Nat} {e : β} {R : List β} (h : ring cap q L hd (e :: R)) (j : α) : ring cap q (L.set hd (some j)) hd (q j :: R) := by
  obtain ⟨h1, h2, h3, h4⟩ := h
  refine ⟨by rw [List.length_set]; exact h1, h2, by simpa using h3, fun i hi => ?_⟩
  cases i with
  | zero =>
    refine ⟨j, ?_, by simp⟩
    rw [Nat.add_zero, Nat.mod_eq_of_lt h2, List.getElem?_set_self (by omega)]
  | succ i =>
    obtain ⟨j2, g1, g2⟩ := h4 (i + 1) (by simpa using hi)
    rw [List.length_cons] at hi h3
    refine ⟨j2, ?_, by simpa using g2⟩
    rw [List.getElem?_set_ne ?_]
    · exact g1
    · have := md_ne h2 (i := 0) (k := i + 1) (cap := cap) (by omega) (by omega) (by omega)
      rw [Nat.add_zero, Nat.mod_eq_of_lt h2] at this
      exact this
theorem ring_off {α β : Type} {cap : Nat} {q : α → β} {L : List (Option α)} {hd : Nat} {R : List β} (h : ring cap q L hd R) (hl : R.length < cap) (x : Option α) : ring cap q (L.set ((hd + R.length) % cap) x) hd R := by
  obtain ⟨h1, h2, h3, h4⟩ := h
  refine ⟨by rw [List.length_set]; exact h1, h2, h3, fun i hi => ?_⟩
  obtain ⟨j2, g1, g2⟩ := h4 i hi
  refine ⟨j2, ?_, g2⟩
  rw [List.getElem?_set_ne (md_ne h2 hl (by omega) (by omega))]; exact g1
/-! the slots of a ring of jobs; scans -/
abbrev JB : Type := Nat × List Nat × (Nat → Nat)
def slt : Option JB → sA
  | none => fun h => h = e_em
  | some j => job j.1 j.2.1 j.2.2
def adJ (L : List (Option JB)) : Nat → Option Nat := fun i => (L.getD i none).map (·.1)
theorem adJ_at {L : List (Option JB)} {i : Nat} {x : Option JB} (h : L[i]? = some x) : adJ L i = x.map (·.1) := by
  simp only [adJ, List.getD, h, Option.getD_some]
theorem adJ_set {L : List (Option JB)} {i : Nat} (hi : i < L.length) (x : Option JB) : va_up (adJ L) i (x.map (·.1)) = adJ (L.set i x) := by
  funext j
  by_cases e : j = i
  · subst e
    simp [va_up, adJ, List.getD, hi]
  · simp only [va_up, adJ, List.getD, List.getElem?_set_ne (Ne.symm e)]
    simp [e]
abbrev RQE : Type := List Nat × Nat × Nat × Nat
abbrev RSE : Type := List Nat × Nat × Nat × Nat × Nat × Nat
abbrev SCE : Type := List Nat × Nat × Nat × Nat × Option Nat
def qd (j : JB) : RQE := (j.2.1, j.2.2 1, j.2.2 2, j.2.2 3)
def rd (j : JB) : RSE := (j.2.1, j.2.2 1, j.2.2 2, j.2.2 3, j.2.2 4, j.2.2 5)
def sce (e : Nat × SCE) : sA := scn e.1 e.2.1 e.2.2.1 e.2.2.2.1 e.2.2.2.2.1 e.2.2.2.2.2
def adS (K : List (Nat × SCE)) : Nat → Option Nat := fun i => K[i]?.map (·.1)
/-- master: numbers v (1 phase, 2 waited, 3 most attempts, 4 timeout, 5 turn, 9 next number, 13 lost, 14 stray, 20 the ear's quiet), requests, results, scans, what the ear heard, B (1 spoilt, 2 overrun) -/
abbrev MS : Type := (Nat → Nat) × List RQE × List RSE × List SCE × List Nat × (Nat → Bool)
/-- what no call shows: the rings' heads, which slots have a job -/
abbrev HD : Type := Nat × Nat × List Bool × List Bool
def mR (L1 L2 : List (Option JB)) (K : List (Nat × SCE)) (RQ : List RQE) (RS : List RSE) (SC : List SCE) (z : HD) : Prop := ring 16 qd L1 z.1 RQ ∧ ring 32 rd L2 z.2.1 RS ∧ L1.map Option.isSome = z.2.2.1 ∧ L2.map Option.isSome = z.2.2.2 ∧ K.map (·.2) = SC ∧ K.length ≤ 8
/-! what the master does -/
def hdQ (s : MS) : RQE := s.2.1.headD ([], 0, 0, 0)
def nul (z : HD) : Nat := z.2.2.1.countP (!·) + z.2.2.2.countP (!·)
def arS (s : MS) (ad : Nat) (p : List Nat) : MS := if s.2.1.length < 16 then (upN s.1 9 (s.1 9 + 1), s.2.1 ++ [(p, s.1 9, ad, 0)], s.2.2) else s
def arR (s : MS) : Option Nat := if s.2.1.length < 16 then some (s.1 9) else none
def arH (s : MS) (z : HD) : HD := if s.2.1.length < 16 then (z.1, z.2.1, z.2.2.1.set ((z.1 + s.2.1.length) % 16) true, z.2.2.2) else z
def inR (RQ : List RQE) (x : Option Nat) : Bool := RQ.any (fun e => decide (some e.2.1 = x))
def fnS (s : MS) (oc co : Nat) (p : List Nat) : MS := (if s.2.2.1.length < 32 then upN s.1 1 0 else upN (upN s.1 1 0) 13 (s.1 13 + 1), s.2.1.tail, if s.2.2.1.length < 32 then s.2.2.1 ++ [(p, (hdQ s).2.1, (hdQ s).2.2.1, (hdQ s).2.2.2, oc, co)] else s.2.2.1, s.2.2.2)
def fnH (s : MS) (z : HD) : HD := ((z.1 + 1) % 16, z.2.1, if s.2.2.1.length < 32 then z.2.2.1.set z.1 (z.2.2.2.getD ((z.2.1 + s.2.2.1.length) % 32) false) else z.2.2.1, if s.2.2.1.length < 32 then z.2.2.2.set ((z.2.1 + s.2.2.1.length) % 32) true else z.2.2.2)
def flS (s : MS) (why : Nat) : MS := if s.1 3 ≤ (hdQ s).2.2.2 then fnS s 2 why [] else (upN s.1 1 0, s.2)
def flH (s : MS) (z : HD) : HD := if s.1 3 ≤ (hdQ s).2.2.2 then fnH s z else z
def wt1 (s : MS) : MS := (upN s.1 2 (s.1 2 + 1), s.2)
def wtS (s : MS) (sb : Bool) : MS := if s.1 1 = 2 ∧ 0 < s.2.1.length then (if (hdQ s).2.2.1 = 0 then (if s.1 5 ≤ s.1 2 + 1 then fnS (wt1 s) 0 0 [] else wt1 s) else if s.1 4 ≤ s.1 2 + 1 ∧ sb = false ∧ s.2.2.2.2.1.length = 0 then flS (wt1 s) 1 else wt1 s) else s
def wtH (s : MS) (sb : Bool) (z : HD) : HD := if s.1 1 = 2 ∧ 0 < s.2.1.length then (if (hdQ s).2.2.1 = 0 then (if s.1 5 ≤ s.1 2 + 1 then fnH (wt1 s) z else z) else if s.1 4 ≤ s.1 2 + 1 ∧ sb = false ∧ s.2.2.2.2.1.length = 0 then flH (wt1 s) z else z) else z
/-- the PDU that the master's ear has -/
def erP (s : MS) : List Nat := pf s.2.2.2.2.1 1 (s.2.2.2.2.1.length - 3)
def syS (s : MS) : MS := (upN s.1 14 (s.1 14 + 1), s.2)
/-- how a frame is taken: 0 stray, 1 failed, 2 finished -/
def tfK (s : MS) : Nat × Nat × Nat × List Nat := if ¬ s.1 1 = 2 ∨ s.2.1.length = 0 ∨ (hdQ s).2.2.1 = 0 then (0, 0, 0, [])
  else if goodF s.2.2.2.2.1 (s.2.2.2.2.2 1) = false then (1, 2, 0, [])
  else if ¬ s.2.2.2.2.1.getD 0 0 = (hdQ s).2.2.1 then (0, 0, 0, [])
  else if rfF (hdQ s).1 (erP s) = true then (if (erP s).getD 1 0 = 6 then (1, 4, 0, []) else (2, 1, (erP s).getD 1 0, []))
  else if fitF (hdQ s).1 (erP s) = true then (2, 0, 0, erP s) else (1, 3, 0, [])
def tfS (s : MS) : MS := if (tfK s).1 = 0 then syS s else if (tfK s).1 = 1 then flS s (tfK s).2.1 else fnS s (tfK s).2.1 (tfK s).2.2.1 (tfK s).2.2.2
def tfH (s : MS) (z : HD) : HD := if (tfK s).1 = 0 then z else if (tfK s).1 = 1 then flH s z else fnH s z
/-! scans -/
abbrev scA (s : MS) (i : Nat) : SCE := s.2.2.2.1.getD i ([], 0, 0, 0, none)
def sc1S (s : MS) (c i : Nat) : MS := if c < (scA s i).2.2.2.1 then s else if s.2.1.length < 16 ∧ inR s.2.1 (scA s i).2.2.2.2 = false then (upN s.1 9 (s.1 9 + 1), s.2.1 ++ [((scA s i).1, s.1 9, (scA s i).2.2.1, 0)], s.2.2.1, s.2.2.2.1.set i ((scA s i).1, (scA s i).2.1, (scA s i).2.2.1, (scA s i).2.2.2.1 + (scA s i).2.1, some (s.1 9)), s.2.2.2.2) else (s.1, s.2.1, s.2.2.1, s.2.2.2.1.set i ((scA s i).1, (scA s i).2.1, (scA s i).2.2.1, (scA s i).2.2.2.1 + (scA s i).2.1, (scA s i).2.2.2.2), s.2.2.2.2)
def sc1H (s : MS) (z : HD) (c i : Nat) : HD := if c < (scA s i).2.2.2.1 then z else if s.2.1.length < 16 ∧ inR s.2.1 (scA s i).2.2.2.2 = false then arH s z else z
def scX (c : Nat) : Nat → MS × HD → MS × HD
  | 0, x => x
  | i + 1, x => (sc1S (scX c i x).1 c i, sc1H (scX c i x).1 (scX c i x).2 c i)
def scS (c : Nat) : Nat → MS → MS
  | 0, s => s
  | i + 1, s => sc1S (scS c i s) c i
theorem scX_S (c : Nat) (x : MS × HD) : ∀ i, (scX c i x).1 = scS c i x.1
  | 0 => rfl
  | i + 1 => by rw [scX, scS, scX_S c x i]
/-! the cost: no slot gets empty but by a change with another -/
theorem nul_ar {s : MS} {z : HD} (hN : z.2.2.1.length = 16) (h1 : z.1 < 16) : nul (arH s z) ≤ nul z := by
  unfold arH
  split
  · have hi : (z.1 + s.2.1.length) % 16 < z.2.2.1.length := by rw [hN]; exact Nat.mod_lt _ (by decide)
    simp only [nul, List.countP_set hi]
    simp
  · exact Nat.le_refl _
theorem nul_ar0 {s : MS} {z : HD} (hN : z.2.2.1.length = 16) (hl : s.2.1.length < 16) (he : z.2.2.1.getD ((z.1 + s.2.1.length) % 16) true = false) : nul z = nul (arH s z) + 1 := by
  have hi : (z.1 + s.2.1.length) % 16 < z.2.2.1.length := by rw [hN]; exact Nat.mod_lt _ (by decide)
  simp only [List.getD, List.getElem?_eq_getElem hi, Option.getD_some] at he
  have h9 : 0 < z.2.2.1.countP (!·) := List.countP_pos_iff.mpr ⟨_, List.getElem_mem hi, by rw [he]; rfl⟩
  simp only [arH, if_pos hl, nul, List.countP_set hi, he]
  simp
  omega
theorem nul_sc1 {s : MS} {z : HD} {c i : Nat} (hN : z.2.2.1.length = 16) (h1 : z.1 < 16) : nul (sc1H s z c i) ≤ nul z := by
  unfold sc1H
  split
  · exact Nat.le_refl _
  · split
    · exact nul_ar hN h1
    · exact Nat.le_refl _
theorem arH_ok {s : MS} {z : HD} (hN : z.2.2.1.length = 16) : (arH s z).2.2.1.length = 16 ∧ (arH s z).1 = z.1 ∧ (arH s z).2.1 = z.2.1 ∧ (arH s z).2.2.2 = z.2.2.2 := by
  unfold arH
  split
  · exact ⟨by simp [hN], rfl, rfl, rfl⟩
  · exact ⟨hN, rfl, rfl, rfl⟩
theorem sc1H_ok {s : MS} {z : HD} {c i : Nat} (hN : z.2.2.1.length = 16) : (sc1H s z c i).2.2.1.length = 16 ∧ (sc1H s z c i).1 = z.1 := by
  unfold sc1H
  split
  · exact ⟨hN, rfl⟩
  · split
    · exact ⟨(arH_ok hN).1, (arH_ok hN).2.1⟩
    · exact ⟨hN, rfl⟩
theorem scX_ok {c : Nat} {x : MS × HD} (hN : x.2.2.2.1.length = 16) : ∀ i, (scX c i x).2.2.2.1.length = 16 ∧ (scX c i x).2.1 = x.2.1
  | 0 => ⟨hN, rfl⟩
  | i + 1 => by
    obtain ⟨a, b⟩ := scX_ok hN (c := c) i
    obtain ⟨p, q⟩ := sc1H_ok (s := (scX c i x).1) (c := c) (i := i) a
    exact ⟨p, q.trans b⟩
theorem nul_scX {c : Nat} {x : MS × HD} (hN : x.2.2.2.1.length = 16) (h1 : x.2.1 < 16) (i : Nat) : ∀ k, nul (scX c (i + k) x).2 ≤ nul (scX c i x).2
  | 0 => Nat.le_refl _
  | k + 1 => by
    have := scX_ok hN (c := c) (i + k)
    have h9 : (scX c (i + k) x).2.1 < 16 := by rw [this.2]; exact h1
    exact Nat.le_trans (nul_sc1 this.1 h9) (nul_scX hN h1 i k)
theorem nul_fn {s : MS} {z : HD} (hN1 : z.2.2.1.length = 16) (hN2 : z.2.2.2.length = 32) (h1 : z.1 < 16) (ht : z.2.2.1.getD z.1 false = true) : nul (fnH s z) = nul z := by
  by_cases hl : s.2.2.1.length < 32
  · have hi : (z.2.1 + s.2.2.1.length) % 32 < z.2.2.2.length := by rw [hN2]; exact Nat.mod_lt _ (by decide)
    have hj : z.1 < z.2.2.1.length := by omega
    simp only [List.getD, List.getElem?_eq_getElem hj, Option.getD_some] at ht
    have e2 : z.2.2.2.getD ((z.2.1 + s.2.2.1.length) % 32) false = z.2.2.2[(z.2.1 + s.2.2.1.length) % 32] := by
      simp only [List.getD, List.getElem?_eq_getElem hi, Option.getD_some]
    simp only [fnH, if_pos hl, nul, List.countP_set hi, List.countP_set hj, ht, e2]
    cases h9 : z.2.2.2[(z.2.1 + s.2.2.1.length) % 32] with
    | true => simp
    | false =>
      have h8 : 0 < z.2.2.2.countP (!·) := List.countP_pos_iff.mpr ⟨_, List.getElem_mem hi, by rw [h9]; rfl⟩
      simp
      omega
  · simp only [fnH, if_neg hl, nul]
/-! the object with its parts -/
abbrev mo (m : Nat) (A v : Nat → Nat) (h1 n1 h2 n2 n3 : Nat) : sA := pt m (.inr (3, [.ref (A 0), .int (nI (v 1)), .int (nI (v 2)), .int (nI (v 3)), .int (nI (v 4)), .int (nI (v 5)), .ref (A 6), .int (nI h1), .int (nI n1), .int (nI (v 9)), .ref (A 10), .int (nI h2), .int (nI n2), .int (nI (v 13)), .int (nI (v 14)), .ref (A 15), .int (nI n3)]))
abbrev ar4 (a n : Nat) (L : List (Option JB)) : sA := pt a (.inl (4, n, .inr (.inr (.inr (.inr (adJ L))))))
abbrev ar5 (a n : Nat) (K : List (Nat × SCE)) : sA := pt a (.inl (5, n, .inr (.inr (.inr (.inr (adS K))))))
def mst (m : Nat) (s : MS) (z : HD) : sA := fun h => ∃ (A : Nat → Nat) (L1 L2 : List (Option JB)) (K : List (Nat × SCE)), mR L1 L2 K s.2.1 s.2.2.1 s.2.2.2.1 z ∧ stars [mo m A s.1 z.1 s.2.1.length z.2.1 s.2.2.1.length K.length, stn (A 0) s.2.2.2.2.1 (s.1 20) (s.2.2.2.2.2 1) (s.2.2.2.2.2 2), ar4 (A 6) 16 L1, ar4 (A 10) 32 L2, ar5 (A 15) 8 K, lst slt L1, lst slt L2, lst sce K] h
theorem mst_O {m : Nat} {s : MS} {z : HD} : isO (mst m s z) m 3 := by
  rintro h ⟨A, L1, L2, K, -, k⟩
  exact ⟨_, stars_at _ 0 k rfl⟩
theorem mst_o {m : Nat} {s : MS} {z : HD} {X : List sA} {h : eH} (k : stars (mst m s z :: X) h) : ∃ (A : Nat → Nat) (L1 L2 : List (Option JB)) (K : List (Nat × SCE)), mR L1 L2 K s.2.1 s.2.2.1 s.2.2.2.1 z ∧ stars ([mo m A s.1 z.1 s.2.1.length z.2.1 s.2.2.1.length K.length, stn (A 0) s.2.2.2.2.1 (s.1 20) (s.2.2.2.2.2 1) (s.2.2.2.2.2 2), ar4 (A 6) 16 L1, ar4 (A 10) 32 L2, ar5 (A 15) 8 K, lst slt L1, lst slt L2, lst sce K] ++ X) h := by
  obtain ⟨h1, h2, hu, hj, ⟨A, L1, L2, K, r, k⟩, q⟩ := k
  exact ⟨A, L1, L2, K, r, (stars_app _ X).mpr ⟨h1, h2, hu, hj, k, q⟩⟩
theorem mst_c {m : Nat} {s : MS} {z : HD} {A : Nat → Nat} {L1 L2 : List (Option JB)} {K : List (Nat × SCE)} {X : List sA} {h : eH} (r : mR L1 L2 K s.2.1 s.2.2.1 s.2.2.2.1 z) (k : stars ([mo m A s.1 z.1 s.2.1.length z.2.1 s.2.2.1.length K.length, stn (A 0) s.2.2.2.2.1 (s.1 20) (s.2.2.2.2.2 1) (s.2.2.2.2.2 2), ar4 (A 6) 16 L1, ar4 (A 10) 32 L2, ar5 (A 15) 8 K, lst slt L1, lst slt L2, lst sce K] ++ X) h) : stars (mst m s z :: X) h := stars_close k (fun h' k' => ⟨A, L1, L2, K, r, k'⟩)
theorem job_at {L : List (Option JB)} {i : Nat} {j : JB} {X : List sA} {h : eH} (hx : L[i]? = some (some j)) (k : stars (lst slt L :: X) h) : stars (job j.1 j.2.1 j.2.2 :: lst slt (L.eraseIdx i) :: X) h := lst_o i hx k
