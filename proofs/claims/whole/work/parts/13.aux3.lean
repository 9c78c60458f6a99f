theorem nx_xor (a b : Nat) : nI a ^^^ nI b = nI (a ^^^ b) := by
  apply Int32.toBitVec_inj.mp
  simp only [Int32.toBitVec_xor, nI, Int32.toBitVec_ofNat]
  apply BitVec.eq_of_toNat_eq
  simp [BitVec.toNat_xor, BitVec.toNat_ofNat, Nat.xor_mod_two_pow]
/-- SUM: one bit, eight bits, a row -/
def cr1 (c : Nat) : Nat := if c % 2 = 1 then (c / 2) ^^^ 40961 else c / 2
def cr8 : Nat → Nat → Nat
  | 0, c => c
  | k + 1, c => cr8 k (cr1 c)
def crs (l : List Nat) : Nat := l.foldl (fun c b => cr8 8 (c ^^^ b)) 65535
theorem xor16 {a b : Nat} (ha : a < 65536) (hb : b < 65536) : a ^^^ b < 65536 := Nat.xor_lt_two_pow (n := 16) ha hb
theorem cr1_lt {c : Nat} (h : c < 65536) : cr1 c < 65536 := by
  unfold cr1
  split
  · exact xor16 (by omega) (by decide)
  · omega
theorem cr8_lt : ∀ (k : Nat) {c : Nat}, c < 65536 → cr8 k c < 65536
  | 0, _, h => h
  | k + 1, _, h => cr8_lt k (cr1_lt h)
theorem cr8_succ' : ∀ (k c : Nat), cr8 (k + 1) c = cr1 (cr8 k c)
  | 0, _ => rfl
  | k + 1, c => by rw [cr8, cr8_succ' k, cr8]
theorem crs_lt {l : List Nat} (h : ∀ x ∈ l, x < 65536) : crs l < 65536 := by
  unfold crs
  have : ∀ (l : List Nat) (c : Nat), c < 65536 → (∀ x ∈ l, x < 65536) → l.foldl (fun c b => cr8 8 (c ^^^ b)) c < 65536 := by
    intro l
    induction l with
    | nil => intro c hc _; exact hc
    | cons x l ih => intro c hc hl; exact ih _ (cr8_lt 8 (xor16 hc (hl x List.mem_cons_self))) (fun y hy => hl y (List.mem_cons_of_mem _ hy))
  exact this l 65535 (by decide) h
theorem crs_take {l : List Nat} {i : Nat} (h : i < l.length) : crs (l.take (i + 1)) = cr8 8 (crs (l.take i) ^^^ l.getD i 0) := by
  unfold crs
  rw [List.take_succ_eq_append_getElem h, List.foldl_append]
  simp [List.getD, h]
theorem gd_lt {l : List Nat} {i B : Nat} (h : ∀ x ∈ l, x < B) (hB : 0 < B) : l.getD i 0 < B := by
  by_cases q : i < l.length
  · simp only [List.getD, List.getElem?_eq_getElem q, Option.getD_some]
    exact h _ (List.getElem_mem q)
  · rw [gd_out (by omega)]; exact hB
theorem gd_tail {r : List Nat} {i : Nat} : r.tail.getD i 0 = r.getD (i + 1) 0 := by
  cases r <;> simp [List.getD]
theorem upd_zero {f : Nat → Int32} {i : Nat} (hz : ∀ j, j < i → f j = 0) : ∀ j, j < i + 1 → upd f i (nI 0) j = 0 := by
  intro j hj
  by_cases e : j = i
  · rw [e, pk_us]; rfl
  · rw [pk_un e]; exact hz j (by omega)
theorem max0 {m : Nat} (hm : m < 2 ^ 31) : (if nI 0 < nI m then nI m else nI 0) = nI m := by
  by_cases e : m = 0
  · rw [e]; decide
  · exact if_pos (nI_lt (by omega) hm)
