/-! the rules once more, for walks that know more of their context (PP) and owe another end (FF): laid by wip/gen/srules.py out of parts 04 to 085 -/
abbrev PC9 : Type := Launch → State → (Nat → Prop) → Array Value → Code → Prop
abbrev FC9 : Type := List Frame → Array Value → State → va_G → (Nat → ClassId) → (Nat → Prop) → State → Prop
def ES (PP : PC9) (FF : FC9) (M : MD) (fr lo mc ms : Nat) (pc : Nat) (ls : List (Option Value)) (st : List Value) (h : eH) (ce sl : Nat) : Prop :=
  ∀ (p : Program) (l : Launch) (e : Env) (s : State) (m : MethodId) (args : Array Value) (below : List Frame) (meth : Method) (c : Code) (H : Heap) (locs : List Loc) (D : va_G) (cA : Nat → ClassId) (A : Nat → Prop) (lsA : Array Slot), e_X M D cA A p s m args meth c l → PP l s A args c → e_rp D cA A h H → va_S A s.heap H locs → e_L ls lsA M.2.2.1 →
    W p l e { frames := fr, cells := mc, slots := ms, locals := lo } s m args below meth c H locs ce sl (FF below args s D cA A) (F0 m pc lsA st)
section ES
variable {PP : PC9} {FF : FC9} {M : MD} {fr lo mc ms : Nat} {pc ce sl : Nat} {ls : List (Option Value)} {st : List Value} {h : eH}
theorem s_iconst (np : Nat) {n : Int} {v : Int32} (hd : decode M.2.1 pc = .ok (.iconst n, 1)) (hn : pc + 1 = np) (hv : Int32.ofInt n = v) (k : ES PP FF M fr lo mc ms np ls (.int v :: st) h ce sl) : ES PP FF M fr lo mc ms pc ls st h ce sl := by
  subst hn
  intro p l e s m args below meth c H locs D cA A lsA X Z9 R S L
  exact lv_iconst X.1 X.2.1 hd hv (k p l e s m args below meth c H locs D cA A lsA X Z9 R S L)
theorem s_bipush (np : Nat) {n : Int} {v : Int32} (hd : decode M.2.1 pc = .ok (.bipush n, 2)) (hn : pc + 2 = np) (hv : (Int8.ofInt n).toInt32 = v) (k : ES PP FF M fr lo mc ms np ls (.int v :: st) h ce sl) : ES PP FF M fr lo mc ms pc ls st h ce sl := by
  subst hn
  intro p l e s m args below meth c H locs D cA A lsA X Z9 R S L
  exact lv_bipush X.1 X.2.1 hd hv (k p l e s m args below meth c H locs D cA A lsA X Z9 R S L)
theorem s_sipush (np : Nat) {n : Int} {v : Int32} (hd : decode M.2.1 pc = .ok (.sipush n, 3)) (hn : pc + 3 = np) (hv : (Int16.ofInt n).toInt32 = v) (k : ES PP FF M fr lo mc ms np ls (.int v :: st) h ce sl) : ES PP FF M fr lo mc ms pc ls st h ce sl := by
  subst hn
  intro p l e s m args below meth c H locs D cA A lsA X Z9 R S L
  exact lv_sipush X.1 X.2.1 hd hv (k p l e s m args below meth c H locs D cA A lsA X Z9 R S L)
theorem s_iload_n (np : Nat) {i : Fin 4} {x : Int32} (hd : decode M.2.1 pc = .ok (.iload_n i, 1)) (hn : pc + 1 = np) (hl : ls[i.val]? = some (some (.int x))) (k : ES PP FF M fr lo mc ms np ls (.int x :: st) h ce sl) : ES PP FF M fr lo mc ms pc ls st h ce sl := by
  subst hn
  intro p l e s m args below meth c H locs D cA A lsA X Z9 R S L
  exact lv_iload_n X.1 X.2.1 hd rfl (L.at hl) (k p l e s m args below meth c H locs D cA A lsA X Z9 R S L)
theorem s_iload (np : Nat) {i : Nat} {x : Int32} (hd : decode M.2.1 pc = .ok (.iload i, 2)) (hn : pc + 2 = np) (hl : ls[i]? = some (some (.int x))) (k : ES PP FF M fr lo mc ms np ls (.int x :: st) h ce sl) : ES PP FF M fr lo mc ms pc ls st h ce sl := by
  subst hn
  intro p l e s m args below meth c H locs D cA A lsA X Z9 R S L
  exact lv_iload X.1 X.2.1 hd (L.at hl) (k p l e s m args below meth c H locs D cA A lsA X Z9 R S L)
theorem s_aload_n (np : Nat) {i : Fin 4} {x : Nat} (hd : decode M.2.1 pc = .ok (.aload_n i, 1)) (hn : pc + 1 = np) (hl : ls[i.val]? = some (some (.ref x))) (k : ES PP FF M fr lo mc ms np ls (.ref x :: st) h ce sl) : ES PP FF M fr lo mc ms pc ls st h ce sl := by
  subst hn
  intro p l e s m args below meth c H locs D cA A lsA X Z9 R S L
  exact lv_aload_n X.1 X.2.1 hd rfl (L.at hl) (k p l e s m args below meth c H locs D cA A lsA X Z9 R S L)
theorem s_aload_nN (np : Nat) {i : Fin 4} (hd : decode M.2.1 pc = .ok (.aload_n i, 1)) (hn : pc + 1 = np) (hl : ls[i.val]? = some (some .null)) (k : ES PP FF M fr lo mc ms np ls (.null :: st) h ce sl) : ES PP FF M fr lo mc ms pc ls st h ce sl := by
  subst hn
  intro p l e s m args below meth c H locs D cA A lsA X Z9 R S L
  exact lv_aload_nN X.1 X.2.1 hd rfl (L.at hl) (k p l e s m args below meth c H locs D cA A lsA X Z9 R S L)
theorem s_aload (np : Nat) {i : Nat} {x : Nat} (hd : decode M.2.1 pc = .ok (.aload i, 2)) (hn : pc + 2 = np) (hl : ls[i]? = some (some (.ref x))) (k : ES PP FF M fr lo mc ms np ls (.ref x :: st) h ce sl) : ES PP FF M fr lo mc ms pc ls st h ce sl := by
  subst hn
  intro p l e s m args below meth c H locs D cA A lsA X Z9 R S L
  exact lv_aload X.1 X.2.1 hd (L.at hl) (k p l e s m args below meth c H locs D cA A lsA X Z9 R S L)
theorem s_aloadN (np : Nat) {i : Nat} (hd : decode M.2.1 pc = .ok (.aload i, 2)) (hn : pc + 2 = np) (hl : ls[i]? = some (some .null)) (k : ES PP FF M fr lo mc ms np ls (.null :: st) h ce sl) : ES PP FF M fr lo mc ms pc ls st h ce sl := by
  subst hn
  intro p l e s m args below meth c H locs D cA A lsA X Z9 R S L
  exact lv_aloadN X.1 X.2.1 hd (L.at hl) (k p l e s m args below meth c H locs D cA A lsA X Z9 R S L)
theorem s_istore_n (np : Nat) {i : Fin 4} {x : Int32} (hd : decode M.2.1 pc = .ok (.istore_n i, 1)) (hn : pc + 1 = np) {ls' : List (Option Value)} (hm : i.val < M.2.2.1) (hs : ls.set i.val (some (.int x)) = ls') (k : ES PP FF M fr lo mc ms np ls' st h ce sl) : ES PP FF M fr lo mc ms pc ls ((.int x) :: st) h ce sl := by
  subst hn; subst hs
  intro p l e s m args below meth c H locs D cA A lsA X Z9 R S L
  exact lv_istore_n X.1 X.2.1 hd rfl L.1 hm rfl (fun ls' hl => k p l e s m args below meth c H locs D cA A ls' X Z9 R S (L.set rfl hl))
theorem s_istore (np : Nat) {i : Nat} {x : Int32} (hd : decode M.2.1 pc = .ok (.istore i, 2)) (hn : pc + 2 = np) {ls' : List (Option Value)} (hm : i < M.2.2.1) (hs : ls.set i (some (.int x)) = ls') (k : ES PP FF M fr lo mc ms np ls' st h ce sl) : ES PP FF M fr lo mc ms pc ls ((.int x) :: st) h ce sl := by
  subst hn; subst hs
  intro p l e s m args below meth c H locs D cA A lsA X Z9 R S L
  exact lv_istore X.1 X.2.1 hd L.1 hm rfl (fun ls' hl => k p l e s m args below meth c H locs D cA A ls' X Z9 R S (L.set rfl hl))
theorem s_astore_n (np : Nat) {i : Fin 4} {x : Nat} (hd : decode M.2.1 pc = .ok (.astore_n i, 1)) (hn : pc + 1 = np) {ls' : List (Option Value)} (hm : i.val < M.2.2.1) (hs : ls.set i.val (some (.ref x)) = ls') (k : ES PP FF M fr lo mc ms np ls' st h ce sl) : ES PP FF M fr lo mc ms pc ls ((.ref x) :: st) h ce sl := by
  subst hn; subst hs
  intro p l e s m args below meth c H locs D cA A lsA X Z9 R S L
  exact lv_astore_n X.1 X.2.1 hd rfl L.1 hm rfl (fun ls' hl => k p l e s m args below meth c H locs D cA A ls' X Z9 R S (L.set rfl hl))
theorem s_astore_nN (np : Nat) {i : Fin 4} (hd : decode M.2.1 pc = .ok (.astore_n i, 1)) (hn : pc + 1 = np) {ls' : List (Option Value)} (hm : i.val < M.2.2.1) (hs : ls.set i.val (some .null) = ls') (k : ES PP FF M fr lo mc ms np ls' st h ce sl) : ES PP FF M fr lo mc ms pc ls (.null :: st) h ce sl := by
  subst hn; subst hs
  intro p l e s m args below meth c H locs D cA A lsA X Z9 R S L
  exact lv_astore_nN X.1 X.2.1 hd rfl L.1 hm rfl (fun ls' hl => k p l e s m args below meth c H locs D cA A ls' X Z9 R S (L.set rfl hl))
theorem s_astore (np : Nat) {i : Nat} {x : Nat} (hd : decode M.2.1 pc = .ok (.astore i, 2)) (hn : pc + 2 = np) {ls' : List (Option Value)} (hm : i < M.2.2.1) (hs : ls.set i (some (.ref x)) = ls') (k : ES PP FF M fr lo mc ms np ls' st h ce sl) : ES PP FF M fr lo mc ms pc ls ((.ref x) :: st) h ce sl := by
  subst hn; subst hs
  intro p l e s m args below meth c H locs D cA A lsA X Z9 R S L
  exact lv_astore X.1 X.2.1 hd L.1 hm rfl (fun ls' hl => k p l e s m args below meth c H locs D cA A ls' X Z9 R S (L.set rfl hl))
theorem s_astoreN (np : Nat) {i : Nat} (hd : decode M.2.1 pc = .ok (.astore i, 2)) (hn : pc + 2 = np) {ls' : List (Option Value)} (hm : i < M.2.2.1) (hs : ls.set i (some .null) = ls') (k : ES PP FF M fr lo mc ms np ls' st h ce sl) : ES PP FF M fr lo mc ms pc ls (.null :: st) h ce sl := by
  subst hn; subst hs
  intro p l e s m args below meth c H locs D cA A lsA X Z9 R S L
  exact lv_astoreN X.1 X.2.1 hd L.1 hm rfl (fun ls' hl => k p l e s m args below meth c H locs D cA A ls' X Z9 R S (L.set rfl hl))
theorem s_iinc (np : Nat) {i : Nat} {n : Int} {x v : Int32} (hd : decode M.2.1 pc = .ok (.iinc i n, 3)) (hn : pc + 3 = np) {ls' : List (Option Value)} (hl : ls[i]? = some (some (.int x))) (hv : x + Int32.ofInt n = v) (hm : i < M.2.2.1) (hs : ls.set i (some (.int v)) = ls') (k : ES PP FF M fr lo mc ms np ls' st h ce sl) : ES PP FF M fr lo mc ms pc ls st h ce sl := by
  subst hn; subst hs
  intro p l e s m args below meth c H locs D cA A lsA X Z9 R S L
  obtain ⟨q, hq⟩ := List.getElem?_of_mem ((e_al_mem 0 ls).mpr ⟨i, (Nat.zero_add i).symm, hl⟩)
  exact lv_iinc X.1 X.2.1 hd L.1 hq hv hm rfl (fun ls' hl => k p l e s m args below meth c H locs D cA A ls' X Z9 R S (L.set rfl hl))
theorem s_iadd (np : Nat) {x y v : Int32} (hd : decode M.2.1 pc = .ok (.iadd, 1)) (hn : pc + 1 = np) (hv : x + y = v) (k : ES PP FF M fr lo mc ms np ls (.int v :: st) h ce sl) : ES PP FF M fr lo mc ms pc ls (.int y :: .int x :: st) h ce sl := by
  subst hn
  intro p l e s m args below meth c H locs D cA A lsA X Z9 R S L
  exact lv_iadd X.1 X.2.1 hd (by rw [hv]; exact (k p l e s m args below meth c H locs D cA A lsA X Z9 R S L))
theorem s_isub (np : Nat) {x y v : Int32} (hd : decode M.2.1 pc = .ok (.isub, 1)) (hn : pc + 1 = np) (hv : x - y = v) (k : ES PP FF M fr lo mc ms np ls (.int v :: st) h ce sl) : ES PP FF M fr lo mc ms pc ls (.int y :: .int x :: st) h ce sl := by
  subst hn
  intro p l e s m args below meth c H locs D cA A lsA X Z9 R S L
  exact lv_isub X.1 X.2.1 hd (by rw [hv]; exact (k p l e s m args below meth c H locs D cA A lsA X Z9 R S L))
theorem s_imul (np : Nat) {x y v : Int32} (hd : decode M.2.1 pc = .ok (.imul, 1)) (hn : pc + 1 = np) (hv : x * y = v) (k : ES PP FF M fr lo mc ms np ls (.int v :: st) h ce sl) : ES PP FF M fr lo mc ms pc ls (.int y :: .int x :: st) h ce sl := by
  subst hn
  intro p l e s m args below meth c H locs D cA A lsA X Z9 R S L
  exact lv_imul X.1 X.2.1 hd (by rw [hv]; exact (k p l e s m args below meth c H locs D cA A lsA X Z9 R S L))
theorem s_iand (np : Nat) {x y v : Int32} (hd : decode M.2.1 pc = .ok (.iand, 1)) (hn : pc + 1 = np) (hv : x &&& y = v) (k : ES PP FF M fr lo mc ms np ls (.int v :: st) h ce sl) : ES PP FF M fr lo mc ms pc ls (.int y :: .int x :: st) h ce sl := by
  subst hn
  intro p l e s m args below meth c H locs D cA A lsA X Z9 R S L
  exact lv_iand X.1 X.2.1 hd (by rw [hv]; exact (k p l e s m args below meth c H locs D cA A lsA X Z9 R S L))
theorem s_ior (np : Nat) {x y v : Int32} (hd : decode M.2.1 pc = .ok (.ior, 1)) (hn : pc + 1 = np) (hv : x ||| y = v) (k : ES PP FF M fr lo mc ms np ls (.int v :: st) h ce sl) : ES PP FF M fr lo mc ms pc ls (.int y :: .int x :: st) h ce sl := by
  subst hn
  intro p l e s m args below meth c H locs D cA A lsA X Z9 R S L
  exact lv_ior X.1 X.2.1 hd (by rw [hv]; exact (k p l e s m args below meth c H locs D cA A lsA X Z9 R S L))
theorem s_ixor (np : Nat) {x y v : Int32} (hd : decode M.2.1 pc = .ok (.ixor, 1)) (hn : pc + 1 = np) (hv : x ^^^ y = v) (k : ES PP FF M fr lo mc ms np ls (.int v :: st) h ce sl) : ES PP FF M fr lo mc ms pc ls (.int y :: .int x :: st) h ce sl := by
  subst hn
  intro p l e s m args below meth c H locs D cA A lsA X Z9 R S L
  exact lv_ixor X.1 X.2.1 hd (by rw [hv]; exact (k p l e s m args below meth c H locs D cA A lsA X Z9 R S L))
theorem s_ishl (np : Nat) {x y v : Int32} (hd : decode M.2.1 pc = .ok (.ishl, 1)) (hn : pc + 1 = np) (hv : x <<< (y &&& 31) = v) (k : ES PP FF M fr lo mc ms np ls (.int v :: st) h ce sl) : ES PP FF M fr lo mc ms pc ls (.int y :: .int x :: st) h ce sl := by
  subst hn
  intro p l e s m args below meth c H locs D cA A lsA X Z9 R S L
  exact lv_ishl X.1 X.2.1 hd (by rw [hv]; exact (k p l e s m args below meth c H locs D cA A lsA X Z9 R S L))
theorem s_ishr (np : Nat) {x y v : Int32} (hd : decode M.2.1 pc = .ok (.ishr, 1)) (hn : pc + 1 = np) (hv : x >>> (y &&& 31) = v) (k : ES PP FF M fr lo mc ms np ls (.int v :: st) h ce sl) : ES PP FF M fr lo mc ms pc ls (.int y :: .int x :: st) h ce sl := by
  subst hn
  intro p l e s m args below meth c H locs D cA A lsA X Z9 R S L
  exact lv_ishr X.1 X.2.1 hd (by rw [hv]; exact (k p l e s m args below meth c H locs D cA A lsA X Z9 R S L))
theorem s_idiv (np : Nat) {x y v : Int32} (hd : decode M.2.1 pc = .ok (.idiv, 1)) (hn : pc + 1 = np) (hne : ¬ y = 0) (hv : x / y = v) (k : ES PP FF M fr lo mc ms np ls (.int v :: st) h ce sl) : ES PP FF M fr lo mc ms pc ls (.int y :: .int x :: st) h ce sl := by
  subst hn
  intro p l e s m args below meth c H locs D cA A lsA X Z9 R S L
  exact lv_idiv X.1 X.2.1 hd hne (by rw [hv]; exact (k p l e s m args below meth c H locs D cA A lsA X Z9 R S L))
theorem s_irem (np : Nat) {x y v : Int32} (hd : decode M.2.1 pc = .ok (.irem, 1)) (hn : pc + 1 = np) (hne : ¬ y = 0) (hv : x - x / y * y = v) (k : ES PP FF M fr lo mc ms np ls (.int v :: st) h ce sl) : ES PP FF M fr lo mc ms pc ls (.int y :: .int x :: st) h ce sl := by
  subst hn
  intro p l e s m args below meth c H locs D cA A lsA X Z9 R S L
  exact lv_irem X.1 X.2.1 hd hne (by rw [hv]; exact (k p l e s m args below meth c H locs D cA A lsA X Z9 R S L))
theorem s_iushr (np : Nat) {x y v : Int32} (hd : decode M.2.1 pc = .ok (.iushr, 1)) (hn : pc + 1 = np) (hv : (x.toUInt32 >>> (y.toUInt32 &&& Int32.toUInt32 31)).toInt32 = v) (k : ES PP FF M fr lo mc ms np ls (.int v :: st) h ce sl) : ES PP FF M fr lo mc ms pc ls (.int y :: .int x :: st) h ce sl := by
  subst hn
  intro p l e s m args below meth c H locs D cA A lsA X Z9 R S L
  exact lv_iushr X.1 X.2.1 hd hv (k p l e s m args below meth c H locs D cA A lsA X Z9 R S L)
theorem s_dup (np : Nat) {w : Value} (hd : decode M.2.1 pc = .ok (.dup, 1)) (hn : pc + 1 = np) (hw : w.category = 1) (k : ES PP FF M fr lo mc ms np ls (w :: w :: st) h ce sl) : ES PP FF M fr lo mc ms pc ls (w :: st) h ce sl := by
  subst hn
  intro p l e s m args below meth c H locs D cA A lsA X Z9 R S L
  exact lv_dup X.1 X.2.1 hd hw (k p l e s m args below meth c H locs D cA A lsA X Z9 R S L)
theorem s_dup2 (np : Nat) {w z : Value} (hd : decode M.2.1 pc = .ok (.dup2, 1)) (hn : pc + 1 = np) (hw : w.category = 1) (hz : z.category = 1) (k : ES PP FF M fr lo mc ms np ls (w :: z :: w :: z :: st) h ce sl) : ES PP FF M fr lo mc ms pc ls (w :: z :: st) h ce sl := by
  subst hn
  intro p l e s m args below meth c H locs D cA A lsA X Z9 R S L
  exact lv_dup2_11 X.1 X.2.1 hd hw hz (k p l e s m args below meth c H locs D cA A lsA X Z9 R S L)
theorem s_pop (np : Nat) {w : Value} (hd : decode M.2.1 pc = .ok (.pop, 1)) (hn : pc + 1 = np) (hw : w.category = 1) (k : ES PP FF M fr lo mc ms np ls st h ce sl) : ES PP FF M fr lo mc ms pc ls (w :: st) h ce sl := by
  subst hn
  intro p l e s m args below meth c H locs D cA A lsA X Z9 R S L
  exact lv_pop X.1 X.2.1 hd hw (k p l e s m args below meth c H locs D cA A lsA X Z9 R S L)
theorem s_i2l (np : Nat) {x : Int32} {v : Int64} (hd : decode M.2.1 pc = .ok (.i2l, 1)) (hn : pc + 1 = np) (hv : x.toInt64 = v) (k : ES PP FF M fr lo mc ms np ls (.long v :: st) h ce sl) : ES PP FF M fr lo mc ms pc ls (.int x :: st) h ce sl := by
  subst hn
  intro p l e s m args below meth c H locs D cA A lsA X Z9 R S L
  exact lv_i2l X.1 X.2.1 hd hv (k p l e s m args below meth c H locs D cA A lsA X Z9 R S L)
theorem s_null (np : Nat) (hd : decode M.2.1 pc = .ok (.aconst_null, 1)) (hn : pc + 1 = np) (k : ES PP FF M fr lo mc ms np ls (.null :: st) h ce sl) : ES PP FF M fr lo mc ms pc ls st h ce sl := by
  subst hn
  intro p l e s m args below meth c H locs D cA A lsA X Z9 R S L
  exact lv_null X.1 X.2.1 hd (k p l e s m args below meth c H locs D cA A lsA X Z9 R S L)
theorem s_if_eq (tg np : Nat) {x : Int32} {off : Int} (hd : decode M.2.1 pc = .ok (.ifCond .eq off, 3)) (ht : (pc : Int) + off = (tg : Int)) (hn : pc + 3 = np) (kt : x = 0 → ES PP FF M fr lo mc ms tg ls st h ce sl) (kf : ¬ x = 0 → ES PP FF M fr lo mc ms np ls st h ce sl) : ES PP FF M fr lo mc ms pc ls (.int x :: st) h ce sl := by
  subst hn
  intro p l e s m args below meth c H locs D cA A lsA X Z9 R S L
  exact lv_if_eq X.1 X.2.1 hd ht (fun q => kt q p l e s m args below meth c H locs D cA A lsA X Z9 R S L) (fun q => kf q p l e s m args below meth c H locs D cA A lsA X Z9 R S L)
theorem s_icmp_eq (tg np : Nat) {x y : Int32} {off : Int} (hd : decode M.2.1 pc = .ok (.if_icmp .eq off, 3)) (ht : (pc : Int) + off = (tg : Int)) (hn : pc + 3 = np) (kt : x = y → ES PP FF M fr lo mc ms tg ls st h ce sl) (kf : ¬ x = y → ES PP FF M fr lo mc ms np ls st h ce sl) : ES PP FF M fr lo mc ms pc ls (.int y :: .int x :: st) h ce sl := by
  subst hn
  intro p l e s m args below meth c H locs D cA A lsA X Z9 R S L
  exact lv_icmp_eq X.1 X.2.1 hd ht (fun q => kt q p l e s m args below meth c H locs D cA A lsA X Z9 R S L) (fun q => kf q p l e s m args below meth c H locs D cA A lsA X Z9 R S L)
theorem s_if_ne (tg np : Nat) {x : Int32} {off : Int} (hd : decode M.2.1 pc = .ok (.ifCond .ne off, 3)) (ht : (pc : Int) + off = (tg : Int)) (hn : pc + 3 = np) (kt : ¬ x = 0 → ES PP FF M fr lo mc ms tg ls st h ce sl) (kf : x = 0 → ES PP FF M fr lo mc ms np ls st h ce sl) : ES PP FF M fr lo mc ms pc ls (.int x :: st) h ce sl := by
  subst hn
  intro p l e s m args below meth c H locs D cA A lsA X Z9 R S L
  exact lv_if_ne X.1 X.2.1 hd ht (fun q => kt q p l e s m args below meth c H locs D cA A lsA X Z9 R S L) (fun q => kf q p l e s m args below meth c H locs D cA A lsA X Z9 R S L)
theorem s_icmp_ne (tg np : Nat) {x y : Int32} {off : Int} (hd : decode M.2.1 pc = .ok (.if_icmp .ne off, 3)) (ht : (pc : Int) + off = (tg : Int)) (hn : pc + 3 = np) (kt : ¬ x = y → ES PP FF M fr lo mc ms tg ls st h ce sl) (kf : x = y → ES PP FF M fr lo mc ms np ls st h ce sl) : ES PP FF M fr lo mc ms pc ls (.int y :: .int x :: st) h ce sl := by
  subst hn
  intro p l e s m args below meth c H locs D cA A lsA X Z9 R S L
  exact lv_icmp_ne X.1 X.2.1 hd ht (fun q => kt q p l e s m args below meth c H locs D cA A lsA X Z9 R S L) (fun q => kf q p l e s m args below meth c H locs D cA A lsA X Z9 R S L)
theorem s_if_lt (tg np : Nat) {x : Int32} {off : Int} (hd : decode M.2.1 pc = .ok (.ifCond .lt off, 3)) (ht : (pc : Int) + off = (tg : Int)) (hn : pc + 3 = np) (kt : x < 0 → ES PP FF M fr lo mc ms tg ls st h ce sl) (kf : ¬ x < 0 → ES PP FF M fr lo mc ms np ls st h ce sl) : ES PP FF M fr lo mc ms pc ls (.int x :: st) h ce sl := by
  subst hn
  intro p l e s m args below meth c H locs D cA A lsA X Z9 R S L
  exact lv_if_lt X.1 X.2.1 hd ht (fun q => kt q p l e s m args below meth c H locs D cA A lsA X Z9 R S L) (fun q => kf q p l e s m args below meth c H locs D cA A lsA X Z9 R S L)
theorem s_icmp_lt (tg np : Nat) {x y : Int32} {off : Int} (hd : decode M.2.1 pc = .ok (.if_icmp .lt off, 3)) (ht : (pc : Int) + off = (tg : Int)) (hn : pc + 3 = np) (kt : x < y → ES PP FF M fr lo mc ms tg ls st h ce sl) (kf : ¬ x < y → ES PP FF M fr lo mc ms np ls st h ce sl) : ES PP FF M fr lo mc ms pc ls (.int y :: .int x :: st) h ce sl := by
  subst hn
  intro p l e s m args below meth c H locs D cA A lsA X Z9 R S L
  exact lv_icmp_lt X.1 X.2.1 hd ht (fun q => kt q p l e s m args below meth c H locs D cA A lsA X Z9 R S L) (fun q => kf q p l e s m args below meth c H locs D cA A lsA X Z9 R S L)
theorem s_if_ge (tg np : Nat) {x : Int32} {off : Int} (hd : decode M.2.1 pc = .ok (.ifCond .ge off, 3)) (ht : (pc : Int) + off = (tg : Int)) (hn : pc + 3 = np) (kt : 0 ≤ x → ES PP FF M fr lo mc ms tg ls st h ce sl) (kf : ¬ 0 ≤ x → ES PP FF M fr lo mc ms np ls st h ce sl) : ES PP FF M fr lo mc ms pc ls (.int x :: st) h ce sl := by
  subst hn
  intro p l e s m args below meth c H locs D cA A lsA X Z9 R S L
  exact lv_if_ge X.1 X.2.1 hd ht (fun q => kt q p l e s m args below meth c H locs D cA A lsA X Z9 R S L) (fun q => kf q p l e s m args below meth c H locs D cA A lsA X Z9 R S L)
theorem s_icmp_ge (tg np : Nat) {x y : Int32} {off : Int} (hd : decode M.2.1 pc = .ok (.if_icmp .ge off, 3)) (ht : (pc : Int) + off = (tg : Int)) (hn : pc + 3 = np) (kt : y ≤ x → ES PP FF M fr lo mc ms tg ls st h ce sl) (kf : ¬ y ≤ x → ES PP FF M fr lo mc ms np ls st h ce sl) : ES PP FF M fr lo mc ms pc ls (.int y :: .int x :: st) h ce sl := by
  subst hn
  intro p l e s m args below meth c H locs D cA A lsA X Z9 R S L
  exact lv_icmp_ge X.1 X.2.1 hd ht (fun q => kt q p l e s m args below meth c H locs D cA A lsA X Z9 R S L) (fun q => kf q p l e s m args below meth c H locs D cA A lsA X Z9 R S L)
theorem s_if_gt (tg np : Nat) {x : Int32} {off : Int} (hd : decode M.2.1 pc = .ok (.ifCond .gt off, 3)) (ht : (pc : Int) + off = (tg : Int)) (hn : pc + 3 = np) (kt : 0 < x → ES PP FF M fr lo mc ms tg ls st h ce sl) (kf : ¬ 0 < x → ES PP FF M fr lo mc ms np ls st h ce sl) : ES PP FF M fr lo mc ms pc ls (.int x :: st) h ce sl := by
  subst hn
  intro p l e s m args below meth c H locs D cA A lsA X Z9 R S L
  exact lv_if_gt X.1 X.2.1 hd ht (fun q => kt q p l e s m args below meth c H locs D cA A lsA X Z9 R S L) (fun q => kf q p l e s m args below meth c H locs D cA A lsA X Z9 R S L)
theorem s_icmp_gt (tg np : Nat) {x y : Int32} {off : Int} (hd : decode M.2.1 pc = .ok (.if_icmp .gt off, 3)) (ht : (pc : Int) + off = (tg : Int)) (hn : pc + 3 = np) (kt : y < x → ES PP FF M fr lo mc ms tg ls st h ce sl) (kf : ¬ y < x → ES PP FF M fr lo mc ms np ls st h ce sl) : ES PP FF M fr lo mc ms pc ls (.int y :: .int x :: st) h ce sl := by
  subst hn
  intro p l e s m args below meth c H locs D cA A lsA X Z9 R S L
  exact lv_icmp_gt X.1 X.2.1 hd ht (fun q => kt q p l e s m args below meth c H locs D cA A lsA X Z9 R S L) (fun q => kf q p l e s m args below meth c H locs D cA A lsA X Z9 R S L)
theorem s_if_le (tg np : Nat) {x : Int32} {off : Int} (hd : decode M.2.1 pc = .ok (.ifCond .le off, 3)) (ht : (pc : Int) + off = (tg : Int)) (hn : pc + 3 = np) (kt : x ≤ 0 → ES PP FF M fr lo mc ms tg ls st h ce sl) (kf : ¬ x ≤ 0 → ES PP FF M fr lo mc ms np ls st h ce sl) : ES PP FF M fr lo mc ms pc ls (.int x :: st) h ce sl := by
  subst hn
  intro p l e s m args below meth c H locs D cA A lsA X Z9 R S L
  exact lv_if_le X.1 X.2.1 hd ht (fun q => kt q p l e s m args below meth c H locs D cA A lsA X Z9 R S L) (fun q => kf q p l e s m args below meth c H locs D cA A lsA X Z9 R S L)
theorem s_icmp_le (tg np : Nat) {x y : Int32} {off : Int} (hd : decode M.2.1 pc = .ok (.if_icmp .le off, 3)) (ht : (pc : Int) + off = (tg : Int)) (hn : pc + 3 = np) (kt : x ≤ y → ES PP FF M fr lo mc ms tg ls st h ce sl) (kf : ¬ x ≤ y → ES PP FF M fr lo mc ms np ls st h ce sl) : ES PP FF M fr lo mc ms pc ls (.int y :: .int x :: st) h ce sl := by
  subst hn
  intro p l e s m args below meth c H locs D cA A lsA X Z9 R S L
  exact lv_icmp_le X.1 X.2.1 hd ht (fun q => kt q p l e s m args below meth c H locs D cA A lsA X Z9 R S L) (fun q => kf q p l e s m args below meth c H locs D cA A lsA X Z9 R S L)
theorem s_goto (tg : Nat) {off : Int} (hd : decode M.2.1 pc = .ok (.goto off, 3)) (ht : (pc : Int) + off = (tg : Int)) (k : ES PP FF M fr lo mc ms tg ls st h ce sl) : ES PP FF M fr lo mc ms pc ls st h ce sl := by
  intro p l e s m args below meth c H locs D cA A lsA X Z9 R S L
  exact lv_goto X.1 X.2.1 hd ht (k p l e s m args below meth c H locs D cA A lsA X Z9 R S L)
theorem s_ifnonnull (tg : Nat) {x : Nat} {off : Int} (hd : decode M.2.1 pc = .ok (.ifnonnull off, 3)) (ht : (pc : Int) + off = (tg : Int)) (k : ES PP FF M fr lo mc ms tg ls st h ce sl) : ES PP FF M fr lo mc ms pc ls (.ref x :: st) h ce sl := by
  intro p l e s m args below meth c H locs D cA A lsA X Z9 R S L
  exact lv_ifnonnull X.1 X.2.1 hd ht (k p l e s m args below meth c H locs D cA A lsA X Z9 R S L)
theorem s_ifnullN (tg : Nat) {off : Int} (hd : decode M.2.1 pc = .ok (.ifnull off, 3)) (ht : (pc : Int) + off = (tg : Int)) (k : ES PP FF M fr lo mc ms tg ls st h ce sl) : ES PP FF M fr lo mc ms pc ls (.null :: st) h ce sl := by
  intro p l e s m args below meth c H locs D cA A lsA X Z9 R S L
  exact lv_ifnullN X.1 X.2.1 hd ht (k p l e s m args below meth c H locs D cA A lsA X Z9 R S L)
theorem s_ifnull (np : Nat) {x : Nat} {off : Int} (hd : decode M.2.1 pc = .ok (.ifnull off, 3)) (hn : pc + 3 = np) (k : ES PP FF M fr lo mc ms np ls st h ce sl) : ES PP FF M fr lo mc ms pc ls (.ref x :: st) h ce sl := by
  subst hn
  intro p l e s m args below meth c H locs D cA A lsA X Z9 R S L
  exact lv_ifnull X.1 X.2.1 hd (k p l e s m args below meth c H locs D cA A lsA X Z9 R S L)
theorem s_ifnonnullN (np : Nat) {off : Int} (hd : decode M.2.1 pc = .ok (.ifnonnull off, 3)) (hn : pc + 3 = np) (k : ES PP FF M fr lo mc ms np ls st h ce sl) : ES PP FF M fr lo mc ms pc ls (.null :: st) h ce sl := by
  subst hn
  intro p l e s m args below meth c H locs D cA A lsA X Z9 R S L
  exact lv_ifnonnullN X.1 X.2.1 hd (k p l e s m args below meth c H locs D cA A lsA X Z9 R S L)
theorem s_tableOut (tg : Nat) {x : Int32} {dflt lo1 hi1 : Int} {offs : Array Int} {len : Nat} (hd : decode M.2.1 pc = .ok (.tableswitch dflt lo1 hi1 offs, len)) (hx : x.toInt < lo1 ∨ hi1 < x.toInt) (ht : (pc : Int) + dflt = (tg : Int)) (k : ES PP FF M fr lo mc ms tg ls st h ce sl) : ES PP FF M fr lo mc ms pc ls (.int x :: st) h ce sl := by
  intro p l e s m args below meth c H locs D cA A lsA X Z9 R S L
  exact lv_tableOut X.1 X.2.1 hd hx ht (k p l e s m args below meth c H locs D cA A lsA X Z9 R S L)
theorem s_tableIn (tg : Nat) {x : Int32} {dflt lo1 hi1 off : Int} {offs : Array Int} {len : Nat} (hd : decode M.2.1 pc = .ok (.tableswitch dflt lo1 hi1 offs, len)) (h1 : ¬ x.toInt < lo1) (h2 : ¬ hi1 < x.toInt) (ho : offs[(x.toInt - lo1).toNat]? = some off) (ht : (pc : Int) + off = (tg : Int)) (k : ES PP FF M fr lo mc ms tg ls st h ce sl) : ES PP FF M fr lo mc ms pc ls (.int x :: st) h ce sl := by
  intro p l e s m args below meth c H locs D cA A lsA X Z9 R S L
  exact lv_tableIn X.1 X.2.1 hd h1 h2 ho ht (k p l e s m args below meth c H locs D cA A lsA X Z9 R S L)
theorem s_ldc (np : Nat) {index : Nat} {v : Int32} (hd : decode M.2.1 pc = .ok (.ldc index, 2)) (hn : pc + 2 = np) (hw : Cond.constant M.1.cls index v ∈ gw) (k : ES PP FF M fr lo mc ms np ls (.int v :: st) h ce sl) : ES PP FF M fr lo mc ms pc ls st h ce sl := by
  subst hn
  intro p l e s m args below meth c H locs D cA A lsA X Z9 R S L
  exact lv_ldc X.1 X.2.1 X.2.2.2.2.1 (X.2.2.2.2.2.1 _ hw) hd (k p l e s m args below meth c H locs D cA A lsA X Z9 R S L)
theorem s_ldcw (np : Nat) {index : Nat} {v : Int32} (hd : decode M.2.1 pc = .ok (.ldc_w index, 3)) (hn : pc + 3 = np) (hw : Cond.constant M.1.cls index v ∈ gw) (k : ES PP FF M fr lo mc ms np ls (.int v :: st) h ce sl) : ES PP FF M fr lo mc ms pc ls st h ce sl := by
  subst hn
  intro p l e s m args below meth c H locs D cA A lsA X Z9 R S L
  exact lv_ldcw X.1 X.2.1 X.2.2.2.2.1 (X.2.2.2.2.2.1 _ hw) hd (k p l e s m args below meth c H locs D cA A lsA X Z9 R S L)
theorem s_widen {ce' sl' : Nat} (h1 : ce ≤ ce') (h2 : sl ≤ sl') (k : ES PP FF M fr lo mc ms pc ls st h ce' sl') : ES PP FF M fr lo mc ms pc ls st h ce sl := by
  intro p l e s m args below meth c H locs D cA A lsA X Z9 R S L
  exact W.widen h1 h2 (k p l e s m args below meth c H locs D cA A lsA X Z9 R S L)
theorem s_get (np : Nat) {index ci k a : Nat} {fs : List Value} {v : Value} (hd : decode M.2.1 pc = .ok (.getfield index, 3)) (hn : pc + 3 = np) (hF : FL M.1.cls index ci k) (ha : h a = some (.inr (ci, fs))) (hv : fs[k]? = some v) (kk : ES PP FF M fr lo mc ms np ls (v :: st) h ce sl) : ES PP FF M fr lo mc ms pc ls (.ref a :: st) h ce sl := by
  subst hn
  intro p l e s m args below meth c H locs D cA A lsA X Z9 R S L
  obtain ⟨C, T, N, ref, hc, hin, hk, hlk, hsm⟩ := hF
  have hP : va_P D vwCl [(a, .inr (ci, fs))] H := fun j q hj => by
    match j, hj with
    | 0, hj => cases hj; exact (R a _ ha).2
    | j + 1, hj => simp at hj
  have hts := X.2.2.2.2.2.1
  have hsame := e_same (args := args) (s := s) (hsm.imp id (fun z => hts _ z))
  rcases hlk with hlk | ⟨host, hlk⟩
  · exact va_get (tys := e_tys cA) X.1 X.2.1 hts hin X.2.2.2.2.1 X.2.2.2.2.2.2.1.1 hP 0 rfl hc k hk (hts _ hlk) hsame hv hd (kk p l e s m args below meth c H locs D cA A lsA X Z9 R S L)
  · exact va_getN (tys := e_tys cA) X.1 X.2.1 hts hin X.2.2.2.2.1 X.2.2.2.2.2.2.1.1 hP 0 rfl hc k hk (va_Nw.use rfl (X.2.2.2.2.2.2.1.2.1 _ hlk)) hsame hv hd (kk p l e s m args below meth c H locs D cA A lsA X Z9 R S L)
theorem s_put (np : Nat) {index ci k a : Nat} {fs fs' : List Value} {v : Value} {ty : FieldType} {fin : Bool} (hd : decode M.2.1 pc = .ok (.putfield index, 3)) (hn : pc + 3 = np) (hF : FP M.1.cls index ci k ty fin) (hfi : fin = false ∨ M.1.name = "<init>") (ha : h a = some (.inr (ci, fs))) (hl : k < fs.length) (hnr : narrow ty v = v) (hfit : fits ty v = true) (hfs : fs.set k v = fs') (kk : ES PP FF M fr lo mc ms np ls st (e_up h a (.inr (ci, fs'))) ce sl) : ES PP FF M fr lo mc ms pc ls (v :: .ref a :: st) h ce sl := by
  subst hn; subst hfs
  intro p l e s m args below meth c H locs D cA A lsA X Z9 R S L
  obtain ⟨C, T, N, ref, ty0, hc, hin, hk, hlk, hsm, hty, hnm, hfin, hpd, hdecl⟩ := hF
  have hts := X.2.2.2.2.2.1
  have hown := X.2.2.2.2.1
  have hK := X.2.2.2.2.2.2.1.1
  have hsame := e_same (args := args) (s := s) (hsm.imp id (fun z => hts _ z))
  have hap := va_apart (own := M.1.cls) (tys := e_tys cA) hts hin ty0 hty hnm hK hc
  obtain ⟨hba, r, h1, cell, q1, q2, q3, q4⟩ := R a _ ha
  have hr : r = (C, T, N) := Option.some.inj (h1.symm.trans hc)
  subst hr
  obtain ⟨hS, hfc, kC, hkC, hkind⟩ := hK.1 ci _ hc
  obtain ⟨cf, kf, fi, f, hi, hsl⟩ := hS k hk
  have hlay := hts _ (hin _ (u_in_lay hk))
  unfold u_lay at hlay
  have hst := (u_facts hfc hkC (u_lays hts hin hk) hi).1
  have fin9 : ∀ (H' : Heap) (locs' : List Loc), H'[a]? = some (cell.setSlot f.slot v) → H'.size = H.size → (∀ q : Nat, q ≠ a → H'[q]? = H[q]?) → W p l e { frames := fr, cells := mc, slots := ms, locals := lo } s m args below meth c H' (locs ++ [⟨a, f.slot⟩]) ce sl (FF below args s D cA A) (F0 m (pc + 3) lsA st) := by
    intro H' _ e1 e2 e3
    rw [hsl] at e1
    exact kk p l e s m args below meth c H' _ D cA A lsA X Z9 (R.up hba ⟨_, hc, t_OB.to (V := updV (vp_V fs) k v) ⟨_, e1, q2, q3, t_set q4 hap hk v⟩ (fun j _ => vp_updV_set hl v j)⟩ e3) (e_S.put S e2 e3 hba) L
  cases fin with
  | false =>
    rw [if_neg (by rw [hfin]; decide)] at hlay
    have h6 := u_store hfc hkC hkind hlay hi hpd hnr hfit
    rcases hlk with hlk | ⟨-, host, hlk⟩
    · exact W.putK X.1 X.2.1 (f := f) ⟨hown, hts _ hlk, ⟨_, _, _, hsame _ hi⟩, hst⟩ (by rw [q2]; exact h6) q1 q3 (by rw [hsl]; exact k2_hasslot (q4 k hk)) rfl rfl hd fun H' e1 e2 e3 => fin9 H' locs e1 e2 e3
    · exact va_WputK X.1 X.2.1 (f := f) hown (va_Nw.use rfl (X.2.2.2.2.2.2.1.2.1 _ hlk)) (hsame _ hi) hst (by rw [q2]; exact h6) q1 q3 (by rw [hsl]; exact k2_hasslot (q4 k hk)) rfl rfl hd fun H' e1 e2 e3 => fin9 H' locs e1 e2 e3
  | true =>
    rw [if_pos hfin] at hlay
    have hin2 : meth.name = "<init>" := X.2.2.2.2.2.2.2.2.1.1.trans (hfi.resolve_left (by decide))
    have hcf : m.cls = cf := by
      obtain ⟨_, _, c', _, _, _, -, -, hf', -, -, -, hown2, -⟩ := Cond.laysFinal_spec hlay
      have e1 : c' = cf := by have := hi.symm.trans hf'; simp at this; exact this.1.symm
      rw [hdecl rfl] at hown2
      rw [← e1]; exact Option.some.inj (hown.symm.trans hown2)
    have h6 := u_fits hfc hkC hkind (Or.inr hlay) hi hpd hnr hfit
    rcases hlk with hlk | ⟨hx, -⟩
    · exact W.putFinK X.1 X.2.1 hown (hts _ hlk) (hsame _ hi) hst hcf hin2 (by rw [q2]; exact h6) q1 q3 (by rw [hsl]; exact k2_hasslot (q4 k hk)) rfl rfl hd fun H' e1 e2 e3 => fin9 H' locs e1 e2 e3
    · cases hx
theorem s_alen (np : Nat) {a t : Nat} {x : vp_A} {ty : FieldType} {v : Int32} (hd : decode M.2.1 pc = .ok (.arraylength, 1)) (hn : pc + 1 = np) (ha : h a = some (.inl (t, x))) (ht : atys[t]? = some ty) (hv : Int32.ofNat x.1 = v) (kk : ES PP FF M fr lo mc ms np ls (.int v :: st) h ce sl) : ES PP FF M fr lo mc ms pc ls (.ref a :: st) h ce sl := by
  subst hn
  intro p l e s m args below meth c H locs D cA A lsA X Z9 R S L
  exact va_alen X.1 X.2.1 X.2.2.2.2.2.2.1.1 (e_one R ha) 0 t rfl (e_tys_at ht) hv hd (kk p l e s m args below meth c H locs D cA A lsA X Z9 R S L)
theorem s_iald (np : Nat) {a n : Nat} {f : Nat → Int32} {i v : Int32} (hd : decode M.2.1 pc = .ok (.iaload, 1)) (hn : pc + 1 = np) (ha : h a = some (.inl (0, n, .inl f))) (hi : vp_in i n) (hv : f i.toNatClampNeg = v) (kk : ES PP FF M fr lo mc ms np ls (.int v :: st) h ce sl) : ES PP FF M fr lo mc ms pc ls (.int i :: .ref a :: st) h ce sl := by
  subst hn; subst hv
  intro p l e s m args below meth c H locs D cA A lsA X Z9 R S L
  exact va_iald X.1 X.2.1 X.2.2.2.2.2.2.1.1 (e_one R ha) 0 0 rfl rfl hi hd (kk p l e s m args below meth c H locs D cA A lsA X Z9 R S L)
theorem s_iast (np : Nat) {a n : Nat} {f : Nat → Int32} {i x : Int32} (hd : decode M.2.1 pc = .ok (.iastore, 1)) (hn : pc + 1 = np) (ha : h a = some (.inl (0, n, .inl f))) (hi : vp_in i n) (kk : ES PP FF M fr lo mc ms np ls st (e_up h a (.inl (0, n, .inl (upd f i.toNatClampNeg x)))) ce sl) : ES PP FF M fr lo mc ms pc ls (.int x :: .int i :: .ref a :: st) h ce sl := by
  subst hn
  intro p l e s m args below meth c H locs D cA A lsA X Z9 R S L
  have hK := X.2.2.2.2.2.2.1.1
  obtain ⟨hba, hc⟩ := R a _ ha
  refine W.iast X.1 X.2.1 hc ((hK.2 0 _ rfl).1 n (fun j => .int (f j))) (fun q => by cases q) (by show ¬ (i < 0 ∨ (arrV _ _ _).slots.size ≤ _); rw [arrV_size]; exact hi) rfl rfl hd fun H1 e z oq => ?_
  refine kk p l _ s m args below meth c H1 _ D cA A lsA X Z9 (R.up hba ?_ oq) (e_S.put S z oq hba) L
  show H1[a]? = some (vp_cell _ _)
  rw [e]
  rw [vp_cell_i, vp_cell_i, arrV_store]
  congr 2
  funext q
  by_cases hq : q = i.toNatClampNeg
  · subst hq
    simp [updV, upd]
  · simp [updV, upd, hq]
theorem s_aald (np : Nat) {a n t : Nat} {ty : FieldType} {f : Nat → Option Nat} {i : Int32} {v : Value} (hd : decode M.2.1 pc = .ok (.aaload, 1)) (hn : pc + 1 = np) (ha : h a = some (.inl (t, n, .inr (.inr (.inr (.inr f)))))) (ht : atys[t]? = some ty) (hty : (∃ C, ty = .object C) ∨ ∃ z, ty = .array z) (hi : vp_in i n) (hv : va_rf (f i.toNatClampNeg) = v) (kk : ES PP FF M fr lo mc ms np ls (v :: st) h ce sl) : ES PP FF M fr lo mc ms pc ls (.int i :: .ref a :: st) h ce sl := by
  subst hn; subst hv
  intro p l e s m args below meth c H locs D cA A lsA X Z9 R S L
  have hK := X.2.2.2.2.2.2.1.1
  have hlt : i.toNatClampNeg < n := Nat.not_le.mp fun q => hi (Or.inr q)
  obtain ⟨hba, hc⟩ := R a _ ha
  have hrf : ty.isReference = true := by rcases hty with ⟨C, rfl⟩ | ⟨z, rfl⟩ <;> rfl
  exact W.aald (v := va_rf (f i.toNatClampNeg)) (ty := ty) X.1 X.2.1 hc ((hK.2 t _ (e_tys_at ht)).1 n (fun j => va_rf (f j))) hrf (fun q => by cases q) (by show ¬ (i < 0 ∨ (arrV _ _ _).slots.size ≤ _); rw [arrV_size]; exact hi) (by show (arrV _ _ _).slots[_]? = _; rw [arrV_read _ _ hlt]) rfl rfl hd (kk p l e s m args below meth c H locs D cA A lsA X Z9 R S L)
theorem s_aast (np : Nat) {a n t v ci : Nat} {vs : List Value} {q0 : vw_C} {f : Nat → Option Nat} {i : Int32} (hd : decode M.2.1 pc = .ok (.aastore, 1)) (hn : pc + 1 = np) (ha : h a = some (.inl (t, n, .inr (.inr (.inr (.inr f)))))) (hc : vwCl[ci]? = some q0) (ht : atys[t]? = some (.object q0.1)) (hv : h v = some (.inr (ci, vs))) (hi : vp_in i n) (kk : ES PP FF M fr lo mc ms np ls st (e_up h a (.inl (t, n, .inr (.inr (.inr (.inr (va_up f i.toNatClampNeg (some v)))))))) ce sl) : ES PP FF M fr lo mc ms pc ls (.ref v :: .int i :: .ref a :: st) h ce sl := by
  subst hn
  intro p l e s m args below meth c H locs D cA A lsA X Z9 R S L
  have hK := X.2.2.2.2.2.2.1.1
  have hlt : i.toNatClampNeg < n := Nat.not_le.mp fun q => hi (Or.inr q)
  have h0 : ¬ i < 0 := fun q => hi (Or.inl q)
  obtain ⟨hba, hca⟩ := R a _ ha
  obtain ⟨-, r', hr', cellV, g1, g2, g3, -⟩ := R v _ hv
  have hcls := (hK.1 ci q0 hc).2
  obtain ⟨kA, comp, k1, k2, k3, -⟩ := (hK.2 t _ (e_tys_at ht)).2
  have hcomp : comp = D.1 ci := Option.some.inj (k3.symm.trans hcls.1)
  subst hcomp
  obtain ⟨kC, hkC, -⟩ := hcls.2
  refine W.aast X.1 X.2.1 hca (fun q h => by cases h) (fun h => by cases h) k1 k2 rfl hkC ⟨h0, by show _ < (arrV _ _ _).slots.size; rw [arrV_size]; exact hlt⟩ g1 (fun q h => by rw [g3] at h; cases h) (by rw [g2]; exact hkC) (by rw [g2]; exact va_assign hcls) rfl rfl hd fun H1 e z oq => ?_
  refine kk p l _ s m args below meth c H1 _ D cA A lsA X Z9 (R.up hba ?_ oq) (e_S.put S z oq hba) L
  show H1[a]? = some (vp_cell _ _)
  rw [e]
  rw [vp_cell_q, vp_cell_q, arrV_store]
  congr 2
  funext q
  by_cases hq : q = i.toNatClampNeg
  · subst hq
    simp [updV, va_up, va_rf]
  · simp [updV, va_up, hq]
theorem s_aastN (np : Nat) {a n t : Nat} {C : String} {f : Nat → Option Nat} {i : Int32} (hd : decode M.2.1 pc = .ok (.aastore, 1)) (hn : pc + 1 = np) (ha : h a = some (.inl (t, n, .inr (.inr (.inr (.inr f)))))) (ht : atys[t]? = some (.object C)) (hi : vp_in i n) (kk : ES PP FF M fr lo mc ms np ls st (e_up h a (.inl (t, n, .inr (.inr (.inr (.inr (va_up f i.toNatClampNeg none))))))) ce sl) : ES PP FF M fr lo mc ms pc ls (.null :: .int i :: .ref a :: st) h ce sl := by
  subst hn
  intro p l e s m args below meth c H locs D cA A lsA X Z9 R S L
  have hK := X.2.2.2.2.2.2.1.1
  obtain ⟨hba, hca⟩ := R a _ ha
  refine va_WaastN (C := C) X.1 X.2.1 hca ((hK.2 t _ (e_tys_at ht)).1 n (fun j => va_rf (f j))) (fun h => by cases h) (by show ¬ (i < 0 ∨ (arrV _ _ _).slots.size ≤ _); rw [arrV_size]; exact hi) rfl rfl hd fun H1 e z oq => ?_
  refine kk p l _ s m args below meth c H1 _ D cA A lsA X Z9 (R.up hba ?_ oq) (e_S.put S z oq hba) L
  show H1[a]? = some (vp_cell _ _)
  rw [e]
  rw [vp_cell_q, vp_cell_q, arrV_store]
  congr 2
  funext q
  by_cases hq : q = i.toNatClampNeg
  · subst hq
    simp [updV, va_up, va_rf]
  · simp [updV, va_up, hq]
theorem s_new (np : Nat) {index ci : Nat} {fs : List Value} (hd : decode M.2.1 pc = .ok (.new index, 3)) (hn : pc + 3 = np) (hN : NC M.1.cls index ci fs) (hce : ce + 1 ≤ mc) (hsl : sl + fs.length ≤ ms) (kk : ∀ q : Nat, h q = none → ES PP FF M fr lo mc ms np ls (.ref q :: st) (e_up h q (.inr (ci, fs))) (ce + 1) (sl + fs.length)) : ES PP FF M fr lo mc ms pc ls st h ce sl := by
  subst hn
  intro p l e s m args below meth c H locs D cA A lsA X Z9 R S L
  obtain ⟨C, T, N, ty, hc, hin, hty, hcl, hinst, hini, hfs, hN⟩ := hN
  subst hN
  have hts := X.2.2.2.2.2.1
  have hKn := X.2.2.2.2.2.2.1.1.1 ci _ hc
  refine W.newcK X.1 X.2.1 X.2.2.2.2.1 (hts _ hcl) (hts _ hinst) (hts _ hini) rfl hd hce hsl hKn.2.1 rfl fun H1 kC hkC e1 z1 o1 => ?_
  have hR := R.new (x := .inr (ci, fs)) (X.2.2.2.2.2.2.2.2.2 _ S.1) ⟨_, hc, (u_born ty hts hin hKn hkC e1 hty).to hfs⟩ o1
  exact kk H.size hR.1 p l e s m args below meth c H1 locs D cA A lsA X Z9 hR.2 (e_S.new S (by omega) o1) L
theorem s_newI (np : Nat) {n : Int32} {N : Nat} (hd : decode M.2.1 pc = .ok (.newarray .int, 2)) (hn : pc + 2 = np) (h0 : ¬ n < 0) (hN : n.toNatClampNeg = N) (hb : N ≤ 100000) (hce : ce + 1 ≤ mc) (hsl : sl + N ≤ ms) (kk : ∀ q : Nat, h q = none → ES PP FF M fr lo mc ms np ls (.ref q :: st) (e_up h q (.inl (0, N, .inl (fun _ => 0)))) (ce + 1) (sl + N)) : ES PP FF M fr lo mc ms pc ls (.int n :: st) h ce sl := by
  subst hn
  intro p l e s m args below meth c H locs D cA A lsA X Z9 R S L
  have hts := X.2.2.2.2.2.1
  have hw : Cond.arrayClass .int ∈ gw := by decide +kernel
  refine va_newaK X.1 X.2.1 (atype := .int) (hts _ hw) rfl hd rfl h0 hN (by show N * 4 ≤ _; omega) hce hsl rfl fun H1 cB e1 z1 o1 _ hNm => ?_
  have ec : cB = cA 0 := Option.some.inj (hNm.symm.trans (e_findArr (X.2.2.2.2.2.2.1.1.2 0 _ rfl).2))
  subst ec
  have hR := R.new (x := .inl (0, N, .inl (fun _ => 0))) (H1 := H1) (X.2.2.2.2.2.2.2.2.2 _ S.1) (by show H1[H.size]? = some (vp_cell _ _); rw [vp_cell_i]; exact e1) o1
  exact kk H.size hR.1 p l e s m args below meth c H1 locs D cA A lsA X Z9 hR.2 (e_S.new S (by omega) o1) L
theorem s_newL (np : Nat) {n : Int32} {N : Nat} (hd : decode M.2.1 pc = .ok (.newarray .long, 2)) (hn : pc + 2 = np) (h0 : ¬ n < 0) (hN : n.toNatClampNeg = N) (hb : N ≤ 100000) (hce : ce + 1 ≤ mc) (hsl : sl + N ≤ ms) (kk : ∀ q : Nat, h q = none → ES PP FF M fr lo mc ms np ls (.ref q :: st) (e_up h q (.inl (1, N, .inr (.inl (fun _ => 0))))) (ce + 1) (sl + N)) : ES PP FF M fr lo mc ms pc ls (.int n :: st) h ce sl := by
  subst hn
  intro p l e s m args below meth c H locs D cA A lsA X Z9 R S L
  have hts := X.2.2.2.2.2.1
  have hw : Cond.arrayClass .long ∈ gw := by decide +kernel
  refine va_newaK X.1 X.2.1 (atype := .long) (hts _ hw) rfl hd rfl h0 hN (by show N * 8 ≤ _; omega) hce hsl rfl fun H1 cB e1 z1 o1 _ hNm => ?_
  have ec : cB = cA 1 := Option.some.inj (hNm.symm.trans (e_findArr (X.2.2.2.2.2.2.1.1.2 1 _ rfl).2))
  subst ec
  have hR := R.new (x := .inl (1, N, .inr (.inl (fun _ => 0)))) (H1 := H1) (X.2.2.2.2.2.2.2.2.2 _ S.1) (by show H1[H.size]? = some (vp_cell _ _); rw [vp_cell_l]; exact e1) o1
  exact kk H.size hR.1 p l e s m args below meth c H1 locs D cA A lsA X Z9 hR.2 (e_S.new S (by omega) o1) L
theorem s_anew (np : Nat) {index t : Nat} {C : String} {n : Int32} {N : Nat} (hd : decode M.2.1 pc = .ok (.anewarray index, 3)) (hn : pc + 3 = np) (hw : Cond.classLink M.1.cls index C ∈ gw) (ho : Cond.arrayOver (.object C) ∈ ow) (ht : atys[t]? = some (.object C)) (h0 : ¬ n < 0) (hN : n.toNatClampNeg = N) (hb : N ≤ 100000) (hce : ce + 1 ≤ mc) (hsl : sl + N ≤ ms) (kk : ∀ q : Nat, h q = none → ES PP FF M fr lo mc ms np ls (.ref q :: st) (e_up h q (.inl (t, N, .inr (.inr (.inr (.inr (fun _ => none))))))) (ce + 1) (sl + N)) : ES PP FF M fr lo mc ms pc ls (.int n :: st) h ce sl := by
  subst hn; subst hN
  intro p l e s m args below meth c H locs D cA A lsA X Z9 R S L
  have hts := X.2.2.2.2.2.1
  refine W.anew X.1 X.2.1 X.2.2.2.2.1 (hts _ hw) (va_AO.use (C := C) (X.2.2.2.2.2.2.1.2.2 _ ho)) rfl hd rfl h0 (by omega) hce hsl fun cB kA comp f1 f2 f3 f4 => ?_
  have ec : cB = cA t := Option.some.inj (f1.symm.trans (e_findArr (X.2.2.2.2.2.2.1.1.2 t _ (e_tys_at ht)).2))
  subst ec
  generalize hH1 : H.push ({ cls := cA t, slots := Array.replicate n.toNatClampNeg .null, vm := .none } : Cell) = H1
  have z1 : H1.size = H.size + 1 := by rw [← hH1, Array.size_push]
  have e1 : H1[H.size]? = some (arrV (cA t) n.toNatClampNeg (fun _ => .null)) := by rw [← hH1, Array.getElem?_push_size, ← arrV_new]
  have o1 : ∀ q : Nat, q < H.size → H1[q]? = H[q]? := fun q hq => by rw [← hH1, Array.getElem?_push, if_neg (Nat.ne_of_lt hq)]
  have hR := R.new (x := .inl (t, n.toNatClampNeg, .inr (.inr (.inr (.inr (fun _ => none)))))) (H1 := H1) (X.2.2.2.2.2.2.2.2.2 _ S.1) (by show H1[H.size]? = some (vp_cell _ _); rw [vp_cell_q]; exact e1) o1
  exact kk H.size hR.1 p l e s m args below meth c H1 locs D cA A lsA X Z9 hR.2 (e_S.new S (by omega) o1) L
theorem s_callS (np : Nat) {index n fr' lo' mc' ms' : Nat} {M' : MD} {av st0 : List Value} {Q' : Option Value → eH → Prop} {h1 h2 : eH} (hu : e_un h1 h2 = h) (hj : e_dj h1 h2) (hd : decode M.2.1 pc = .ok (.invokestatic index, 3)) (hn : pc + 3 = np) (hC : CS M.1.cls index M' n) (hM : Ct M' av h1 Q' fr' lo' mc' ms') (hlen : av.length = n) (hst : st0 = av.reverse ++ st) (hcat : (st.map fun v => v.category).sum ≤ 8) (hR : (fr' + 1 ≤ fr ∧ 8 + (M'.2.2.1 + 11) + lo' ≤ lo) ∧ ce + mc' ≤ mc ∧ sl + ms' ≤ ms) (kk : ∀ (r : Option Value) (h1' : eH), Q' r h1' → e_dj h1' h2 → ES PP FF M fr lo mc ms np ls (r.toList ++ st) (e_un h1' h2) (ce + mc') (sl + ms')) : ES PP FF M fr lo mc ms pc ls st0 h ce sl := by
  subst hn
  intro p l e s m args below meth c H locs D cA A lsA X Z9 R S L
  have hts := X.2.2.2.2.2.1
  obtain ⟨⟨w1, w2, w3, w4⟩, hlk⟩ := hC
  refine e_after (mc' := mc') (ms' := ms') (rest := st) (a := av.toArray) (Q' := Q') hu hj X.2.2.2.2.2.2.2.2.2 R ?_ S (fun r h' H1 locs1 q1 q0 q2 q3 => kk r h' q1 q0 p l e s m args below meth c H1 locs1 D cA A lsA X Z9 q2 q3 L)
  rcases hlk with hlk | ⟨host, hlk⟩
  · exact va_runS (Ts := gw) ⟨X.1, X.2.1, X.2.2.2.1, X.2.2.2.2.1, hts⟩ (hM l D cA H.size) ⟨callB_of n hts (e_good M' w1) rfl rfl rfl (hts _ w3) (hts _ hlk) w4 hR.1, hts _ w2⟩ (e_pre X.2.2.2.2.2.2.1 hu R) rfl hlen L.1.1 hst (lv_room hcat) hd hR.2
  · exact va_runSN (Ts := gw) ⟨X.1, X.2.1, X.2.2.2.1, X.2.2.2.2.1, hts⟩ (hM l D cA H.size) ⟨va_cnB n hts (e_good M' w1) rfl rfl rfl (X.2.2.2.2.2.2.1.2.1 _ hlk) (hts _ w3) w4 hR.1, hts _ w2, trivial⟩ (e_pre X.2.2.2.2.2.2.1 hu R) rfl hlen L.1.1 hst (lv_room hcat) hd hR.2
theorem s_callI (np : Nat) {index n fr' lo' mc' ms' b : Nat} {M' : MD} {av st0 : List Value} {Q' : Option Value → eH → Prop} {h1 h2 : eH} (hu : e_un h1 h2 = h) (hj : e_dj h1 h2) (hd : decode M.2.1 pc = .ok (.invokespecial index, 3)) (hn : pc + 3 = np) (hC : CI M.1.cls index M' n) (hM : Ct M' (.ref b :: av) h1 Q' fr' lo' mc' ms') (hlen : av.length = n) (hst : st0 = av.reverse ++ .ref b :: st) (hcat : (st.map fun v => v.category).sum ≤ 8) (hR : (fr' + 1 ≤ fr ∧ 8 + (M'.2.2.1 + 11) + lo' ≤ lo) ∧ ce + mc' ≤ mc ∧ sl + ms' ≤ ms) (kk : ∀ (r : Option Value) (h1' : eH), Q' r h1' → e_dj h1' h2 → ES PP FF M fr lo mc ms np ls (r.toList ++ st) (e_un h1' h2) (ce + mc') (sl + ms')) : ES PP FF M fr lo mc ms pc ls st0 h ce sl := by
  subst hn
  intro p l e s m args below meth c H locs D cA A lsA X Z9 R S L
  have hts := X.2.2.2.2.2.1
  obtain ⟨⟨w1, w0, w2, w3, w5, w4⟩, hlk⟩ := hC
  obtain ⟨y, cc, mL, rt⟩ := M'
  cases w0
  refine e_after (mc' := mc') (ms' := ms') (rest := st) (a := (Value.ref b :: av).toArray) (Q' := Q') hu hj X.2.2.2.2.2.2.2.2.2 R ?_ S (fun r h' H1 locs1 q1 q0 q2 q3 => kk r h' q1 q0 p l e s m args below meth c H1 locs1 D cA A lsA X Z9 q2 q3 L)
  rcases hlk with hlk | ⟨host, hlk⟩
  · exact va_runI (Ts := gw) ⟨X.1, X.2.1, X.2.2.2.1, X.2.2.2.2.1, hts⟩ (hM l D cA H.size) ⟨callB_of n hts (e_good (y, cc, mL, none) w1) rfl rfl rfl (hts _ w3) (hts _ hlk) w4 hR.1, w5, hts _ w2⟩ (e_pre X.2.2.2.2.2.2.1 hu R) rfl hlen L.1.1 hst (lv_room hcat) hd hR.2
  · exact va_runIN (Ts := gw) ⟨X.1, X.2.1, X.2.2.2.1, X.2.2.2.2.1, hts⟩ (hM l D cA H.size) ⟨va_cnB n hts (e_good (y, cc, mL, none) w1) rfl rfl rfl (X.2.2.2.2.2.2.1.2.1 _ hlk) (hts _ w3) w4 hR.1, w5, hts _ w2⟩ (e_pre X.2.2.2.2.2.2.1 hu R) rfl hlen L.1.1 hst (lv_room hcat) hd hR.2
theorem s_callV (np : Nat) {index n fr' lo' mc' ms' b ci : Nat} {fs : List Value} {M' : MD} {av st0 : List Value} {Q' : Option Value → eH → Prop} {h1 h2 : eH} (hu : e_un h1 h2 = h) (hj : e_dj h1 h2) (hd : decode M.2.1 pc = .ok (.invokevirtual index, 3)) (hn : pc + 3 = np) (hC : CV M.1.cls index M' ci n) (hb : h b = some (.inr (ci, fs))) (hM : Ct M' (.ref b :: av) h1 Q' fr' lo' mc' ms') (hlen : av.length = n) (hst : st0 = av.reverse ++ .ref b :: st) (hcat : (st.map fun v => v.category).sum ≤ 8) (hR : (fr' + 1 ≤ fr ∧ 8 + (M'.2.2.1 + 11) + lo' ≤ lo) ∧ ce + mc' ≤ mc ∧ sl + ms' ≤ ms) (kk : ∀ (r : Option Value) (h1' : eH), Q' r h1' → e_dj h1' h2 → ES PP FF M fr lo mc ms np ls (r.toList ++ st) (e_un h1' h2) (ce + mc') (sl + ms')) : ES PP FF M fr lo mc ms pc ls st0 h ce sl := by
  subst hn
  intro p l e s m args below meth c H locs D cA A lsA X Z9 R S L
  have hts := X.2.2.2.2.2.1
  obtain ⟨q0, hq0, ⟨w1, w2, w3, w6, w4⟩, hlk⟩ := hC
  have hrecv := va_recv (tys := e_tys cA) X.2.2.2.2.2.2.1.1 (e_one R hb) (ci := ci) (q0 := 0) hq0 rfl
  have hpre := e_pre (av := .ref b :: av) X.2.2.2.2.2.2.1 hu R
  refine e_after (mc' := mc') (ms' := ms') (rest := st) (a := (Value.ref b :: av).toArray) (Q' := Q') hu hj X.2.2.2.2.2.2.2.2.2 R ?_ S (fun r h' H1 locs1 q1 q0 q2 q3 => kk r h' q1 q0 p l e s m args below meth c H1 locs1 D cA A lsA X Z9 q2 q3 L)
  rcases hlk with hlk | ⟨host, hlk⟩
  · exact va_runV (Ts := gw) (C := q0.1) ⟨X.1, X.2.1, X.2.2.2.1, X.2.2.2.2.1, hts⟩ (hM l D cA H.size) ⟨callB_of n hts (e_good M' w1) rfl rfl rfl (hts _ w3) (hts _ hlk) w4 hR.1, hts _ w2, hts _ w6⟩ ⟨hpre.1, hrecv, hpre.2⟩ rfl hlen L.1.1 hst (lv_room hcat) hd hR.2
  · exact va_runVN (Ts := gw) (C := q0.1) ⟨X.1, X.2.1, X.2.2.2.1, X.2.2.2.2.1, hts⟩ (hM l D cA H.size) ⟨va_cnB n hts (e_good M' w1) rfl rfl rfl (X.2.2.2.2.2.2.1.2.1 _ hlk) (hts _ w3) w4 hR.1, hts _ w2, hts _ w6⟩ ⟨hpre.1, hrecv, hpre.2⟩ rfl hlen L.1.1 hst (lv_room hcat) hd hR.2
theorem s_objInit (np : Nat) {index a : Nat} (hd : decode M.2.1 pc = .ok (.invokespecial index, 3)) (hn : pc + 3 = np) (hlk : Cond.methodLink M.1.cls index objectInit ∈ gw) (hR : 1 ≤ fr ∧ 20 ≤ lo) (hcat : (st.map fun v => v.category).sum ≤ 8) (k : ES PP FF M fr lo mc ms np ls st h ce sl) : ES PP FF M fr lo mc ms pc ls (.ref a :: st) h ce sl := by
  subst hn
  intro p l e s m args below meth c H locs D cA A lsA X Z9 R S L
  have hts := X.2.2.2.2.2.1
  have w1 : Cond.instanceMethod objectInit ∈ gw := by decide +kernel
  have w2 : Cond.code objectInit ⟨#[0xb1]⟩ 1 none ∈ gw := by decide +kernel
  have h9 := lv_room (m := m) (pc := pc) (ls := lsA) (rest := (.ref a :: st)) hcat
  exact W.objInit X.1 X.2.1 X.2.2.2.2.1 (hts _ hlk) (hts _ w1) (hts _ w2) rfl (by rw [X.2.2.2.1]; exact L.1.1) rfl hd hR.1 (by show 2 * (F0 m pc lsA (.ref a :: st)).monitorRoom + _ + 12 ≤ lo; omega) (k p l e s m args below meth c H locs D cA A lsA X Z9 R S L)
theorem s_min (np : Nat) {index : Nat} {x y v : Int32} (hd : decode M.2.1 pc = .ok (.invokestatic index, 3)) (hn : pc + 3 = np) (hlk : Cond.methodLink M.1.cls index Lib.Math.min.name ∈ gw) (hR : 1 ≤ fr ∧ 21 ≤ lo) (hcat : (st.map fun v => v.category).sum ≤ 8) (hcc : ce ≤ mc ∧ sl ≤ ms) (hv : (if y < x then y else x) = v) (k : ES PP FF M fr lo mc ms np ls (.int v :: st) h ce sl) : ES PP FF M fr lo mc ms pc ls (.int y :: .int x :: st) h ce sl := by
  subst hn; subst hv
  intro p l e s m args below meth c H locs D cA A lsA X Z9 R S L
  have hts := X.2.2.2.2.2.1
  have w1 : Cond.static Lib.Math.min.name ∈ gw := by decide +kernel
  have w2 : Cond.initialized "java/lang/Math" ∈ gw := by decide +kernel
  have w3 : Cond.code Lib.Math.min.name Lib.Math.min.code 2 (some .int) ∈ gw := by decide +kernel
  exact va_mmin X.1 X.2.1 (by rw [X.2.2.2.1]; exact L.1.1.symm) X.2.2.2.2.1 (hts _ hlk) (hts _ w1) (hts _ w2) (hts _ w3) hR.1 (by show _ + 13 ≤ lo; omega) hcc.1 hcc.2 hd (k p l e s m args below meth c H locs D cA A lsA X Z9 R S L)
theorem s_max (np : Nat) {index : Nat} {x y v : Int32} (hd : decode M.2.1 pc = .ok (.invokestatic index, 3)) (hn : pc + 3 = np) (hlk : Cond.methodLink M.1.cls index Lib.Math.max.name ∈ gw) (hR : 1 ≤ fr ∧ 21 ≤ lo) (hcat : (st.map fun v => v.category).sum ≤ 8) (hcc : ce ≤ mc ∧ sl ≤ ms) (hv : (if x < y then y else x) = v) (k : ES PP FF M fr lo mc ms np ls (.int v :: st) h ce sl) : ES PP FF M fr lo mc ms pc ls (.int y :: .int x :: st) h ce sl := by
  subst hn; subst hv
  intro p l e s m args below meth c H locs D cA A lsA X Z9 R S L
  have hts := X.2.2.2.2.2.1
  have w1 : Cond.static Lib.Math.max.name ∈ gw := by decide +kernel
  have w2 : Cond.initialized "java/lang/Math" ∈ gw := by decide +kernel
  have w3 : Cond.code Lib.Math.max.name Lib.Math.max.code 2 (some .int) ∈ gw := by decide +kernel
  exact va_mmax X.1 X.2.1 (by rw [X.2.2.2.1]; exact L.1.1.symm) X.2.2.2.2.1 (hts _ hlk) (hts _ w1) (hts _ w2) (hts _ w3) hR.1 (by show _ + 13 ≤ lo; omega) hcc.1 hcc.2 hd (k p l e s m args below meth c H locs D cA A lsA X Z9 R S L)
theorem sp_put (np : Nat) {L L' : List sA} (hL : stars L h) (i : Nat) {index ci k a : Nat} {fs fs' : List Value} {v : Value} {ty : FieldType} {fin : Bool} (hi : L[i]? = some (pt a (.inr (ci, fs)))) (hL' : L.set i (pt a (.inr (ci, fs'))) = L') (hd : decode M.2.1 pc = .ok (.putfield index, 3)) (hn : pc + 3 = np) (hF : FP M.1.cls index ci k ty fin) (hfi : fin = false ∨ M.1.name = "<init>") (hl : k < fs.length) (hnr : narrow ty v = v) (hfit : fits ty v = true) (hfs : fs.set k v = fs') (kk : ∀ h' : eH, stars L' h' → ES PP FF M fr lo mc ms np ls st h' ce sl) : ES PP FF M fr lo mc ms pc ls (v :: .ref a :: st) h ce sl :=
  s_put np hd hn hF hfi (stars_at L i hL hi) hl hnr hfit hfs (kk _ (hL' ▸ stars_set L i hL hi))
theorem sp_iast (np : Nat) {L L' : List sA} (hL : stars L h) (i : Nat) {a n k : Nat} {f : Nat → Int32} {ix x : Int32} (hi : L[i]? = some (pt a (.inl (0, n, .inl f)))) (hL' : L.set i (pt a (.inl (0, n, .inl (upd f k x)))) = L') (hd : decode M.2.1 pc = .ok (.iastore, 1)) (hn : pc + 1 = np) (hx : vp_in ix n) (hk : ix.toNatClampNeg = k) (kk : ∀ h' : eH, stars L' h' → ES PP FF M fr lo mc ms np ls st h' ce sl) : ES PP FF M fr lo mc ms pc ls (.int x :: .int ix :: .ref a :: st) h ce sl := by
  subst hk
  exact s_iast np hd hn (stars_at L i hL hi) hx (kk _ (hL' ▸ stars_set L i hL hi))
theorem sp_aast (np : Nat) {L L' : List sA} (hL : stars L h) (i j : Nat) {a n t v ci k : Nat} {vs : List Value} {q0 : vw_C} {f : Nat → Option Nat} {ix : Int32} (hi : L[i]? = some (pt a (.inl (t, n, .inr (.inr (.inr (.inr f))))))) (hj : L[j]? = some (pt v (.inr (ci, vs)))) (hL' : L.set i (pt a (.inl (t, n, .inr (.inr (.inr (.inr (va_up f k (some v)))))))) = L') (hd : decode M.2.1 pc = .ok (.aastore, 1)) (hn : pc + 1 = np) (hc : vwCl[ci]? = some q0) (ht : atys[t]? = some (.object q0.1)) (hx : vp_in ix n) (hk : ix.toNatClampNeg = k) (kk : ∀ h' : eH, stars L' h' → ES PP FF M fr lo mc ms np ls st h' ce sl) : ES PP FF M fr lo mc ms pc ls (.ref v :: .int ix :: .ref a :: st) h ce sl := by
  subst hk
  exact s_aast np hd hn (stars_at L i hL hi) hc ht (stars_at L j hL hj) hx (kk _ (hL' ▸ stars_set L i hL hi))
theorem sp_new (np N : Nat) {L : List sA} (hL : stars L h) {index ci : Nat} {fs : List Value} (hlen : fs.length = N) (hd : decode M.2.1 pc = .ok (.new index, 3)) (hn : pc + 3 = np) (hN : NC M.1.cls index ci fs) (hce : ce + 1 ≤ mc) (hsl : sl + N ≤ ms) (kk : ∀ (q : Nat) (h' : eH), stars (pt q (.inr (ci, fs)) :: L) h' → ES PP FF M fr lo mc ms np ls (.ref q :: st) h' (ce + 1) (sl + N)) : ES PP FF M fr lo mc ms pc ls st h ce sl := by
  subst hlen
  exact s_new np hd hn hN hce hsl (fun q hq => kk q _ (stars_new hL hq))
theorem sp_newI (np : Nat) {L : List sA} (hL : stars L h) {n : Int32} {N : Nat} (hd : decode M.2.1 pc = .ok (.newarray .int, 2)) (hn : pc + 2 = np) (h0 : ¬ n < 0) (hN : n.toNatClampNeg = N) (hb : N ≤ 100000) (hce : ce + 1 ≤ mc) (hsl : sl + N ≤ ms) (kk : ∀ (q : Nat) (h' : eH), stars (pt q (.inl (0, N, .inl (fun _ => 0))) :: L) h' → ES PP FF M fr lo mc ms np ls (.ref q :: st) h' (ce + 1) (sl + N)) : ES PP FF M fr lo mc ms pc ls (.int n :: st) h ce sl :=
  s_newI np hd hn h0 hN hb hce hsl (fun q hq => kk q _ (stars_new hL hq))
theorem sp_anew (np : Nat) {L : List sA} (hL : stars L h) {index t : Nat} {C : String} {n : Int32} {N : Nat} (hd : decode M.2.1 pc = .ok (.anewarray index, 3)) (hn : pc + 3 = np) (hw : Cond.classLink M.1.cls index C ∈ gw) (ho : Cond.arrayOver (.object C) ∈ ow) (ht : atys[t]? = some (.object C)) (h0 : ¬ n < 0) (hN : n.toNatClampNeg = N) (hb : N ≤ 100000) (hce : ce + 1 ≤ mc) (hsl : sl + N ≤ ms) (kk : ∀ (q : Nat) (h' : eH), stars (pt q (.inl (t, N, .inr (.inr (.inr (.inr (fun _ => none)))))) :: L) h' → ES PP FF M fr lo mc ms np ls (.ref q :: st) h' (ce + 1) (sl + N)) : ES PP FF M fr lo mc ms pc ls (.int n :: st) h ce sl :=
  s_anew np hd hn hw ho ht h0 hN hb hce hsl (fun q hq => kk q _ (stars_new hL hq))
theorem sp_callS (np : Nat) {L L1 L2 : List sA} (hL : stars L h) (is : List Nat) (n9 : Nat) (hn9 : L.length = n9) (hp : is.isPerm (List.range n9) = true) (hs : is.filterMap (fun i => L[i]?) = L1 ++ L2) {index n fr' lo' mc' ms' : Nat} {M' : MD} {av st0 : List Value} {Q' : Option Value → List sA → Prop} (hd : decode M.2.1 pc = .ok (.invokestatic index, 3)) (hn : pc + 3 = np) (hC : CS M.1.cls index M' n) (hM : CA M' av L1 Q' fr' lo' mc' ms') (hlen : av.length = n) (hst : st0 = av.reverse ++ st) (hcat : (st.map fun v => v.category).sum ≤ 8) (hR : (fr' + 1 ≤ fr ∧ 8 + (M'.2.2.1 + 11) + lo' ≤ lo) ∧ ce + mc' ≤ mc ∧ sl + ms' ≤ ms) (kk : ∀ (r : Option Value) (L1' : List sA) (h' : eH), Q' r L1' → stars (L1' ++ L2) h' → ES PP FF M fr lo mc ms np ls (r.toList ++ st) h' (ce + mc') (sl + ms')) : ES PP FF M fr lo mc ms pc ls st0 h ce sl := by
  obtain ⟨h1, h2, hu, hj, k1, k2⟩ := (stars_app L1 L2).mp (stars_ix hL is (by rw [hn9]; exact hp) hs)
  refine s_callS np hu hj hd hn hC (hM h1 k1) hlen hst hcat hR (fun r h1' q hj' => ?_)
  obtain ⟨L', q1, q2⟩ := q
  exact kk r L' _ q1 ((stars_app L' L2).mpr ⟨h1', h2, rfl, hj', q2, k2⟩)
theorem sp_callI (np : Nat) {L L1 L2 : List sA} (hL : stars L h) (is : List Nat) (n9 : Nat) (hn9 : L.length = n9) (hp : is.isPerm (List.range n9) = true) (hs : is.filterMap (fun i => L[i]?) = L1 ++ L2) {index n fr' lo' mc' ms' b : Nat} {M' : MD} {av st0 : List Value} {Q' : Option Value → List sA → Prop} (hd : decode M.2.1 pc = .ok (.invokespecial index, 3)) (hn : pc + 3 = np) (hC : CI M.1.cls index M' n) (hM : CA M' (.ref b :: av) L1 Q' fr' lo' mc' ms') (hlen : av.length = n) (hst : st0 = av.reverse ++ .ref b :: st) (hcat : (st.map fun v => v.category).sum ≤ 8) (hR : (fr' + 1 ≤ fr ∧ 8 + (M'.2.2.1 + 11) + lo' ≤ lo) ∧ ce + mc' ≤ mc ∧ sl + ms' ≤ ms) (kk : ∀ (r : Option Value) (L1' : List sA) (h' : eH), Q' r L1' → stars (L1' ++ L2) h' → ES PP FF M fr lo mc ms np ls (r.toList ++ st) h' (ce + mc') (sl + ms')) : ES PP FF M fr lo mc ms pc ls st0 h ce sl := by
  obtain ⟨h1, h2, hu, hj, k1, k2⟩ := (stars_app L1 L2).mp (stars_ix hL is (by rw [hn9]; exact hp) hs)
  refine s_callI np hu hj hd hn hC (hM h1 k1) hlen hst hcat hR (fun r h1' q hj' => ?_)
  obtain ⟨L', q1, q2⟩ := q
  exact kk r L' _ q1 ((stars_app L' L2).mpr ⟨h1', h2, rfl, hj', q2, k2⟩)
theorem sp_callV (np : Nat) {L L1 L2 : List sA} (hL : stars L h) (is : List Nat) (n9 : Nat) (hn9 : L.length = n9) (hp : is.isPerm (List.range n9) = true) (hs : is.filterMap (fun i => L[i]?) = L1 ++ L2) {index n fr' lo' mc' ms' b ci : Nat} {M' : MD} {av st0 : List Value} {Q' : Option Value → List sA → Prop} {P : sA} (ho : isO P b ci) (j : Nat) (hP : L[j]? = some P) (hd : decode M.2.1 pc = .ok (.invokevirtual index, 3)) (hn : pc + 3 = np) (hC : CV M.1.cls index M' ci n) (hM : CA M' (.ref b :: av) L1 Q' fr' lo' mc' ms') (hlen : av.length = n) (hst : st0 = av.reverse ++ .ref b :: st) (hcat : (st.map fun v => v.category).sum ≤ 8) (hR : (fr' + 1 ≤ fr ∧ 8 + (M'.2.2.1 + 11) + lo' ≤ lo) ∧ ce + mc' ≤ mc ∧ sl + ms' ≤ ms) (kk : ∀ (r : Option Value) (L1' : List sA) (h' : eH), Q' r L1' → stars (L1' ++ L2) h' → ES PP FF M fr lo mc ms np ls (r.toList ++ st) h' (ce + mc') (sl + ms')) : ES PP FF M fr lo mc ms pc ls st0 h ce sl := by
  obtain ⟨fs, hb⟩ := stars_isO L j hL hP ho
  obtain ⟨h1, h2, hu, hj, k1, k2⟩ := (stars_app L1 L2).mp (stars_ix hL is (by rw [hn9]; exact hp) hs)
  refine s_callV np hu hj hd hn hC hb (hM h1 k1) hlen hst hcat hR (fun r h1' q hj' => ?_)
  obtain ⟨L', q1, q2⟩ := q
  exact kk r L' _ q1 ((stars_app L' L2).mpr ⟨h1', h2, rfl, hj', q2, k2⟩)
end ES
