section ER
variable {M : MD} {fr lo mc ms : Nat} {Q : Option Value → eH → Prop} {pc ce sl : Nat} {ls : List (Option Value)} {st : List Value} {h : eH}
theorem e_iconst (np : Nat) {n : Int} {v : Int32} (hd : decode M.2.1 pc = .ok (.iconst n, 1)) (hn : pc + 1 = np) (hv : Int32.ofInt n = v) (k : EE M fr lo mc ms Q np ls (.int v :: st) h ce sl) : EE M fr lo mc ms Q pc ls st h ce sl := by
  subst hn
  intro p l e s m args below meth c H locs D cA A lsA X R S L
  exact lv_iconst X.1 X.2.1 hd hv (k p l e s m args below meth c H locs D cA A lsA X R S L)
theorem e_bipush (np : Nat) {n : Int} {v : Int32} (hd : decode M.2.1 pc = .ok (.bipush n, 2)) (hn : pc + 2 = np) (hv : (Int8.ofInt n).toInt32 = v) (k : EE M fr lo mc ms Q np ls (.int v :: st) h ce sl) : EE M fr lo mc ms Q pc ls st h ce sl := by
  subst hn
  intro p l e s m args below meth c H locs D cA A lsA X R S L
  exact lv_bipush X.1 X.2.1 hd hv (k p l e s m args below meth c H locs D cA A lsA X R S L)
theorem e_sipush (np : Nat) {n : Int} {v : Int32} (hd : decode M.2.1 pc = .ok (.sipush n, 3)) (hn : pc + 3 = np) (hv : (Int16.ofInt n).toInt32 = v) (k : EE M fr lo mc ms Q np ls (.int v :: st) h ce sl) : EE M fr lo mc ms Q pc ls st h ce sl := by
  subst hn
  intro p l e s m args below meth c H locs D cA A lsA X R S L
  exact lv_sipush X.1 X.2.1 hd hv (k p l e s m args below meth c H locs D cA A lsA X R S L)
theorem e_iload_n (np : Nat) {i : Fin 4} {x : Int32} (hd : decode M.2.1 pc = .ok (.iload_n i, 1)) (hn : pc + 1 = np) (hl : ls[i.val]? = some (some (.int x))) (k : EE M fr lo mc ms Q np ls (.int x :: st) h ce sl) : EE M fr lo mc ms Q pc ls st h ce sl := by
  subst hn
  intro p l e s m args below meth c H locs D cA A lsA X R S L
  exact lv_iload_n X.1 X.2.1 hd rfl (L.at hl) (k p l e s m args below meth c H locs D cA A lsA X R S L)
theorem e_iload (np : Nat) {i : Nat} {x : Int32} (hd : decode M.2.1 pc = .ok (.iload i, 2)) (hn : pc + 2 = np) (hl : ls[i]? = some (some (.int x))) (k : EE M fr lo mc ms Q np ls (.int x :: st) h ce sl) : EE M fr lo mc ms Q pc ls st h ce sl := by
  subst hn
  intro p l e s m args below meth c H locs D cA A lsA X R S L
  exact lv_iload X.1 X.2.1 hd (L.at hl) (k p l e s m args below meth c H locs D cA A lsA X R S L)
theorem e_aload_n (np : Nat) {i : Fin 4} {x : Nat} (hd : decode M.2.1 pc = .ok (.aload_n i, 1)) (hn : pc + 1 = np) (hl : ls[i.val]? = some (some (.ref x))) (k : EE M fr lo mc ms Q np ls (.ref x :: st) h ce sl) : EE M fr lo mc ms Q pc ls st h ce sl := by
  subst hn
  intro p l e s m args below meth c H locs D cA A lsA X R S L
  exact lv_aload_n X.1 X.2.1 hd rfl (L.at hl) (k p l e s m args below meth c H locs D cA A lsA X R S L)
theorem e_aload_nN (np : Nat) {i : Fin 4} (hd : decode M.2.1 pc = .ok (.aload_n i, 1)) (hn : pc + 1 = np) (hl : ls[i.val]? = some (some .null)) (k : EE M fr lo mc ms Q np ls (.null :: st) h ce sl) : EE M fr lo mc ms Q pc ls st h ce sl := by
  subst hn
  intro p l e s m args below meth c H locs D cA A lsA X R S L
  exact lv_aload_nN X.1 X.2.1 hd rfl (L.at hl) (k p l e s m args below meth c H locs D cA A lsA X R S L)
theorem e_aload (np : Nat) {i : Nat} {x : Nat} (hd : decode M.2.1 pc = .ok (.aload i, 2)) (hn : pc + 2 = np) (hl : ls[i]? = some (some (.ref x))) (k : EE M fr lo mc ms Q np ls (.ref x :: st) h ce sl) : EE M fr lo mc ms Q pc ls st h ce sl := by
  subst hn
  intro p l e s m args below meth c H locs D cA A lsA X R S L
  exact lv_aload X.1 X.2.1 hd (L.at hl) (k p l e s m args below meth c H locs D cA A lsA X R S L)
theorem e_aloadN (np : Nat) {i : Nat} (hd : decode M.2.1 pc = .ok (.aload i, 2)) (hn : pc + 2 = np) (hl : ls[i]? = some (some .null)) (k : EE M fr lo mc ms Q np ls (.null :: st) h ce sl) : EE M fr lo mc ms Q pc ls st h ce sl := by
  subst hn
  intro p l e s m args below meth c H locs D cA A lsA X R S L
  exact lv_aloadN X.1 X.2.1 hd (L.at hl) (k p l e s m args below meth c H locs D cA A lsA X R S L)
theorem e_istore_n (np : Nat) {i : Fin 4} {x : Int32} (hd : decode M.2.1 pc = .ok (.istore_n i, 1)) (hn : pc + 1 = np) {ls' : List (Option Value)} (hm : i.val < M.2.2.1) (hs : ls.set i.val (some (.int x)) = ls') (k : EE M fr lo mc ms Q np ls' st h ce sl) : EE M fr lo mc ms Q pc ls ((.int x) :: st) h ce sl := by
  subst hn; subst hs
  intro p l e s m args below meth c H locs D cA A lsA X R S L
  exact lv_istore_n X.1 X.2.1 hd rfl L.1 hm rfl (fun ls' hl => k p l e s m args below meth c H locs D cA A ls' X R S (L.set rfl hl))
theorem e_istore (np : Nat) {i : Nat} {x : Int32} (hd : decode M.2.1 pc = .ok (.istore i, 2)) (hn : pc + 2 = np) {ls' : List (Option Value)} (hm : i < M.2.2.1) (hs : ls.set i (some (.int x)) = ls') (k : EE M fr lo mc ms Q np ls' st h ce sl) : EE M fr lo mc ms Q pc ls ((.int x) :: st) h ce sl := by
  subst hn; subst hs
  intro p l e s m args below meth c H locs D cA A lsA X R S L
  exact lv_istore X.1 X.2.1 hd L.1 hm rfl (fun ls' hl => k p l e s m args below meth c H locs D cA A ls' X R S (L.set rfl hl))
theorem e_astore_n (np : Nat) {i : Fin 4} {x : Nat} (hd : decode M.2.1 pc = .ok (.astore_n i, 1)) (hn : pc + 1 = np) {ls' : List (Option Value)} (hm : i.val < M.2.2.1) (hs : ls.set i.val (some (.ref x)) = ls') (k : EE M fr lo mc ms Q np ls' st h ce sl) : EE M fr lo mc ms Q pc ls ((.ref x) :: st) h ce sl := by
  subst hn; subst hs
  intro p l e s m args below meth c H locs D cA A lsA X R S L
  exact lv_astore_n X.1 X.2.1 hd rfl L.1 hm rfl (fun ls' hl => k p l e s m args below meth c H locs D cA A ls' X R S (L.set rfl hl))
theorem e_astore_nN (np : Nat) {i : Fin 4} (hd : decode M.2.1 pc = .ok (.astore_n i, 1)) (hn : pc + 1 = np) {ls' : List (Option Value)} (hm : i.val < M.2.2.1) (hs : ls.set i.val (some .null) = ls') (k : EE M fr lo mc ms Q np ls' st h ce sl) : EE M fr lo mc ms Q pc ls (.null :: st) h ce sl := by
  subst hn; subst hs
  intro p l e s m args below meth c H locs D cA A lsA X R S L
  exact lv_astore_nN X.1 X.2.1 hd rfl L.1 hm rfl (fun ls' hl => k p l e s m args below meth c H locs D cA A ls' X R S (L.set rfl hl))
theorem e_astore (np : Nat) {i : Nat} {x : Nat} (hd : decode M.2.1 pc = .ok (.astore i, 2)) (hn : pc + 2 = np) {ls' : List (Option Value)} (hm : i < M.2.2.1) (hs : ls.set i (some (.ref x)) = ls') (k : EE M fr lo mc ms Q np ls' st h ce sl) : EE M fr lo mc ms Q pc ls ((.ref x) :: st) h ce sl := by
  subst hn; subst hs
  intro p l e s m args below meth c H locs D cA A lsA X R S L
  exact lv_astore X.1 X.2.1 hd L.1 hm rfl (fun ls' hl => k p l e s m args below meth c H locs D cA A ls' X R S (L.set rfl hl))
theorem e_astoreN (np : Nat) {i : Nat} (hd : decode M.2.1 pc = .ok (.astore i, 2)) (hn : pc + 2 = np) {ls' : List (Option Value)} (hm : i < M.2.2.1) (hs : ls.set i (some .null) = ls') (k : EE M fr lo mc ms Q np ls' st h ce sl) : EE M fr lo mc ms Q pc ls (.null :: st) h ce sl := by
  subst hn; subst hs
  intro p l e s m args below meth c H locs D cA A lsA X R S L
  exact lv_astoreN X.1 X.2.1 hd L.1 hm rfl (fun ls' hl => k p l e s m args below meth c H locs D cA A ls' X R S (L.set rfl hl))
theorem e_iinc (np : Nat) {i : Nat} {n : Int} {x v : Int32} (hd : decode M.2.1 pc = .ok (.iinc i n, 3)) (hn : pc + 3 = np) {ls' : List (Option Value)} (hl : ls[i]? = some (some (.int x))) (hv : x + Int32.ofInt n = v) (hm : i < M.2.2.1) (hs : ls.set i (some (.int v)) = ls') (k : EE M fr lo mc ms Q np ls' st h ce sl) : EE M fr lo mc ms Q pc ls st h ce sl := by
  subst hn; subst hs
  intro p l e s m args below meth c H locs D cA A lsA X R S L
  obtain ⟨q, hq⟩ := List.getElem?_of_mem ((e_al_mem 0 ls).mpr ⟨i, (Nat.zero_add i).symm, hl⟩)
  exact lv_iinc X.1 X.2.1 hd L.1 hq hv hm rfl (fun ls' hl => k p l e s m args below meth c H locs D cA A ls' X R S (L.set rfl hl))
theorem e_iadd (np : Nat) {x y v : Int32} (hd : decode M.2.1 pc = .ok (.iadd, 1)) (hn : pc + 1 = np) (hv : x + y = v) (k : EE M fr lo mc ms Q np ls (.int v :: st) h ce sl) : EE M fr lo mc ms Q pc ls (.int y :: .int x :: st) h ce sl := by
  subst hn
  intro p l e s m args below meth c H locs D cA A lsA X R S L
  exact lv_iadd X.1 X.2.1 hd (by rw [hv]; exact (k p l e s m args below meth c H locs D cA A lsA X R S L))
theorem e_isub (np : Nat) {x y v : Int32} (hd : decode M.2.1 pc = .ok (.isub, 1)) (hn : pc + 1 = np) (hv : x - y = v) (k : EE M fr lo mc ms Q np ls (.int v :: st) h ce sl) : EE M fr lo mc ms Q pc ls (.int y :: .int x :: st) h ce sl := by
  subst hn
  intro p l e s m args below meth c H locs D cA A lsA X R S L
  exact lv_isub X.1 X.2.1 hd (by rw [hv]; exact (k p l e s m args below meth c H locs D cA A lsA X R S L))
theorem e_imul (np : Nat) {x y v : Int32} (hd : decode M.2.1 pc = .ok (.imul, 1)) (hn : pc + 1 = np) (hv : x * y = v) (k : EE M fr lo mc ms Q np ls (.int v :: st) h ce sl) : EE M fr lo mc ms Q pc ls (.int y :: .int x :: st) h ce sl := by
  subst hn
  intro p l e s m args below meth c H locs D cA A lsA X R S L
  exact lv_imul X.1 X.2.1 hd (by rw [hv]; exact (k p l e s m args below meth c H locs D cA A lsA X R S L))
theorem e_iand (np : Nat) {x y v : Int32} (hd : decode M.2.1 pc = .ok (.iand, 1)) (hn : pc + 1 = np) (hv : x &&& y = v) (k : EE M fr lo mc ms Q np ls (.int v :: st) h ce sl) : EE M fr lo mc ms Q pc ls (.int y :: .int x :: st) h ce sl := by
  subst hn
  intro p l e s m args below meth c H locs D cA A lsA X R S L
  exact lv_iand X.1 X.2.1 hd (by rw [hv]; exact (k p l e s m args below meth c H locs D cA A lsA X R S L))
theorem e_ior (np : Nat) {x y v : Int32} (hd : decode M.2.1 pc = .ok (.ior, 1)) (hn : pc + 1 = np) (hv : x ||| y = v) (k : EE M fr lo mc ms Q np ls (.int v :: st) h ce sl) : EE M fr lo mc ms Q pc ls (.int y :: .int x :: st) h ce sl := by
  subst hn
  intro p l e s m args below meth c H locs D cA A lsA X R S L
  exact lv_ior X.1 X.2.1 hd (by rw [hv]; exact (k p l e s m args below meth c H locs D cA A lsA X R S L))
theorem e_ixor (np : Nat) {x y v : Int32} (hd : decode M.2.1 pc = .ok (.ixor, 1)) (hn : pc + 1 = np) (hv : x ^^^ y = v) (k : EE M fr lo mc ms Q np ls (.int v :: st) h ce sl) : EE M fr lo mc ms Q pc ls (.int y :: .int x :: st) h ce sl := by
  subst hn
  intro p l e s m args below meth c H locs D cA A lsA X R S L
  exact lv_ixor X.1 X.2.1 hd (by rw [hv]; exact (k p l e s m args below meth c H locs D cA A lsA X R S L))
theorem e_ishl (np : Nat) {x y v : Int32} (hd : decode M.2.1 pc = .ok (.ishl, 1)) (hn : pc + 1 = np) (hv : x <<< (y &&& 31) = v) (k : EE M fr lo mc ms Q np ls (.int v :: st) h ce sl) : EE M fr lo mc ms Q pc ls (.int y :: .int x :: st) h ce sl := by
  subst hn
  intro p l e s m args below meth c H locs D cA A lsA X R S L
  exact lv_ishl X.1 X.2.1 hd (by rw [hv]; exact (k p l e s m args below meth c H locs D cA A lsA X R S L))
theorem e_ishr (np : Nat) {x y v : Int32} (hd : decode M.2.1 pc = .ok (.ishr, 1)) (hn : pc + 1 = np) (hv : x >>> (y &&& 31) = v) (k : EE M fr lo mc ms Q np ls (.int v :: st) h ce sl) : EE M fr lo mc ms Q pc ls (.int y :: .int x :: st) h ce sl := by
  subst hn
  intro p l e s m args below meth c H locs D cA A lsA X R S L
  exact lv_ishr X.1 X.2.1 hd (by rw [hv]; exact (k p l e s m args below meth c H locs D cA A lsA X R S L))
theorem e_idiv (np : Nat) {x y v : Int32} (hd : decode M.2.1 pc = .ok (.idiv, 1)) (hn : pc + 1 = np) (hne : ¬ y = 0) (hv : x / y = v) (k : EE M fr lo mc ms Q np ls (.int v :: st) h ce sl) : EE M fr lo mc ms Q pc ls (.int y :: .int x :: st) h ce sl := by
  subst hn
  intro p l e s m args below meth c H locs D cA A lsA X R S L
  exact lv_idiv X.1 X.2.1 hd hne (by rw [hv]; exact (k p l e s m args below meth c H locs D cA A lsA X R S L))
theorem e_irem (np : Nat) {x y v : Int32} (hd : decode M.2.1 pc = .ok (.irem, 1)) (hn : pc + 1 = np) (hne : ¬ y = 0) (hv : x - x / y * y = v) (k : EE M fr lo mc ms Q np ls (.int v :: st) h ce sl) : EE M fr lo mc ms Q pc ls (.int y :: .int x :: st) h ce sl := by
  subst hn
  intro p l e s m args below meth c H locs D cA A lsA X R S L
  exact lv_irem X.1 X.2.1 hd hne (by rw [hv]; exact (k p l e s m args below meth c H locs D cA A lsA X R S L))
theorem e_iushr (np : Nat) {x y v : Int32} (hd : decode M.2.1 pc = .ok (.iushr, 1)) (hn : pc + 1 = np) (hv : (x.toUInt32 >>> (y.toUInt32 &&& Int32.toUInt32 31)).toInt32 = v) (k : EE M fr lo mc ms Q np ls (.int v :: st) h ce sl) : EE M fr lo mc ms Q pc ls (.int y :: .int x :: st) h ce sl := by
  subst hn
  intro p l e s m args below meth c H locs D cA A lsA X R S L
  exact lv_iushr X.1 X.2.1 hd hv (k p l e s m args below meth c H locs D cA A lsA X R S L)
theorem e_dup (np : Nat) {w : Value} (hd : decode M.2.1 pc = .ok (.dup, 1)) (hn : pc + 1 = np) (hw : w.category = 1) (k : EE M fr lo mc ms Q np ls (w :: w :: st) h ce sl) : EE M fr lo mc ms Q pc ls (w :: st) h ce sl := by
  subst hn
  intro p l e s m args below meth c H locs D cA A lsA X R S L
  exact lv_dup X.1 X.2.1 hd hw (k p l e s m args below meth c H locs D cA A lsA X R S L)
theorem e_dup2 (np : Nat) {w z : Value} (hd : decode M.2.1 pc = .ok (.dup2, 1)) (hn : pc + 1 = np) (hw : w.category = 1) (hz : z.category = 1) (k : EE M fr lo mc ms Q np ls (w :: z :: w :: z :: st) h ce sl) : EE M fr lo mc ms Q pc ls (w :: z :: st) h ce sl := by
  subst hn
  intro p l e s m args below meth c H locs D cA A lsA X R S L
  exact lv_dup2_11 X.1 X.2.1 hd hw hz (k p l e s m args below meth c H locs D cA A lsA X R S L)
theorem e_pop (np : Nat) {w : Value} (hd : decode M.2.1 pc = .ok (.pop, 1)) (hn : pc + 1 = np) (hw : w.category = 1) (k : EE M fr lo mc ms Q np ls st h ce sl) : EE M fr lo mc ms Q pc ls (w :: st) h ce sl := by
  subst hn
  intro p l e s m args below meth c H locs D cA A lsA X R S L
  exact lv_pop X.1 X.2.1 hd hw (k p l e s m args below meth c H locs D cA A lsA X R S L)
theorem e_i2l (np : Nat) {x : Int32} {v : Int64} (hd : decode M.2.1 pc = .ok (.i2l, 1)) (hn : pc + 1 = np) (hv : x.toInt64 = v) (k : EE M fr lo mc ms Q np ls (.long v :: st) h ce sl) : EE M fr lo mc ms Q pc ls (.int x :: st) h ce sl := by
  subst hn
  intro p l e s m args below meth c H locs D cA A lsA X R S L
  exact lv_i2l X.1 X.2.1 hd hv (k p l e s m args below meth c H locs D cA A lsA X R S L)
theorem e_null (np : Nat) (hd : decode M.2.1 pc = .ok (.aconst_null, 1)) (hn : pc + 1 = np) (k : EE M fr lo mc ms Q np ls (.null :: st) h ce sl) : EE M fr lo mc ms Q pc ls st h ce sl := by
  subst hn
  intro p l e s m args below meth c H locs D cA A lsA X R S L
  exact lv_null X.1 X.2.1 hd (k p l e s m args below meth c H locs D cA A lsA X R S L)
theorem e_if_eq (tg np : Nat) {x : Int32} {off : Int} (hd : decode M.2.1 pc = .ok (.ifCond .eq off, 3)) (ht : (pc : Int) + off = (tg : Int)) (hn : pc + 3 = np) (kt : x = 0 → EE M fr lo mc ms Q tg ls st h ce sl) (kf : ¬ x = 0 → EE M fr lo mc ms Q np ls st h ce sl) : EE M fr lo mc ms Q pc ls (.int x :: st) h ce sl := by
  subst hn
  intro p l e s m args below meth c H locs D cA A lsA X R S L
  exact lv_if_eq X.1 X.2.1 hd ht (fun q => kt q p l e s m args below meth c H locs D cA A lsA X R S L) (fun q => kf q p l e s m args below meth c H locs D cA A lsA X R S L)
theorem e_icmp_eq (tg np : Nat) {x y : Int32} {off : Int} (hd : decode M.2.1 pc = .ok (.if_icmp .eq off, 3)) (ht : (pc : Int) + off = (tg : Int)) (hn : pc + 3 = np) (kt : x = y → EE M fr lo mc ms Q tg ls st h ce sl) (kf : ¬ x = y → EE M fr lo mc ms Q np ls st h ce sl) : EE M fr lo mc ms Q pc ls (.int y :: .int x :: st) h ce sl := by
  subst hn
  intro p l e s m args below meth c H locs D cA A lsA X R S L
  exact lv_icmp_eq X.1 X.2.1 hd ht (fun q => kt q p l e s m args below meth c H locs D cA A lsA X R S L) (fun q => kf q p l e s m args below meth c H locs D cA A lsA X R S L)
theorem e_if_ne (tg np : Nat) {x : Int32} {off : Int} (hd : decode M.2.1 pc = .ok (.ifCond .ne off, 3)) (ht : (pc : Int) + off = (tg : Int)) (hn : pc + 3 = np) (kt : ¬ x = 0 → EE M fr lo mc ms Q tg ls st h ce sl) (kf : x = 0 → EE M fr lo mc ms Q np ls st h ce sl) : EE M fr lo mc ms Q pc ls (.int x :: st) h ce sl := by
  subst hn
  intro p l e s m args below meth c H locs D cA A lsA X R S L
  exact lv_if_ne X.1 X.2.1 hd ht (fun q => kt q p l e s m args below meth c H locs D cA A lsA X R S L) (fun q => kf q p l e s m args below meth c H locs D cA A lsA X R S L)
theorem e_icmp_ne (tg np : Nat) {x y : Int32} {off : Int} (hd : decode M.2.1 pc = .ok (.if_icmp .ne off, 3)) (ht : (pc : Int) + off = (tg : Int)) (hn : pc + 3 = np) (kt : ¬ x = y → EE M fr lo mc ms Q tg ls st h ce sl) (kf : x = y → EE M fr lo mc ms Q np ls st h ce sl) : EE M fr lo mc ms Q pc ls (.int y :: .int x :: st) h ce sl := by
  subst hn
  intro p l e s m args below meth c H locs D cA A lsA X R S L
  exact lv_icmp_ne X.1 X.2.1 hd ht (fun q => kt q p l e s m args below meth c H locs D cA A lsA X R S L) (fun q => kf q p l e s m args below meth c H locs D cA A lsA X R S L)
theorem e_if_lt (tg np : Nat) {x : Int32} {off : Int} (hd : decode M.2.1 pc = .ok (.ifCond .lt off, 3)) (ht : (pc : Int) + off = (tg : Int)) (hn : pc + 3 = np) (kt : x < 0 → EE M fr lo mc ms Q tg ls st h ce sl) (kf : ¬ x < 0 → EE M fr lo mc ms Q np ls st h ce sl) : EE M fr lo mc ms Q pc ls (.int x :: st) h ce sl := by
  subst hn
  intro p l e s m args below meth c H locs D cA A lsA X R S L
  exact lv_if_lt X.1 X.2.1 hd ht (fun q => kt q p l e s m args below meth c H locs D cA A lsA X R S L) (fun q => kf q p l e s m args below meth c H locs D cA A lsA X R S L)
theorem e_icmp_lt (tg np : Nat) {x y : Int32} {off : Int} (hd : decode M.2.1 pc = .ok (.if_icmp .lt off, 3)) (ht : (pc : Int) + off = (tg : Int)) (hn : pc + 3 = np) (kt : x < y → EE M fr lo mc ms Q tg ls st h ce sl) (kf : ¬ x < y → EE M fr lo mc ms Q np ls st h ce sl) : EE M fr lo mc ms Q pc ls (.int y :: .int x :: st) h ce sl := by
  subst hn
  intro p l e s m args below meth c H locs D cA A lsA X R S L
  exact lv_icmp_lt X.1 X.2.1 hd ht (fun q => kt q p l e s m args below meth c H locs D cA A lsA X R S L) (fun q => kf q p l e s m args below meth c H locs D cA A lsA X R S L)
theorem e_if_ge (tg np : Nat) {x : Int32} {off : Int} (hd : decode M.2.1 pc = .ok (.ifCond .ge off, 3)) (ht : (pc : Int) + off = (tg : Int)) (hn : pc + 3 = np) (kt : 0 ≤ x → EE M fr lo mc ms Q tg ls st h ce sl) (kf : ¬ 0 ≤ x → EE M fr lo mc ms Q np ls st h ce sl) : EE M fr lo mc ms Q pc ls (.int x :: st) h ce sl := by
  subst hn
  intro p l e s m args below meth c H locs D cA A lsA X R S L
  exact lv_if_ge X.1 X.2.1 hd ht (fun q => kt q p l e s m args below meth c H locs D cA A lsA X R S L) (fun q => kf q p l e s m args below meth c H locs D cA A lsA X R S L)
theorem e_icmp_ge (tg np : Nat) {x y : Int32} {off : Int} (hd : decode M.2.1 pc = .ok (.if_icmp .ge off, 3)) (ht : (pc : Int) + off = (tg : Int)) (hn : pc + 3 = np) (kt : y ≤ x → EE M fr lo mc ms Q tg ls st h ce sl) (kf : ¬ y ≤ x → EE M fr lo mc ms Q np ls st h ce sl) : EE M fr lo mc ms Q pc ls (.int y :: .int x :: st) h ce sl := by
  subst hn
  intro p l e s m args below meth c H locs D cA A lsA X R S L
  exact lv_icmp_ge X.1 X.2.1 hd ht (fun q => kt q p l e s m args below meth c H locs D cA A lsA X R S L) (fun q => kf q p l e s m args below meth c H locs D cA A lsA X R S L)
theorem e_if_gt (tg np : Nat) {x : Int32} {off : Int} (hd : decode M.2.1 pc = .ok (.ifCond .gt off, 3)) (ht : (pc : Int) + off = (tg : Int)) (hn : pc + 3 = np) (kt : 0 < x → EE M fr lo mc ms Q tg ls st h ce sl) (kf : ¬ 0 < x → EE M fr lo mc ms Q np ls st h ce sl) : EE M fr lo mc ms Q pc ls (.int x :: st) h ce sl := by
  subst hn
  intro p l e s m args below meth c H locs D cA A lsA X R S L
  exact lv_if_gt X.1 X.2.1 hd ht (fun q => kt q p l e s m args below meth c H locs D cA A lsA X R S L) (fun q => kf q p l e s m args below meth c H locs D cA A lsA X R S L)
theorem e_icmp_gt (tg np : Nat) {x y : Int32} {off : Int} (hd : decode M.2.1 pc = .ok (.if_icmp .gt off, 3)) (ht : (pc : Int) + off = (tg : Int)) (hn : pc + 3 = np) (kt : y < x → EE M fr lo mc ms Q tg ls st h ce sl) (kf : ¬ y < x → EE M fr lo mc ms Q np ls st h ce sl) : EE M fr lo mc ms Q pc ls (.int y :: .int x :: st) h ce sl := by
  subst hn
  intro p l e s m args below meth c H locs D cA A lsA X R S L
  exact lv_icmp_gt X.1 X.2.1 hd ht (fun q => kt q p l e s m args below meth c H locs D cA A lsA X R S L) (fun q => kf q p l e s m args below meth c H locs D cA A lsA X R S L)
theorem e_if_le (tg np : Nat) {x : Int32} {off : Int} (hd : decode M.2.1 pc = .ok (.ifCond .le off, 3)) (ht : (pc : Int) + off = (tg : Int)) (hn : pc + 3 = np) (kt : x ≤ 0 → EE M fr lo mc ms Q tg ls st h ce sl) (kf : ¬ x ≤ 0 → EE M fr lo mc ms Q np ls st h ce sl) : EE M fr lo mc ms Q pc ls (.int x :: st) h ce sl := by
  subst hn
  intro p l e s m args below meth c H locs D cA A lsA X R S L
  exact lv_if_le X.1 X.2.1 hd ht (fun q => kt q p l e s m args below meth c H locs D cA A lsA X R S L) (fun q => kf q p l e s m args below meth c H locs D cA A lsA X R S L)
theorem e_icmp_le (tg np : Nat) {x y : Int32} {off : Int} (hd : decode M.2.1 pc = .ok (.if_icmp .le off, 3)) (ht : (pc : Int) + off = (tg : Int)) (hn : pc + 3 = np) (kt : x ≤ y → EE M fr lo mc ms Q tg ls st h ce sl) (kf : ¬ x ≤ y → EE M fr lo mc ms Q np ls st h ce sl) : EE M fr lo mc ms Q pc ls (.int y :: .int x :: st) h ce sl := by
  subst hn
  intro p l e s m args below meth c H locs D cA A lsA X R S L
  exact lv_icmp_le X.1 X.2.1 hd ht (fun q => kt q p l e s m args below meth c H locs D cA A lsA X R S L) (fun q => kf q p l e s m args below meth c H locs D cA A lsA X R S L)
theorem e_goto (tg : Nat) {off : Int} (hd : decode M.2.1 pc = .ok (.goto off, 3)) (ht : (pc : Int) + off = (tg : Int)) (k : EE M fr lo mc ms Q tg ls st h ce sl) : EE M fr lo mc ms Q pc ls st h ce sl := by
  intro p l e s m args below meth c H locs D cA A lsA X R S L
  exact lv_goto X.1 X.2.1 hd ht (k p l e s m args below meth c H locs D cA A lsA X R S L)
theorem e_ifnonnull (tg : Nat) {x : Nat} {off : Int} (hd : decode M.2.1 pc = .ok (.ifnonnull off, 3)) (ht : (pc : Int) + off = (tg : Int)) (k : EE M fr lo mc ms Q tg ls st h ce sl) : EE M fr lo mc ms Q pc ls (.ref x :: st) h ce sl := by
  intro p l e s m args below meth c H locs D cA A lsA X R S L
  exact lv_ifnonnull X.1 X.2.1 hd ht (k p l e s m args below meth c H locs D cA A lsA X R S L)
theorem e_ifnullN (tg : Nat) {off : Int} (hd : decode M.2.1 pc = .ok (.ifnull off, 3)) (ht : (pc : Int) + off = (tg : Int)) (k : EE M fr lo mc ms Q tg ls st h ce sl) : EE M fr lo mc ms Q pc ls (.null :: st) h ce sl := by
  intro p l e s m args below meth c H locs D cA A lsA X R S L
  exact lv_ifnullN X.1 X.2.1 hd ht (k p l e s m args below meth c H locs D cA A lsA X R S L)
theorem e_ifnull (np : Nat) {x : Nat} {off : Int} (hd : decode M.2.1 pc = .ok (.ifnull off, 3)) (hn : pc + 3 = np) (k : EE M fr lo mc ms Q np ls st h ce sl) : EE M fr lo mc ms Q pc ls (.ref x :: st) h ce sl := by
  subst hn
  intro p l e s m args below meth c H locs D cA A lsA X R S L
  exact lv_ifnull X.1 X.2.1 hd (k p l e s m args below meth c H locs D cA A lsA X R S L)
theorem e_ifnonnullN (np : Nat) {off : Int} (hd : decode M.2.1 pc = .ok (.ifnonnull off, 3)) (hn : pc + 3 = np) (k : EE M fr lo mc ms Q np ls st h ce sl) : EE M fr lo mc ms Q pc ls (.null :: st) h ce sl := by
  subst hn
  intro p l e s m args below meth c H locs D cA A lsA X R S L
  exact lv_ifnonnullN X.1 X.2.1 hd (k p l e s m args below meth c H locs D cA A lsA X R S L)
theorem e_tableOut (tg : Nat) {x : Int32} {dflt lo1 hi1 : Int} {offs : Array Int} {len : Nat} (hd : decode M.2.1 pc = .ok (.tableswitch dflt lo1 hi1 offs, len)) (hx : x.toInt < lo1 ∨ hi1 < x.toInt) (ht : (pc : Int) + dflt = (tg : Int)) (k : EE M fr lo mc ms Q tg ls st h ce sl) : EE M fr lo mc ms Q pc ls (.int x :: st) h ce sl := by
  intro p l e s m args below meth c H locs D cA A lsA X R S L
  exact lv_tableOut X.1 X.2.1 hd hx ht (k p l e s m args below meth c H locs D cA A lsA X R S L)
theorem e_tableIn (tg : Nat) {x : Int32} {dflt lo1 hi1 off : Int} {offs : Array Int} {len : Nat} (hd : decode M.2.1 pc = .ok (.tableswitch dflt lo1 hi1 offs, len)) (h1 : ¬ x.toInt < lo1) (h2 : ¬ hi1 < x.toInt) (ho : offs[(x.toInt - lo1).toNat]? = some off) (ht : (pc : Int) + off = (tg : Int)) (k : EE M fr lo mc ms Q tg ls st h ce sl) : EE M fr lo mc ms Q pc ls (.int x :: st) h ce sl := by
  intro p l e s m args below meth c H locs D cA A lsA X R S L
  exact lv_tableIn X.1 X.2.1 hd h1 h2 ho ht (k p l e s m args below meth c H locs D cA A lsA X R S L)
theorem e_ldc (np : Nat) {index : Nat} {v : Int32} (hd : decode M.2.1 pc = .ok (.ldc index, 2)) (hn : pc + 2 = np) (hw : Cond.constant M.1.cls index v ∈ gw) (k : EE M fr lo mc ms Q np ls (.int v :: st) h ce sl) : EE M fr lo mc ms Q pc ls st h ce sl := by
  subst hn
  intro p l e s m args below meth c H locs D cA A lsA X R S L
  exact lv_ldc X.1 X.2.1 X.2.2.2.2.1 (X.2.2.2.2.2.1 _ hw) hd (k p l e s m args below meth c H locs D cA A lsA X R S L)
theorem e_ldcw (np : Nat) {index : Nat} {v : Int32} (hd : decode M.2.1 pc = .ok (.ldc_w index, 3)) (hn : pc + 3 = np) (hw : Cond.constant M.1.cls index v ∈ gw) (k : EE M fr lo mc ms Q np ls (.int v :: st) h ce sl) : EE M fr lo mc ms Q pc ls st h ce sl := by
  subst hn
  intro p l e s m args below meth c H locs D cA A lsA X R S L
  exact lv_ldcw X.1 X.2.1 X.2.2.2.2.1 (X.2.2.2.2.2.1 _ hw) hd (k p l e s m args below meth c H locs D cA A lsA X R S L)
theorem e_iret {v : Int32} (hd : decode M.2.1 pc = .ok (.ireturn, 1)) (hr : M.2.2.2 = some .int) (hc : ce ≤ mc) (hs : sl ≤ ms) (hQ : Q (some (.int v)) h) : EE M fr lo mc ms Q pc ls [.int v] h ce sl := by
  intro p l e s m args below meth c H locs D cA A lsA X R S L
  exact W.widen hc hs (W.iret X.1 X.2.1 (X.2.2.1.trans hr) (fun t ht hW => ⟨_, h, rfl, hQ, by rw [ht]; exact R, S.F ht⟩) S.2.2 hd X.2.2.2.2.2.2.2.1)
theorem e_zret {v : Int32} (hd : decode M.2.1 pc = .ok (.ireturn, 1)) (hr : M.2.2.2 = some .boolean) (hv : v = 0 ∨ v = 1) (hc : ce ≤ mc) (hs : sl ≤ ms) (hQ : Q (some (.int v)) h) : EE M fr lo mc ms Q pc ls [.int v] h ce sl := by
  intro p l e s m args below meth c H locs D cA A lsA X R S L
  exact W.widen hc hs (W.zret X.1 X.2.1 (X.2.2.1.trans hr) (by rcases hv with rfl | rfl <;> decide) (fun t ht hW => ⟨_, h, rfl, hQ, by rw [ht]; exact R, S.F ht⟩) S.2.2 hd X.2.2.2.2.2.2.2.1)
theorem e_vret (hd : decode M.2.1 pc = .ok (.return_, 1)) (hr : M.2.2.2 = none) (hc : ce ≤ mc) (hs : sl ≤ ms) (hQ : Q none h) : EE M fr lo mc ms Q pc ls [] h ce sl := by
  intro p l e s m args below meth c H locs D cA A lsA X R S L
  exact W.widen hc hs (W.vret X.1 X.2.1 (X.2.2.1.trans hr) (fun t ht hW => ⟨_, h, rfl, hQ, by rw [ht]; exact R, S.F ht⟩) S.2.2 hd X.2.2.2.2.2.2.2.1)
theorem e_aret {C : String} {v : Value} (hd : decode M.2.1 pc = .ok (.areturn, 1)) (hr : M.2.2.2 = some (.object C)) (hv : v = .null ∨ ∃ a, v = .ref a) (hc : ce ≤ mc) (hs : sl ≤ ms) (hQ : Q (some v) h) : EE M fr lo mc ms Q pc ls [v] h ce sl := by
  intro p l e s m args below meth c H locs D cA A lsA X R S L
  exact W.widen hc hs (W.aret X.1 X.2.1 (X.2.2.1.trans hr) (Or.inl ⟨_, rfl⟩) hv (fun t ht hW => ⟨_, h, rfl, hQ, by rw [ht]; exact R, S.F ht⟩) S.2.2 hd X.2.2.2.2.2.2.2.1)
theorem e_widen {ce' sl' : Nat} (h1 : ce ≤ ce') (h2 : sl ≤ sl') (k : EE M fr lo mc ms Q pc ls st h ce' sl') : EE M fr lo mc ms Q pc ls st h ce sl := by
  intro p l e s m args below meth c H locs D cA A lsA X R S L
  exact W.widen h1 h2 (k p l e s m args below meth c H locs D cA A lsA X R S L)
end ER
