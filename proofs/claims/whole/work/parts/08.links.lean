/-! the methods, and what the tables say of each entry, by program -/
theorem gk1 {w : Cond} (h : w ∈ tables_1_1) (g : goodWord w = true) : w ∈ gw := List.mem_filter.mpr ⟨List.mem_append_right _ (show w ∈ tables_1 from (List.mem_append_left _ h)), g⟩
theorem gk2 {w : Cond} (h : w ∈ tables_1_2) (g : goodWord w = true) : w ∈ gw := List.mem_filter.mpr ⟨List.mem_append_right _ (show w ∈ tables_1 from (List.mem_append_right _ (List.mem_append_left _ h))), g⟩
theorem gk3 {w : Cond} (h : w ∈ tables_1_3) (g : goodWord w = true) : w ∈ gw := List.mem_filter.mpr ⟨List.mem_append_right _ (show w ∈ tables_1 from (List.mem_append_right _ (List.mem_append_right _ (List.mem_append_left _ h)))), g⟩
theorem gk4 {w : Cond} (h : w ∈ tables_1_4) (g : goodWord w = true) : w ∈ gw := List.mem_filter.mpr ⟨List.mem_append_right _ (show w ∈ tables_1 from (List.mem_append_right _ (List.mem_append_right _ (List.mem_append_right _ (List.mem_append_left _ h))))), g⟩
theorem gk5 {w : Cond} (h : w ∈ tables_1_5) (g : goodWord w = true) : w ∈ gw := List.mem_filter.mpr ⟨List.mem_append_right _ (show w ∈ tables_1 from (List.mem_append_right _ (List.mem_append_right _ (List.mem_append_right _ (List.mem_append_right _ (List.mem_append_left _ h)))))), g⟩
theorem gk6 {w : Cond} (h : w ∈ tables_1_6) (g : goodWord w = true) : w ∈ gw := List.mem_filter.mpr ⟨List.mem_append_right _ (show w ∈ tables_1 from (List.mem_append_right _ (List.mem_append_right _ (List.mem_append_right _ (List.mem_append_right _ (List.mem_append_right _ (List.mem_append_left _ h))))))), g⟩
theorem gk7 {w : Cond} (h : w ∈ tables_1_7) (g : goodWord w = true) : w ∈ gw := List.mem_filter.mpr ⟨List.mem_append_right _ (show w ∈ tables_1 from (List.mem_append_right _ (List.mem_append_right _ (List.mem_append_right _ (List.mem_append_right _ (List.mem_append_right _ (List.mem_append_right _ (List.mem_append_left _ h)))))))), g⟩
theorem gk8 {w : Cond} (h : w ∈ tables_1_8) (g : goodWord w = true) : w ∈ gw := List.mem_filter.mpr ⟨List.mem_append_right _ (show w ∈ tables_1 from (List.mem_append_right _ (List.mem_append_right _ (List.mem_append_right _ (List.mem_append_right _ (List.mem_append_right _ (List.mem_append_right _ (List.mem_append_right _ h)))))))), g⟩
abbrev mX0_init : MD := (yX0_init, cX0_init, 2, none)
set_option maxRecDepth 20000 in
theorem kc_X0_init : Cond.code yX0_init cX0_init 2 none ∈ gw := gk2 (List.mem_of_getElem? (i := 55) rfl) rfl
abbrev mX0_makeAnew : MD := (yX0_makeAnew, cX0_makeAnew, 4, none)
set_option maxRecDepth 20000 in
theorem kc_X0_makeAnew : Cond.code yX0_makeAnew cX0_makeAnew 4 none ∈ gw := gk2 (List.mem_of_getElem? (i := 195) rfl) rfl
abbrev mX0_has : MD := (yX0_has, cX0_has, 3, (some .boolean))
set_option maxRecDepth 20000 in
theorem kc_X0_has : Cond.code yX0_has cX0_has 3 (some .boolean) ∈ gw := gk2 (List.mem_of_getElem? (i := 209) rfl) rfl
abbrev mX0_value : MD := (yX0_value, cX0_value, 2, (some .int))
set_option maxRecDepth 20000 in
theorem kc_X0_value : Cond.code yX0_value cX0_value 2 (some .int) ∈ gw := gk2 (List.mem_of_getElem? (i := 221) rfl) rfl
abbrev mX0_write : MD := (yX0_write, cX0_write, 3, none)
set_option maxRecDepth 20000 in
theorem kc_X0_write : Cond.code yX0_write cX0_write 3 none ∈ gw := gk2 (List.mem_of_getElem? (i := 213) rfl) rfl
abbrev mX0_bits : MD := (yX0_bits, cX0_bits, 6, (some .int))
set_option maxRecDepth 20000 in
theorem kc_X0_bits : Cond.code yX0_bits cX0_bits 6 (some .int) ∈ gw := gk3 (List.mem_of_getElem? (i := 144) rfl) rfl
abbrev mX1_init : MD := (yX1_init, cX1_init, 4, none)
set_option maxRecDepth 20000 in
theorem kc_X1_init : Cond.code yX1_init cX1_init 4 none ∈ gw := gk2 (List.mem_of_getElem? (i := 49) rfl) rfl
abbrev mX1_bankOfKind : MD := (yX1_bankOfKind, cX1_bankOfKind, 2, (some (.object "FieldLine$Bank")))
set_option maxRecDepth 20000 in
theorem kc_X1_bankOfKind : Cond.code yX1_bankOfKind cX1_bankOfKind 2 (some (.object "FieldLine$Bank")) ∈ gw := gk2 (List.mem_of_getElem? (i := 190) rfl) rfl
abbrev mX1_addLimit : MD := (yX1_addLimit, cX1_addLimit, 6, (some .boolean))
set_option maxRecDepth 20000 in
theorem kc_X1_addLimit : Cond.code yX1_addLimit cX1_addLimit 6 (some .boolean) ∈ gw := gk2 (List.mem_of_getElem? (i := 229) rfl) rfl
abbrev mX1_mayBeGiven : MD := (yX1_mayBeGiven, cX1_mayBeGiven, 5, (some .boolean))
set_option maxRecDepth 20000 in
theorem kc_X1_mayBeGiven : Cond.code yX1_mayBeGiven cX1_mayBeGiven 5 (some .boolean) ∈ gw := gk3 (List.mem_of_getElem? (i := 115) rfl) rfl
abbrev mX1_registersFault : MD := (yX1_registersFault, cX1_registersFault, 6, (some .int))
set_option maxRecDepth 20000 in
theorem kc_X1_registersFault : Cond.code yX1_registersFault cX1_registersFault 6 (some .int) ∈ gw := gk3 (List.mem_of_getElem? (i := 109) rfl) rfl
abbrev mX1_counterOf : MD := (yX1_counterOf, cX1_counterOf, 2, (some .int))
set_option maxRecDepth 20000 in
theorem kc_X1_counterOf : Cond.code yX1_counterOf cX1_counterOf 2 (some .int) ∈ gw := gk3 (List.mem_of_getElem? (i := 149) rfl) rfl
abbrev mX1_count : MD := (yX1_count, cX1_count, 2, none)
set_option maxRecDepth 20000 in
theorem kc_X1_count : Cond.code yX1_count cX1_count 2 none ∈ gw := gk3 (List.mem_of_getElem? (i := 74) rfl) rfl
abbrev mX1_clearCounters : MD := (yX1_clearCounters, cX1_clearCounters, 2, none)
set_option maxRecDepth 20000 in
theorem kc_X1_clearCounters : Cond.code yX1_clearCounters cX1_clearCounters 2 none ∈ gw := gk3 (List.mem_of_getElem? (i := 191) rfl) rfl
abbrev mX1_countFrame : MD := (yX1_countFrame, cX1_countFrame, 3, (some .boolean))
set_option maxRecDepth 20000 in
theorem kc_X1_countFrame : Cond.code yX1_countFrame cX1_countFrame 3 (some .boolean) ∈ gw := gk5 (List.mem_of_getElem? (i := 98) rfl) rfl
abbrev mX1_keepReply : MD := (yX1_keepReply, cX1_keepReply, 3, none)
set_option maxRecDepth 20000 in
theorem kc_X1_keepReply : Cond.code yX1_keepReply cX1_keepReply 3 none ∈ gw := gk5 (List.mem_of_getElem? (i := 115) rfl) rfl
abbrev mX1_applyRules : MD := (yX1_applyRules, cX1_applyRules, 2, none)
set_option maxRecDepth 20000 in
theorem kc_X1_applyRules : Cond.code yX1_applyRules cX1_applyRules 2 none ∈ gw := gk4 (List.mem_of_getElem? (i := 198) rfl) rfl
abbrev mX1_addRule : MD := (yX1_addRule, cX1_addRule, 5, (some .boolean))
set_option maxRecDepth 20000 in
theorem kc_X1_addRule : Cond.code yX1_addRule cX1_addRule 5 (some .boolean) ∈ gw := gk3 (List.mem_of_getElem? (i := 53) rfl) rfl
abbrev mX1_applyOne : MD := (yX1_applyOne, cX1_applyOne, 5, none)
set_option maxRecDepth 20000 in
theorem kc_X1_applyOne : Cond.code yX1_applyOne cX1_applyOne 5 none ∈ gw := gk4 (List.mem_of_getElem? (i := 203) rfl) rfl
abbrev mX1_nearer : MD := (yX1_nearer, cX1_nearer, 3, (some .int))
set_option maxRecDepth 20000 in
theorem kc_X1_nearer : Cond.code yX1_nearer cX1_nearer 3 (some .int) ∈ gw := gk4 (List.mem_of_getElem? (i := 208) rfl) rfl
abbrev mX1_pour : MD := (yX1_pour, cX1_pour, 4, none)
set_option maxRecDepth 20000 in
theorem kc_X1_pour : Cond.code yX1_pour cX1_pour 4 none ∈ gw := gk4 (List.mem_of_getElem? (i := 214) rfl) rfl
abbrev mX2_init : MD := (yX2_init, cX2_init, 1, none)
set_option maxRecDepth 20000 in
theorem kc_X2_init : Cond.code yX2_init cX2_init 1 none ∈ gw := gk3 (List.mem_of_getElem? (i := 230) rfl) rfl
abbrev mX3_init : MD := (yX3_init, cX3_init, 1, none)
set_option maxRecDepth 20000 in
theorem kc_X3_init : Cond.code yX3_init cX3_init 1 none ∈ gw := gk1 (List.mem_of_getElem? (i := 117) rfl) rfl
abbrev mX3_firstRequest : MD := (yX3_firstRequest, cX3_firstRequest, 1, (some (.object "FieldLine$Job")))
set_option maxRecDepth 20000 in
theorem kc_X3_firstRequest : Cond.code yX3_firstRequest cX3_firstRequest 1 (some (.object "FieldLine$Job")) ∈ gw := gk4 (List.mem_of_getElem? (i := 98) rfl) rfl
abbrev mX3_firstResult : MD := (yX3_firstResult, cX3_firstResult, 1, (some (.object "FieldLine$Job")))
set_option maxRecDepth 20000 in
theorem kc_X3_firstResult : Cond.code yX3_firstResult cX3_firstResult 1 (some (.object "FieldLine$Job")) ∈ gw := gk4 (List.mem_of_getElem? (i := 77) rfl) rfl
abbrev mX3_dropResult : MD := (yX3_dropResult, cX3_dropResult, 1, (some .boolean))
set_option maxRecDepth 20000 in
theorem kc_X3_dropResult : Cond.code yX3_dropResult cX3_dropResult 1 (some .boolean) ∈ gw := gk4 (List.mem_of_getElem? (i := 85) rfl) rfl
abbrev mX3_addRequest : MD := (yX3_addRequest, cX3_addRequest, 5, (some .int))
set_option maxRecDepth 20000 in
theorem kc_X3_addRequest : Cond.code yX3_addRequest cX3_addRequest 5 (some .int) ∈ gw := gk3 (List.mem_of_getElem? (i := 226) rfl) rfl
abbrev mX3_addScan : MD := (yX3_addScan, cX3_addScan, 5, (some .int))
set_option maxRecDepth 20000 in
theorem kc_X3_addScan : Cond.code yX3_addScan cX3_addScan 5 (some .int) ∈ gw := gk4 (List.mem_of_getElem? (i := 28) rfl) rfl
abbrev mX3_runScans : MD := (yX3_runScans, cX3_runScans, 4, none)
set_option maxRecDepth 20000 in
theorem kc_X3_runScans : Cond.code yX3_runScans cX3_runScans 4 none ∈ gw := gk4 (List.mem_of_getElem? (i := 220) rfl) rfl
abbrev mX3_isInRow : MD := (yX3_isInRow, cX3_isInRow, 4, (some .boolean))
set_option maxRecDepth 20000 in
theorem kc_X3_isInRow : Cond.code yX3_isInRow cX3_isInRow 4 (some .boolean) ∈ gw := gk4 (List.mem_of_getElem? (i := 224) rfl) rfl
abbrev mX3_startWaiting : MD := (yX3_startWaiting, cX3_startWaiting, 1, none)
set_option maxRecDepth 20000 in
theorem kc_X3_startWaiting : Cond.code yX3_startWaiting cX3_startWaiting 1 none ∈ gw := gk5 (List.mem_of_getElem? (i := 47) rfl) rfl
abbrev mX3_waitOneTick : MD := (yX3_waitOneTick, cX3_waitOneTick, 3, none)
set_option maxRecDepth 20000 in
theorem kc_X3_waitOneTick : Cond.code yX3_waitOneTick cX3_waitOneTick 3 none ∈ gw := gk5 (List.mem_of_getElem? (i := 1) rfl) rfl
abbrev mX3_takeFrame : MD := (yX3_takeFrame, cX3_takeFrame, 3, none)
set_option maxRecDepth 20000 in
theorem kc_X3_takeFrame : Cond.code yX3_takeFrame cX3_takeFrame 3 none ∈ gw := gk5 (List.mem_of_getElem? (i := 59) rfl) rfl
abbrev mX3_fail : MD := (yX3_fail, cX3_fail, 3, none)
set_option maxRecDepth 20000 in
theorem kc_X3_fail : Cond.code yX3_fail cX3_fail 3 none ∈ gw := gk5 (List.mem_of_getElem? (i := 12) rfl) rfl
abbrev mX3_finish : MD := (yX3_finish, cX3_finish, 7, none)
set_option maxRecDepth 20000 in
theorem kc_X3_finish : Cond.code yX3_finish cX3_finish 7 none ∈ gw := gk5 (List.mem_of_getElem? (i := 6) rfl) rfl
abbrev mX4_init : MD := (yX4_init, cX4_init, 2, none)
set_option maxRecDepth 20000 in
theorem kc_X4_init : Cond.code yX4_init cX4_init 2 none ∈ gw := gk1 (List.mem_of_getElem? (i := 35) rfl) rfl
abbrev mX4_at : MD := (yX4_at, cX4_at, 2, (some .int))
set_option maxRecDepth 20000 in
theorem kc_X4_at : Cond.code yX4_at cX4_at 2 (some .int) ∈ gw := gk3 (List.mem_of_getElem? (i := 17) rfl) rfl
abbrev mX4_orNone : MD := (yX4_orNone, cX4_orNone, 2, (some .int))
set_option maxRecDepth 20000 in
theorem kc_X4_orNone : Cond.code yX4_orNone cX4_orNone 2 (some .int) ∈ gw := gk3 (List.mem_of_getElem? (i := 214) rfl) rfl
abbrev mX4_word : MD := (yX4_word, cX4_word, 2, (some .int))
set_option maxRecDepth 20000 in
theorem kc_X4_word : Cond.code yX4_word cX4_word 2 (some .int) ∈ gw := gk3 (List.mem_of_getElem? (i := 82) rfl) rfl
abbrev mX4_change : MD := (yX4_change, cX4_change, 3, none)
set_option maxRecDepth 20000 in
theorem kc_X4_change : Cond.code yX4_change cX4_change 3 none ∈ gw := gk3 (List.mem_of_getElem? (i := 159) rfl) rfl
abbrev mX4_add : MD := (yX4_add, cX4_add, 2, none)
set_option maxRecDepth 20000 in
theorem kc_X4_add : Cond.code yX4_add cX4_add 2 none ∈ gw := gk3 (List.mem_of_getElem? (i := 29) rfl) rfl
abbrev mX4_addWord : MD := (yX4_addWord, cX4_addWord, 2, none)
set_option maxRecDepth 20000 in
theorem kc_X4_addWord : Cond.code yX4_addWord cX4_addWord 2 none ∈ gw := gk2 (List.mem_of_getElem? (i := 11) rfl) rfl
abbrev mX4_addLatest : MD := (yX4_addLatest, cX4_addLatest, 3, none)
set_option maxRecDepth 20000 in
theorem kc_X4_addLatest : Cond.code yX4_addLatest cX4_addLatest 3 none ∈ gw := gk3 (List.mem_of_getElem? (i := 195) rfl) rfl
abbrev mX4_clear : MD := (yX4_clear, cX4_clear, 1, none)
set_option maxRecDepth 20000 in
theorem kc_X4_clear : Cond.code yX4_clear cX4_clear 1 none ∈ gw := gk3 (List.mem_of_getElem? (i := 45) rfl) rfl
abbrev mX4_cut : MD := (yX4_cut, cX4_cut, 2, none)
set_option maxRecDepth 20000 in
theorem kc_X4_cut : Cond.code yX4_cut cX4_cut 2 none ∈ gw := gk2 (List.mem_of_getElem? (i := 20) rfl) rfl
abbrev mX4_becomeZeros : MD := (yX4_becomeZeros, cX4_becomeZeros, 3, none)
set_option maxRecDepth 20000 in
theorem kc_X4_becomeZeros : Cond.code yX4_becomeZeros cX4_becomeZeros 3 none ∈ gw := gk3 (List.mem_of_getElem? (i := 6) rfl) rfl
abbrev mX4_become : MD := (yX4_become, cX4_become, 4, none)
set_option maxRecDepth 20000 in
theorem kc_X4_become : Cond.code yX4_become cX4_become 4 none ∈ gw := gk3 (List.mem_of_getElem? (i := 37) rfl) rfl
abbrev mX4_addPart : MD := (yX4_addPart, cX4_addPart, 6, none)
set_option maxRecDepth 20000 in
theorem kc_X4_addPart : Cond.code yX4_addPart cX4_addPart 6 none ∈ gw := gk3 (List.mem_of_getElem? (i := 41) rfl) rfl
abbrev mX4_beginsAs : MD := (yX4_beginsAs, cX4_beginsAs, 4, (some .boolean))
set_option maxRecDepth 20000 in
theorem kc_X4_beginsAs : Cond.code yX4_beginsAs cX4_beginsAs 4 (some .boolean) ∈ gw := gk5 (List.mem_of_getElem? (i := 83) rfl) rfl
abbrev mX4_sumOf : MD := (yX4_sumOf, cX4_sumOf, 5, (some .int))
set_option maxRecDepth 20000 in
theorem kc_X4_sumOf : Cond.code yX4_sumOf cX4_sumOf 5 (some .int) ∈ gw := gk2 (List.mem_of_getElem? (i := 28) rfl) rfl
abbrev mX5_init : MD := (yX5_init, cX5_init, 5, none)
set_option maxRecDepth 20000 in
theorem kc_X5_init : Cond.code yX5_init cX5_init 5 none ∈ gw := gk4 (List.mem_of_getElem? (i := 32) rfl) rfl
abbrev mX6_isForAll : MD := (yX6_isForAll, cX6_isForAll, 1, (some .boolean))
set_option maxRecDepth 20000 in
theorem kc_X6_isForAll : Cond.code yX6_isForAll cX6_isForAll 1 (some .boolean) ∈ gw := gk5 (List.mem_of_getElem? (i := 111) rfl) rfl
abbrev mX6_served : MD := (yX6_served, cX6_served, 4, (some .int))
set_option maxRecDepth 20000 in
theorem kc_X6_served : Cond.code yX6_served cX6_served 4 (some .int) ∈ gw := gk3 (List.mem_of_getElem? (i := 69) rfl) rfl
abbrev mX6_faultHere : MD := (yX6_faultHere, cX6_faultHere, 3, (some .int))
set_option maxRecDepth 20000 in
theorem kc_X6_faultHere : Cond.code yX6_faultHere cX6_faultHere 3 (some .int) ∈ gw := gk3 (List.mem_of_getElem? (i := 101) rfl) rfl
abbrev mX6_diagnosisFault : MD := (yX6_diagnosisFault, cX6_diagnosisFault, 4, (some .int))
set_option maxRecDepth 20000 in
theorem kc_X6_diagnosisFault : Cond.code yX6_diagnosisFault cX6_diagnosisFault 4 (some .int) ∈ gw := gk3 (List.mem_of_getElem? (i := 118) rfl) rfl
abbrev mX6_filesFault : MD := (yX6_filesFault, cX6_filesFault, 7, (some .int))
set_option maxRecDepth 20000 in
theorem kc_X6_filesFault : Cond.code yX6_filesFault cX6_filesFault 7 (some .int) ∈ gw := gk3 (List.mem_of_getElem? (i := 121) rfl) rfl
abbrev mX6_maskFault : MD := (yX6_maskFault, cX6_maskFault, 4, (some .int))
set_option maxRecDepth 20000 in
theorem kc_X6_maskFault : Cond.code yX6_maskFault cX6_maskFault 4 (some .int) ∈ gw := gk3 (List.mem_of_getElem? (i := 125) rfl) rfl
abbrev mX6_masked : MD := (yX6_masked, cX6_masked, 3, (some .int))
set_option maxRecDepth 20000 in
theorem kc_X6_masked : Cond.code yX6_masked cX6_masked 3 (some .int) ∈ gw := gk3 (List.mem_of_getElem? (i := 129) rfl) rfl
abbrev mX6_queueFault : MD := (yX6_queueFault, cX6_queueFault, 3, (some .int))
set_option maxRecDepth 20000 in
theorem kc_X6_queueFault : Cond.code yX6_queueFault cX6_queueFault 3 (some .int) ∈ gw := gk3 (List.mem_of_getElem? (i := 133) rfl) rfl
abbrev mX6_perform : MD := (yX6_perform, cX6_perform, 4, none)
set_option maxRecDepth 20000 in
theorem kc_X6_perform : Cond.code yX6_perform cX6_perform 4 none ∈ gw := gk3 (List.mem_of_getElem? (i := 177) rfl) rfl
abbrev mX6_isTelling : MD := (yX6_isTelling, cX6_isTelling, 1, (some .boolean))
set_option maxRecDepth 20000 in
theorem kc_X6_isTelling : Cond.code yX6_isTelling cX6_isTelling 1 (some .boolean) ∈ gw := gk3 (List.mem_of_getElem? (i := 137) rfl) rfl
abbrev mX6_tell : MD := (yX6_tell, cX6_tell, 3, none)
set_option maxRecDepth 20000 in
theorem kc_X6_tell : Cond.code yX6_tell cX6_tell 3 none ∈ gw := gk3 (List.mem_of_getElem? (i := 140) rfl) rfl
abbrev mX6_readBits : MD := (yX6_readBits, cX6_readBits, 6, none)
set_option maxRecDepth 20000 in
theorem kc_X6_readBits : Cond.code yX6_readBits cX6_readBits 6 none ∈ gw := gk3 (List.mem_of_getElem? (i := 180) rfl) rfl
abbrev mX6_readWords : MD := (yX6_readWords, cX6_readWords, 6, none)
set_option maxRecDepth 20000 in
theorem kc_X6_readWords : Cond.code yX6_readWords cX6_readWords 6 none ∈ gw := gk3 (List.mem_of_getElem? (i := 183) rfl) rfl
abbrev mX6_writeBits : MD := (yX6_writeBits, cX6_writeBits, 5, none)
set_option maxRecDepth 20000 in
theorem kc_X6_writeBits : Cond.code yX6_writeBits cX6_writeBits 5 none ∈ gw := gk3 (List.mem_of_getElem? (i := 200) rfl) rfl
abbrev mX6_writeWords : MD := (yX6_writeWords, cX6_writeWords, 6, none)
set_option maxRecDepth 20000 in
theorem kc_X6_writeWords : Cond.code yX6_writeWords cX6_writeWords 6 none ∈ gw := gk3 (List.mem_of_getElem? (i := 203) rfl) rfl
abbrev mX6_diagnose : MD := (yX6_diagnose, cX6_diagnose, 4, none)
set_option maxRecDepth 20000 in
theorem kc_X6_diagnose : Cond.code yX6_diagnose cX6_diagnose 4 none ∈ gw := gk3 (List.mem_of_getElem? (i := 187) rfl) rfl
abbrev mX6_tellEvents : MD := (yX6_tellEvents, cX6_tellEvents, 4, none)
set_option maxRecDepth 20000 in
theorem kc_X6_tellEvents : Cond.code yX6_tellEvents cX6_tellEvents 4 none ∈ gw := gk3 (List.mem_of_getElem? (i := 152) rfl) rfl
abbrev mX6_readFiles : MD := (yX6_readFiles, cX6_readFiles, 8, none)
set_option maxRecDepth 20000 in
theorem kc_X6_readFiles : Cond.code yX6_readFiles cX6_readFiles 8 none ∈ gw := gk3 (List.mem_of_getElem? (i := 155) rfl) rfl
abbrev mX6_writeFiles : MD := (yX6_writeFiles, cX6_writeFiles, 8, none)
set_option maxRecDepth 20000 in
theorem kc_X6_writeFiles : Cond.code yX6_writeFiles cX6_writeFiles 8 none ∈ gw := gk3 (List.mem_of_getElem? (i := 206) rfl) rfl
abbrev mX6_tellQueue : MD := (yX6_tellQueue, cX6_tellQueue, 3, none)
set_option maxRecDepth 20000 in
theorem kc_X6_tellQueue : Cond.code yX6_tellQueue cX6_tellQueue 3 none ∈ gw := gk3 (List.mem_of_getElem? (i := 162) rfl) rfl
abbrev mX6_tellTexts : MD := (yX6_tellTexts, cX6_tellTexts, 10, none)
set_option maxRecDepth 20000 in
theorem kc_X6_tellTexts : Cond.code yX6_tellTexts cX6_tellTexts 10 none ∈ gw := gk3 (List.mem_of_getElem? (i := 165) rfl) rfl
abbrev mX7_fault : MD := (yX7_fault, cX7_fault, 2, (some .int))
set_option maxRecDepth 20000 in
theorem kc_X7_fault : Cond.code yX7_fault cX7_fault 2 (some .int) ∈ gw := gk3 (List.mem_of_getElem? (i := 77) rfl) rfl
abbrev mX7_codeUnless : MD := (yX7_codeUnless, cX7_codeUnless, 1, (some .int))
set_option maxRecDepth 20000 in
theorem kc_X7_codeUnless : Cond.code yX7_codeUnless cX7_codeUnless 1 (some .int) ∈ gw := gk3 (List.mem_of_getElem? (i := 86) rfl) rfl
abbrev mX7_diagnosisFault : MD := (yX7_diagnosisFault, cX7_diagnosisFault, 2, (some .int))
set_option maxRecDepth 20000 in
theorem kc_X7_diagnosisFault : Cond.code yX7_diagnosisFault cX7_diagnosisFault 2 (some .int) ∈ gw := gk3 (List.mem_of_getElem? (i := 89) rfl) rfl
abbrev mX7_textsFault : MD := (yX7_textsFault, cX7_textsFault, 1, (some .int))
set_option maxRecDepth 20000 in
theorem kc_X7_textsFault : Cond.code yX7_textsFault cX7_textsFault 1 (some .int) ∈ gw := gk3 (List.mem_of_getElem? (i := 98) rfl) rfl
abbrev mX7_areReadParts : MD := (yX7_areReadParts, cX7_areReadParts, 4, (some .boolean))
set_option maxRecDepth 20000 in
theorem kc_X7_areReadParts : Cond.code yX7_areReadParts cX7_areReadParts 4 (some .boolean) ∈ gw := gk3 (List.mem_of_getElem? (i := 92) rfl) rfl
abbrev mX7_areWriteParts : MD := (yX7_areWriteParts, cX7_areWriteParts, 3, (some .boolean))
set_option maxRecDepth 20000 in
theorem kc_X7_areWriteParts : Cond.code yX7_areWriteParts cX7_areWriteParts 3 (some .boolean) ∈ gw := gk3 (List.mem_of_getElem? (i := 95) rfl) rfl
abbrev mX7_isRestart : MD := (yX7_isRestart, cX7_isRestart, 2, (some .boolean))
set_option maxRecDepth 20000 in
theorem kc_X7_isRestart : Cond.code yX7_isRestart cX7_isRestart 2 (some .boolean) ∈ gw := gk5 (List.mem_of_getElem? (i := 107) rfl) rfl
abbrev mX7_isRefusal : MD := (yX7_isRefusal, cX7_isRefusal, 2, (some .boolean))
set_option maxRecDepth 20000 in
theorem kc_X7_isRefusal : Cond.code yX7_isRefusal cX7_isRefusal 2 (some .boolean) ∈ gw := gk5 (List.mem_of_getElem? (i := 69) rfl) rfl
abbrev mX7_fits : MD := (yX7_fits, cX7_fits, 3, (some .boolean))
set_option maxRecDepth 20000 in
theorem kc_X7_fits : Cond.code yX7_fits cX7_fits 3 (some .boolean) ∈ gw := gk5 (List.mem_of_getElem? (i := 72) rfl) rfl
abbrev mX7_isSame : MD := (yX7_isSame, cX7_isSame, 2, (some .boolean))
set_option maxRecDepth 20000 in
theorem kc_X7_isSame : Cond.code yX7_isSame cX7_isSame 2 (some .boolean) ∈ gw := gk5 (List.mem_of_getElem? (i := 79) rfl) rfl
abbrev mX7_diagnosisFits : MD := (yX7_diagnosisFits, cX7_diagnosisFits, 3, (some .boolean))
set_option maxRecDepth 20000 in
theorem kc_X7_diagnosisFits : Cond.code yX7_diagnosisFits cX7_diagnosisFits 3 (some .boolean) ∈ gw := gk5 (List.mem_of_getElem? (i := 76) rfl) rfl
abbrev mX7_partsFit : MD := (yX7_partsFit, cX7_partsFit, 5, (some .boolean))
set_option maxRecDepth 20000 in
theorem kc_X7_partsFit : Cond.code yX7_partsFit cX7_partsFit 5 (some .boolean) ∈ gw := gk5 (List.mem_of_getElem? (i := 86) rfl) rfl
abbrev mX7_textsEnd : MD := (yX7_textsEnd, cX7_textsEnd, 3, (some .int))
set_option maxRecDepth 20000 in
theorem kc_X7_textsEnd : Cond.code yX7_textsEnd cX7_textsEnd 3 (some .int) ∈ gw := gk5 (List.mem_of_getElem? (i := 89) rfl) rfl
abbrev mX8_init : MD := (yX8_init, cX8_init, 3, none)
set_option maxRecDepth 20000 in
theorem kc_X8_init : Cond.code yX8_init cX8_init 3 none ∈ gw := gk2 (List.mem_of_getElem? (i := 76) rfl) rfl
abbrev mX8_find : MD := (yX8_find, cX8_find, 3, (some (.object "FieldLine$Row")))
set_option maxRecDepth 20000 in
theorem kc_X8_find : Cond.code yX8_find cX8_find 3 (some (.object "FieldLine$Row")) ∈ gw := gk3 (List.mem_of_getElem? (i := 1) rfl) rfl
abbrev mX8_findOrMake : MD := (yX8_findOrMake, cX8_findOrMake, 4, (some (.object "FieldLine$Row")))
set_option maxRecDepth 20000 in
theorem kc_X8_findOrMake : Cond.code yX8_findOrMake cX8_findOrMake 4 (some (.object "FieldLine$Row")) ∈ gw := gk2 (List.mem_of_getElem? (i := 237) rfl) rfl
abbrev mX8_leastKey : MD := (yX8_leastKey, cX8_leastKey, 5, (some .int))
set_option maxRecDepth 20000 in
theorem kc_X8_leastKey : Cond.code yX8_leastKey cX8_leastKey 5 (some .int) ∈ gw := gk3 (List.mem_of_getElem? (i := 169) rfl) rfl
abbrev mX8_greatestKey : MD := (yX8_greatestKey, cX8_greatestKey, 3, (some .int))
set_option maxRecDepth 20000 in
theorem kc_X8_greatestKey : Cond.code yX8_greatestKey cX8_greatestKey 3 (some .int) ∈ gw := gk3 (List.mem_of_getElem? (i := 174) rfl) rfl
abbrev mX9_init : MD := (yX9_init, cX9_init, 1, none)
set_option maxRecDepth 20000 in
theorem kc_X9_init : Cond.code yX9_init cX9_init 1 none ∈ gw := gk1 (List.mem_of_getElem? (i := 123) rfl) rfl
abbrev mX9_hear : MD := (yX9_hear, cX9_hear, 2, none)
set_option maxRecDepth 20000 in
theorem kc_X9_hear : Cond.code yX9_hear cX9_hear 2 none ∈ gw := gk5 (List.mem_of_getElem? (i := 42) rfl) rfl
abbrev mX9_frameEndsNow : MD := (yX9_frameEndsNow, cX9_frameEndsNow, 1, (some .boolean))
set_option maxRecDepth 20000 in
theorem kc_X9_frameEndsNow : Cond.code yX9_frameEndsNow cX9_frameEndsNow 1 (some .boolean) ∈ gw := gk5 (List.mem_of_getElem? (i := 55) rfl) rfl
abbrev mX9_isGood : MD := (yX9_isGood, cX9_isGood, 1, (some .boolean))
set_option maxRecDepth 20000 in
theorem kc_X9_isGood : Cond.code yX9_isGood cX9_isGood 1 (some .boolean) ∈ gw := gk5 (List.mem_of_getElem? (i := 63) rfl) rfl
abbrev mX9_forget : MD := (yX9_forget, cX9_forget, 1, none)
set_option maxRecDepth 20000 in
theorem kc_X9_forget : Cond.code yX9_forget cX9_forget 1 none ∈ gw := gk5 (List.mem_of_getElem? (i := 93) rfl) rfl
abbrev mX10_init : MD := (yX10_init, cX10_init, 1, none)
set_option maxRecDepth 20000 in
theorem kc_X10_init : Cond.code yX10_init cX10_init 1 none ∈ gw := gk1 (List.mem_of_getElem? (i := 59) rfl) rfl
abbrev mX10_startFrame : MD := (yX10_startFrame, cX10_startFrame, 5, none)
set_option maxRecDepth 20000 in
theorem kc_X10_startFrame : Cond.code yX10_startFrame cX10_startFrame 5 none ∈ gw := gk4 (List.mem_of_getElem? (i := 233) rfl) rfl
abbrev mX10_advance : MD := (yX10_advance, cX10_advance, 1, (some .int))
set_option maxRecDepth 20000 in
theorem kc_X10_advance : Cond.code yX10_advance cX10_advance 1 (some .int) ∈ gw := gk5 (List.mem_of_getElem? (i := 20) rfl) rfl
abbrev mX10_beginByte : MD := (yX10_beginByte, cX10_beginByte, 1, none)
set_option maxRecDepth 20000 in
theorem kc_X10_beginByte : Cond.code yX10_beginByte cX10_beginByte 1 none ∈ gw := gk5 (List.mem_of_getElem? (i := 24) rfl) rfl
abbrev mX10_finishByte : MD := (yX10_finishByte, cX10_finishByte, 1, none)
set_option maxRecDepth 20000 in
theorem kc_X10_finishByte : Cond.code yX10_finishByte cX10_finishByte 1 none ∈ gw := gk5 (List.mem_of_getElem? (i := 33) rfl) rfl
abbrev mX10_takeHarm : MD := (yX10_takeHarm, cX10_takeHarm, 3, (some .int))
set_option maxRecDepth 20000 in
theorem kc_X10_takeHarm : Cond.code yX10_takeHarm cX10_takeHarm 3 (some .int) ∈ gw := gk5 (List.mem_of_getElem? (i := 28) rfl) rfl
abbrev mX10_indexOfHarm : MD := (yX10_indexOfHarm, cX10_indexOfHarm, 3, (some .int))
set_option maxRecDepth 20000 in
theorem kc_X10_indexOfHarm : Cond.code yX10_indexOfHarm cX10_indexOfHarm 3 (some .int) ∈ gw := gk4 (List.mem_of_getElem? (i := 69) rfl) rfl
abbrev mX10_tellHarm : MD := (yX10_tellHarm, cX10_tellHarm, 4, (some .boolean))
set_option maxRecDepth 20000 in
theorem kc_X10_tellHarm : Cond.code yX10_tellHarm cX10_tellHarm 4 (some .boolean) ∈ gw := gk4 (List.mem_of_getElem? (i := 65) rfl) rfl
abbrev mX11_init : MD := (yX11_init, cX11_init, 1, none)
set_option maxRecDepth 20000 in
theorem kc_X11_init : Cond.code yX11_init cX11_init 1 none ∈ gw := gk1 (List.mem_of_getElem? (i := 27) rfl) rfl
abbrev mX11_feed : MD := (yX11_feed, cX11_feed, 6, (some .int))
set_option maxRecDepth 20000 in
theorem kc_X11_feed : Cond.code yX11_feed cX11_feed 6 (some .int) ∈ gw := gk2 (List.mem_of_getElem? (i := 3) rfl) rfl
abbrev mX11_feedNumber : MD := (yX11_feedNumber, cX11_feedNumber, 2, none)
set_option maxRecDepth 20000 in
theorem kc_X11_feedNumber : Cond.code yX11_feedNumber cX11_feedNumber 2 none ∈ gw := gk2 (List.mem_of_getElem? (i := 7) rfl) rfl
abbrev mX11_end : MD := (yX11_end, cX11_end, 2, (some .int))
set_option maxRecDepth 20000 in
theorem kc_X11_end : Cond.code yX11_end cX11_end 2 (some .int) ∈ gw := gk2 (List.mem_of_getElem? (i := 16) rfl) rfl
abbrev mX11_sum : MD := (yX11_sum, cX11_sum, 1, (some .int))
set_option maxRecDepth 20000 in
theorem kc_X11_sum : Cond.code yX11_sum cX11_sum 1 (some .int) ∈ gw := gk2 (List.mem_of_getElem? (i := 24) rfl) rfl
abbrev mX11_device : MD := (yX11_device, cX11_device, 3, (some .int))
set_option maxRecDepth 20000 in
theorem kc_X11_device : Cond.code yX11_device cX11_device 3 (some .int) ∈ gw := gk2 (List.mem_of_getElem? (i := 34) rfl) rfl
abbrev mX11_isTaken : MD := (yX11_isTaken, cX11_isTaken, 4, (some .boolean))
set_option maxRecDepth 20000 in
theorem kc_X11_isTaken : Cond.code yX11_isTaken cX11_isTaken 4 (some .boolean) ∈ gw := gk2 (List.mem_of_getElem? (i := 41) rfl) rfl
abbrev mX11_deviceOf : MD := (yX11_deviceOf, cX11_deviceOf, 2, (some (.object "FieldLine$Device")))
set_option maxRecDepth 20000 in
theorem kc_X11_deviceOf : Cond.code yX11_deviceOf cX11_deviceOf 2 (some (.object "FieldLine$Device")) ∈ gw := gk2 (List.mem_of_getElem? (i := 45) rfl) rfl
abbrev mX11_bankOf : MD := (yX11_bankOf, cX11_bankOf, 4, (some (.object "FieldLine$Bank")))
set_option maxRecDepth 20000 in
theorem kc_X11_bankOf : Cond.code yX11_bankOf cX11_bankOf 4 (some (.object "FieldLine$Bank")) ∈ gw := gk2 (List.mem_of_getElem? (i := 186) rfl) rfl
abbrev mX11_within : MD := (yX11_within, cX11_within, 3, (some .boolean))
set_option maxRecDepth 20000 in
theorem kc_X11_within : Cond.code yX11_within cX11_within 3 (some .boolean) ∈ gw := gk2 (List.mem_of_getElem? (i := 37) rfl) rfl
abbrev mX11_bank : MD := (yX11_bank, cX11_bank, 6, (some .boolean))
set_option maxRecDepth 20000 in
theorem kc_X11_bank : Cond.code yX11_bank cX11_bank 6 (some .boolean) ∈ gw := gk2 (List.mem_of_getElem? (i := 182) rfl) rfl
abbrev mX11_put : MD := (yX11_put, cX11_put, 6, (some .boolean))
set_option maxRecDepth 20000 in
theorem kc_X11_put : Cond.code yX11_put cX11_put 6 (some .boolean) ∈ gw := gk2 (List.mem_of_getElem? (i := 205) rfl) rfl
abbrev mX11_get : MD := (yX11_get, cX11_get, 5, (some .int))
set_option maxRecDepth 20000 in
theorem kc_X11_get : Cond.code yX11_get cX11_get 5 (some .int) ∈ gw := gk2 (List.mem_of_getElem? (i := 217) rfl) rfl
abbrev mX11_limit : MD := (yX11_limit, cX11_limit, 7, (some .boolean))
set_option maxRecDepth 20000 in
theorem kc_X11_limit : Cond.code yX11_limit cX11_limit 7 (some .boolean) ∈ gw := gk2 (List.mem_of_getElem? (i := 225) rfl) rfl
abbrev mX11_file : MD := (yX11_file, cX11_file, 6, (some .boolean))
set_option maxRecDepth 20000 in
theorem kc_X11_file : Cond.code yX11_file cX11_file 6 (some .boolean) ∈ gw := gk2 (List.mem_of_getElem? (i := 233) rfl) rfl
abbrev mX11_record : MD := (yX11_record, cX11_record, 6, (some .int))
set_option maxRecDepth 20000 in
theorem kc_X11_record : Cond.code yX11_record cX11_record 6 (some .int) ∈ gw := gk3 (List.mem_of_getElem? (i := 12) rfl) rfl
abbrev mX11_queue : MD := (yX11_queue, cX11_queue, 4, (some .boolean))
set_option maxRecDepth 20000 in
theorem kc_X11_queue : Cond.code yX11_queue cX11_queue 4 (some .boolean) ∈ gw := gk3 (List.mem_of_getElem? (i := 21) rfl) rfl
abbrev mX11_push : MD := (yX11_push, cX11_push, 6, (some .int))
set_option maxRecDepth 20000 in
theorem kc_X11_push : Cond.code yX11_push cX11_push 6 (some .int) ∈ gw := gk3 (List.mem_of_getElem? (i := 25) rfl) rfl
abbrev mX11_name : MD := (yX11_name, cX11_name, 5, (some .boolean))
set_option maxRecDepth 20000 in
theorem kc_X11_name : Cond.code yX11_name cX11_name 5 (some .boolean) ∈ gw := gk3 (List.mem_of_getElem? (i := 33) rfl) rfl
abbrev mX11_rule : MD := (yX11_rule, cX11_rule, 7, (some .boolean))
set_option maxRecDepth 20000 in
theorem kc_X11_rule : Cond.code yX11_rule cX11_rule 7 (some .boolean) ∈ gw := gk3 (List.mem_of_getElem? (i := 49) rfl) rfl
abbrev mX11_busy : MD := (yX11_busy, cX11_busy, 4, (some .boolean))
set_option maxRecDepth 20000 in
theorem kc_X11_busy : Cond.code yX11_busy cX11_busy 4 (some .boolean) ∈ gw := gk3 (List.mem_of_getElem? (i := 58) rfl) rfl
abbrev mX11_serve : MD := (yX11_serve, cX11_serve, 3, (some .int))
set_option maxRecDepth 20000 in
theorem kc_X11_serve : Cond.code yX11_serve cX11_serve 3 (some .int) ∈ gw := gk3 (List.mem_of_getElem? (i := 62) rfl) rfl
abbrev mX11_tapeIsPdu : MD := (yX11_tapeIsPdu, cX11_tapeIsPdu, 1, (some .boolean))
set_option maxRecDepth 20000 in
theorem kc_X11_tapeIsPdu : Cond.code yX11_tapeIsPdu cX11_tapeIsPdu 1 (some .boolean) ∈ gw := gk3 (List.mem_of_getElem? (i := 66) rfl) rfl
abbrev mX11_answer : MD := (yX11_answer, cX11_answer, 2, (some .int))
set_option maxRecDepth 20000 in
theorem kc_X11_answer : Cond.code yX11_answer cX11_answer 2 (some .int) ∈ gw := gk3 (List.mem_of_getElem? (i := 210) rfl) rfl
abbrev mX11_settings : MD := (yX11_settings, cX11_settings, 4, (some .boolean))
set_option maxRecDepth 20000 in
theorem kc_X11_settings : Cond.code yX11_settings cX11_settings 4 (some .boolean) ∈ gw := gk3 (List.mem_of_getElem? (i := 218) rfl) rfl
abbrev mX11_request : MD := (yX11_request, cX11_request, 3, (some .int))
set_option maxRecDepth 20000 in
theorem kc_X11_request : Cond.code yX11_request cX11_request 3 (some .int) ∈ gw := gk3 (List.mem_of_getElem? (i := 222) rfl) rfl
abbrev mX11_scan : MD := (yX11_scan, cX11_scan, 4, (some .int))
set_option maxRecDepth 20000 in
theorem kc_X11_scan : Cond.code yX11_scan cX11_scan 4 (some .int) ∈ gw := gk4 (List.mem_of_getElem? (i := 24) rfl) rfl
abbrev mX11_harm : MD := (yX11_harm, cX11_harm, 3, (some .boolean))
set_option maxRecDepth 20000 in
theorem kc_X11_harm : Cond.code yX11_harm cX11_harm 3 (some .boolean) ∈ gw := gk4 (List.mem_of_getElem? (i := 61) rfl) rfl
abbrev mX11_tick : MD := (yX11_tick, cX11_tick, 4, (some .int))
set_option maxRecDepth 20000 in
theorem kc_X11_tick : Cond.code yX11_tick cX11_tick 4 (some .int) ∈ gw := gk4 (List.mem_of_getElem? (i := 119) rfl) rfl
abbrev mX11_step : MD := (yX11_step, cX11_step, 3, none)
set_option maxRecDepth 20000 in
theorem kc_X11_step : Cond.code yX11_step cX11_step 3 none ∈ gw := gk4 (List.mem_of_getElem? (i := 190) rfl) rfl
abbrev mX11_applyRules : MD := (yX11_applyRules, cX11_applyRules, 3, none)
set_option maxRecDepth 20000 in
theorem kc_X11_applyRules : Cond.code yX11_applyRules cX11_applyRules 3 none ∈ gw := gk4 (List.mem_of_getElem? (i := 194) rfl) rfl
abbrev mX11_beginFrame : MD := (yX11_beginFrame, cX11_beginFrame, 4, none)
set_option maxRecDepth 20000 in
theorem kc_X11_beginFrame : Cond.code yX11_beginFrame cX11_beginFrame 4 none ∈ gw := gk4 (List.mem_of_getElem? (i := 229) rfl) rfl
abbrev mX11_shortenLags : MD := (yX11_shortenLags, cX11_shortenLags, 3, none)
set_option maxRecDepth 20000 in
theorem kc_X11_shortenLags : Cond.code yX11_shortenLags cX11_shortenLags 3 none ∈ gw := gk5 (List.mem_of_getElem? (i := 16) rfl) rfl
abbrev mX11_spread : MD := (yX11_spread, cX11_spread, 5, none)
set_option maxRecDepth 20000 in
theorem kc_X11_spread : Cond.code yX11_spread cX11_spread 5 none ∈ gw := gk5 (List.mem_of_getElem? (i := 38) rfl) rfl
abbrev mX11_silence : MD := (yX11_silence, cX11_silence, 4, none)
set_option maxRecDepth 20000 in
theorem kc_X11_silence : Cond.code yX11_silence cX11_silence 4 none ∈ gw := gk5 (List.mem_of_getElem? (i := 51) rfl) rfl
abbrev mX11_takeMessage : MD := (yX11_takeMessage, cX11_takeMessage, 5, none)
set_option maxRecDepth 20000 in
theorem kc_X11_takeMessage : Cond.code yX11_takeMessage cX11_takeMessage 5 none ∈ gw := gk5 (List.mem_of_getElem? (i := 104) rfl) rfl
abbrev mX11_result : MD := (yX11_result, cX11_result, 3, (some .int))
set_option maxRecDepth 20000 in
theorem kc_X11_result : Cond.code yX11_result cX11_result 3 (some .int) ∈ gw := gk4 (List.mem_of_getElem? (i := 73) rfl) rfl
abbrev mX11_data : MD := (yX11_data, cX11_data, 3, (some .int))
set_option maxRecDepth 20000 in
theorem kc_X11_data : Cond.code yX11_data cX11_data 3 (some .int) ∈ gw := gk5 (List.mem_of_getElem? (i := 124) rfl) rfl
abbrev mX11_take : MD := (yX11_take, cX11_take, 1, (some .boolean))
set_option maxRecDepth 20000 in
theorem kc_X11_take : Cond.code yX11_take cX11_take 1 (some .boolean) ∈ gw := gk4 (List.mem_of_getElem? (i := 81) rfl) rfl
abbrev mX11_state : MD := (yX11_state, cX11_state, 2, (some .int))
set_option maxRecDepth 20000 in
theorem kc_X11_state : Cond.code yX11_state cX11_state 2 (some .int) ∈ gw := gk4 (List.mem_of_getElem? (i := 89) rfl) rfl
abbrev mX11_firstAttempts : MD := (yX11_firstAttempts, cX11_firstAttempts, 2, (some .int))
set_option maxRecDepth 20000 in
theorem kc_X11_firstAttempts : Cond.code yX11_firstAttempts cX11_firstAttempts 2 (some .int) ∈ gw := gk4 (List.mem_of_getElem? (i := 94) rfl) rfl
abbrev mX11_counter : MD := (yX11_counter, cX11_counter, 4, (some .int))
set_option maxRecDepth 20000 in
theorem kc_X11_counter : Cond.code yX11_counter cX11_counter 4 (some .int) ∈ gw := gk4 (List.mem_of_getElem? (i := 102) rfl) rfl
abbrev mX11_event : MD := (yX11_event, cX11_event, 4, (some .int))
set_option maxRecDepth 20000 in
theorem kc_X11_event : Cond.code yX11_event cX11_event 4 (some .int) ∈ gw := gk4 (List.mem_of_getElem? (i := 107) rfl) rfl
abbrev mX11_sent : MD := (yX11_sent, cX11_sent, 2, (some .int))
set_option maxRecDepth 20000 in
theorem kc_X11_sent : Cond.code yX11_sent cX11_sent 2 (some .int) ∈ gw := gk4 (List.mem_of_getElem? (i := 111) rfl) rfl
abbrev mX12_init : MD := (yX12_init, cX12_init, 1, none)
set_option maxRecDepth 20000 in
theorem kc_X12_init : Cond.code yX12_init cX12_init 1 none ∈ gw := gk5 (List.mem_of_getElem? (i := 212) rfl) rfl
abbrev mX12_counts : MD := (yX12_counts, cX12_counts, 2, none)
set_option maxRecDepth 20000 in
theorem kc_X12_counts : Cond.code yX12_counts cX12_counts 2 none ∈ gw := gk7 (List.mem_of_getElem? (i := 101) rfl) rfl
abbrev mX12_tells : MD := (yX12_tells, cX12_tells, 3, none)
set_option maxRecDepth 20000 in
theorem kc_X12_tells : Cond.code yX12_tells cX12_tells 3 none ∈ gw := gk7 (List.mem_of_getElem? (i := 163) rfl) rfl
abbrev mX12_place : MD := (yX12_place, cX12_place, 3, (some .int))
set_option maxRecDepth 20000 in
theorem kc_X12_place : Cond.code yX12_place cX12_place 3 (some .int) ∈ gw := gk7 (List.mem_of_getElem? (i := 28) rfl) rfl
abbrev mX12_has : MD := (yX12_has, cX12_has, 6, (some .boolean))
set_option maxRecDepth 20000 in
theorem kc_X12_has : Cond.code yX12_has cX12_has 6 (some .boolean) ∈ gw := gk7 (List.mem_of_getElem? (i := 122) rfl) rfl
abbrev mX12_get : MD := (yX12_get, cX12_get, 3, (some .int))
set_option maxRecDepth 20000 in
theorem kc_X12_get : Cond.code yX12_get cX12_get 3 (some .int) ∈ gw := gk7 (List.mem_of_getElem? (i := 41) rfl) rfl
abbrev mX12_put : MD := (yX12_put, cX12_put, 4, none)
set_option maxRecDepth 20000 in
theorem kc_X12_put : Cond.code yX12_put cX12_put 4 none ∈ gw := gk7 (List.mem_of_getElem? (i := 32) rfl) rfl
abbrev mX12_may : MD := (yX12_may, cX12_may, 5, (some .boolean))
set_option maxRecDepth 20000 in
theorem kc_X12_may : Cond.code yX12_may cX12_may 5 (some .boolean) ∈ gw := gk7 (List.mem_of_getElem? (i := 126) rfl) rfl
abbrev mX12_fileOf : MD := (yX12_fileOf, cX12_fileOf, 3, (some .int))
set_option maxRecDepth 20000 in
theorem kc_X12_fileOf : Cond.code yX12_fileOf cX12_fileOf 3 (some .int) ∈ gw := gk7 (List.mem_of_getElem? (i := 53) rfl) rfl
abbrev mX12_queueOf : MD := (yX12_queueOf, cX12_queueOf, 3, (some .int))
set_option maxRecDepth 20000 in
theorem kc_X12_queueOf : Cond.code yX12_queueOf cX12_queueOf 3 (some .int) ∈ gw := gk7 (List.mem_of_getElem? (i := 65) rfl) rfl
abbrev mX12_textOf : MD := (yX12_textOf, cX12_textOf, 3, (some .int))
set_option maxRecDepth 20000 in
theorem kc_X12_textOf : Cond.code yX12_textOf cX12_textOf 3 (some .int) ∈ gw := gk7 (List.mem_of_getElem? (i := 81) rfl) rfl
abbrev mX12_comesInto : MD := (yX12_comesInto, cX12_comesInto, 4, none)
set_option maxRecDepth 20000 in
theorem kc_X12_comesInto : Cond.code yX12_comesInto cX12_comesInto 4 none ∈ gw := gk7 (List.mem_of_getElem? (i := 73) rfl) rfl
abbrev mX13_init : MD := (yX13_init, cX13_init, 3, none)
set_option maxRecDepth 20000 in
theorem kc_X13_init : Cond.code yX13_init cX13_init 3 none ∈ gw := gk5 (List.mem_of_getElem? (i := 188) rfl) rfl
abbrev mX13_adds : MD := (yX13_adds, cX13_adds, 5, (some .int))
set_option maxRecDepth 20000 in
theorem kc_X13_adds : Cond.code yX13_adds cX13_adds 5 (some .int) ∈ gw := gk7 (List.mem_of_getElem? (i := 195) rfl) rfl
abbrev mX13_goes : MD := (yX13_goes, cX13_goes, 4, none)
set_option maxRecDepth 20000 in
theorem kc_X13_goes : Cond.code yX13_goes cX13_goes 4 none ∈ gw := gk8 (List.mem_of_getElem? (i := 2) rfl) rfl
abbrev mX14_init : MD := (yX14_init, cX14_init, 1, none)
set_option maxRecDepth 20000 in
theorem kc_X14_init : Cond.code yX14_init cX14_init 1 none ∈ gw := gk5 (List.mem_of_getElem? (i := 153) rfl) rfl
abbrev mX14_hears : MD := (yX14_hears, cX14_hears, 2, none)
set_option maxRecDepth 20000 in
theorem kc_X14_hears : Cond.code yX14_hears cX14_hears 2 none ∈ gw := gk8 (List.mem_of_getElem? (i := 20) rfl) rfl
abbrev mX14_isGood : MD := (yX14_isGood, cX14_isGood, 1, (some .boolean))
set_option maxRecDepth 20000 in
theorem kc_X14_isGood : Cond.code yX14_isGood cX14_isGood 1 (some .boolean) ∈ gw := gk8 (List.mem_of_getElem? (i := 42) rfl) rfl
abbrev mX14_empties : MD := (yX14_empties, cX14_empties, 1, none)
set_option maxRecDepth 20000 in
theorem kc_X14_empties : Cond.code yX14_empties cX14_empties 1 none ∈ gw := gk8 (List.mem_of_getElem? (i := 64) rfl) rfl
abbrev mX15_init : MD := (yX15_init, cX15_init, 2, none)
set_option maxRecDepth 20000 in
theorem kc_X15_init : Cond.code yX15_init cX15_init 2 none ∈ gw := gk5 (List.mem_of_getElem? (i := 145) rfl) rfl
abbrev mX15_thrown : MD := (yX15_thrown, cX15_thrown, 1, (some .int))
set_option maxRecDepth 20000 in
theorem kc_X15_thrown : Cond.code yX15_thrown cX15_thrown 1 (some .int) ∈ gw := gk6 (List.mem_of_getElem? (i := 223) rfl) rfl
abbrev mX15_in : MD := (yX15_in, cX15_in, 3, (some .boolean))
set_option maxRecDepth 20000 in
theorem kc_X15_in : Cond.code yX15_in cX15_in 3 (some .boolean) ∈ gw := gk6 (List.mem_of_getElem? (i := 234) rfl) rfl
abbrev mX15_sumOf : MD := (yX15_sumOf, cX15_sumOf, 6, (some .int))
set_option maxRecDepth 20000 in
theorem kc_X15_sumOf : Cond.code yX15_sumOf cX15_sumOf 6 (some .int) ∈ gw := gk7 (List.mem_of_getElem? (i := 1) rfl) rfl
abbrev mX15_two : MD := (yX15_two, cX15_two, 2, (some .int))
set_option maxRecDepth 20000 in
theorem kc_X15_two : Cond.code yX15_two cX15_two 2 (some .int) ∈ gw := gk7 (List.mem_of_getElem? (i := 114) rfl) rfl
abbrev mX15_isDevice : MD := (yX15_isDevice, cX15_isDevice, 2, (some .boolean))
set_option maxRecDepth 20000 in
theorem kc_X15_isDevice : Cond.code yX15_isDevice cX15_isDevice 2 (some .boolean) ∈ gw := gk7 (List.mem_of_getElem? (i := 15) rfl) rfl
abbrev mX15_isShaped : MD := (yX15_isShaped, cX15_isShaped, 4, (some .boolean))
set_option maxRecDepth 20000 in
theorem kc_X15_isShaped : Cond.code yX15_isShaped cX15_isShaped 4 (some .boolean) ∈ gw := gk7 (List.mem_of_getElem? (i := 118) rfl) rfl
abbrev mX15_says : MD := (yX15_says, cX15_says, 2, none)
set_option maxRecDepth 20000 in
theorem kc_X15_says : Cond.code yX15_says cX15_says 2 none ∈ gw := gk7 (List.mem_of_getElem? (i := 139) rfl) rfl
abbrev mX15_saysTwo : MD := (yX15_saysTwo, cX15_saysTwo, 2, none)
set_option maxRecDepth 20000 in
theorem kc_X15_saysTwo : Cond.code yX15_saysTwo cX15_saysTwo 2 none ∈ gw := gk7 (List.mem_of_getElem? (i := 151) rfl) rfl
abbrev mX15_same : MD := (yX15_same, cX15_same, 4, none)
set_option maxRecDepth 20000 in
theorem kc_X15_same : Cond.code yX15_same cX15_same 4 none ∈ gw := gk7 (List.mem_of_getElem? (i := 155) rfl) rfl
abbrev mX15_isTold : MD := (yX15_isTold, cX15_isTold, 1, (some .boolean))
set_option maxRecDepth 20000 in
theorem kc_X15_isTold : Cond.code yX15_isTold cX15_isTold 1 (some .boolean) ∈ gw := gk7 (List.mem_of_getElem? (i := 108) rfl) rfl
abbrev mX15_refusal : MD := (yX15_refusal, cX15_refusal, 5, (some .int))
set_option maxRecDepth 20000 in
theorem kc_X15_refusal : Cond.code yX15_refusal cX15_refusal 5 (some .int) ∈ gw := gk7 (List.mem_of_getElem? (i := 105) rfl) rfl
abbrev mX15_refusal8 : MD := (yX15_refusal8, cX15_refusal8, 4, (some .int))
set_option maxRecDepth 20000 in
theorem kc_X15_refusal8 : Cond.code yX15_refusal8 cX15_refusal8 4 (some .int) ∈ gw := gk7 (List.mem_of_getElem? (i := 111) rfl) rfl
abbrev mX15_mays : MD := (yX15_mays, cX15_mays, 7, (some .boolean))
set_option maxRecDepth 20000 in
theorem kc_X15_mays : Cond.code yX15_mays cX15_mays 7 (some .boolean) ∈ gw := gk7 (List.mem_of_getElem? (i := 129) rfl) rfl
abbrev mX15_masked : MD := (yX15_masked, cX15_masked, 4, (some .int))
set_option maxRecDepth 20000 in
theorem kc_X15_masked : Cond.code yX15_masked cX15_masked 4 (some .int) ∈ gw := gk7 (List.mem_of_getElem? (i := 135) rfl) rfl
abbrev mX15_parts : MD := (yX15_parts, cX15_parts, 5, (some .int))
set_option maxRecDepth 20000 in
theorem kc_X15_parts : Cond.code yX15_parts cX15_parts 5 (some .int) ∈ gw := gk7 (List.mem_of_getElem? (i := 132) rfl) rfl
abbrev mX15_serve : MD := (yX15_serve, cX15_serve, 7, none)
set_option maxRecDepth 20000 in
theorem kc_X15_serve : Cond.code yX15_serve cX15_serve 7 none ∈ gw := gk7 (List.mem_of_getElem? (i := 97) rfl) rfl
abbrev mX15_bits : MD := (yX15_bits, cX15_bits, 8, none)
set_option maxRecDepth 20000 in
theorem kc_X15_bits : Cond.code yX15_bits cX15_bits 8 none ∈ gw := gk7 (List.mem_of_getElem? (i := 143) rfl) rfl
abbrev mX15_values : MD := (yX15_values, cX15_values, 7, none)
set_option maxRecDepth 20000 in
theorem kc_X15_values : Cond.code yX15_values cX15_values 7 none ∈ gw := gk7 (List.mem_of_getElem? (i := 147) rfl) rfl
abbrev mX15_tests : MD := (yX15_tests, cX15_tests, 6, none)
set_option maxRecDepth 20000 in
theorem kc_X15_tests : Cond.code yX15_tests cX15_tests 6 none ∈ gw := gk7 (List.mem_of_getElem? (i := 159) rfl) rfl
abbrev mX15_reads : MD := (yX15_reads, cX15_reads, 8, none)
set_option maxRecDepth 20000 in
theorem kc_X15_reads : Cond.code yX15_reads cX15_reads 8 none ∈ gw := gk7 (List.mem_of_getElem? (i := 167) rfl) rfl
abbrev mX15_writes : MD := (yX15_writes, cX15_writes, 7, none)
set_option maxRecDepth 20000 in
theorem kc_X15_writes : Cond.code yX15_writes cX15_writes 7 none ∈ gw := gk7 (List.mem_of_getElem? (i := 170) rfl) rfl
abbrev mX15_names : MD := (yX15_names, cX15_names, 11, none)
set_option maxRecDepth 20000 in
theorem kc_X15_names : Cond.code yX15_names cX15_names 11 none ∈ gw := gk7 (List.mem_of_getElem? (i := 174) rfl) rfl
abbrev mX15_looks : MD := (yX15_looks, cX15_looks, 7, none)
set_option maxRecDepth 20000 in
theorem kc_X15_looks : Cond.code yX15_looks cX15_looks 7 none ∈ gw := gk8 (List.mem_of_getElem? (i := 68) rfl) rfl
abbrev mX15_isRefusal : MD := (yX15_isRefusal, cX15_isRefusal, 2, (some .boolean))
set_option maxRecDepth 20000 in
theorem kc_X15_isRefusal : Cond.code yX15_isRefusal cX15_isRefusal 2 (some .boolean) ∈ gw := gk8 (List.mem_of_getElem? (i := 46) rfl) rfl
abbrev mX15_obeys : MD := (yX15_obeys, cX15_obeys, 5, none)
set_option maxRecDepth 20000 in
theorem kc_X15_obeys : Cond.code yX15_obeys cX15_obeys 5 none ∈ gw := gk7 (List.mem_of_getElem? (i := 214) rfl) rfl
abbrev mX15_obeys_ : MD := (yX15_obeys_, cX15_obeys_, 8, none)
set_option maxRecDepth 20000 in
theorem kc_X15_obeys_ : Cond.code yX15_obeys_ cX15_obeys_ 8 none ∈ gw := gk7 (List.mem_of_getElem? (i := 217) rfl) rfl
abbrev mX15_newRequest : MD := (yX15_newRequest, cX15_newRequest, 5, (some .int))
set_option maxRecDepth 20000 in
theorem kc_X15_newRequest : Cond.code yX15_newRequest cX15_newRequest 5 (some .int) ∈ gw := gk7 (List.mem_of_getElem? (i := 191) rfl) rfl
abbrev mX15_through : MD := (yX15_through, cX15_through, 7, none)
set_option maxRecDepth 20000 in
theorem kc_X15_through : Cond.code yX15_through cX15_through 7 none ∈ gw := gk7 (List.mem_of_getElem? (i := 238) rfl) rfl
abbrev mX15_fails : MD := (yX15_fails, cX15_fails, 2, none)
set_option maxRecDepth 20000 in
theorem kc_X15_fails : Cond.code yX15_fails cX15_fails 2 none ∈ gw := gk8 (List.mem_of_getElem? (i := 6) rfl) rfl
abbrev mX15_looksMaster : MD := (yX15_looksMaster, cX15_looksMaster, 3, none)
set_option maxRecDepth 20000 in
theorem kc_X15_looksMaster : Cond.code yX15_looksMaster cX15_looksMaster 3 none ∈ gw := gk8 (List.mem_of_getElem? (i := 36) rfl) rfl
abbrev mX15_isBegun : MD := (yX15_isBegun, cX15_isBegun, 5, (some .boolean))
set_option maxRecDepth 20000 in
theorem kc_X15_isBegun : Cond.code yX15_isBegun cX15_isBegun 5 (some .boolean) ∈ gw := gk8 (List.mem_of_getElem? (i := 52) rfl) rfl
abbrev mX15_doesFit : MD := (yX15_doesFit, cX15_doesFit, 6, (some .boolean))
set_option maxRecDepth 20000 in
theorem kc_X15_doesFit : Cond.code yX15_doesFit cX15_doesFit 6 (some .boolean) ∈ gw := gk8 (List.mem_of_getElem? (i := 49) rfl) rfl
abbrev mX15_doPartsFit : MD := (yX15_doPartsFit, cX15_doPartsFit, 8, (some .boolean))
set_option maxRecDepth 20000 in
theorem kc_X15_doPartsFit : Cond.code yX15_doPartsFit cX15_doPartsFit 8 (some .boolean) ∈ gw := gk8 (List.mem_of_getElem? (i := 55) rfl) rfl
abbrev mX15_doNamesFit : MD := (yX15_doNamesFit, cX15_doNamesFit, 5, (some .boolean))
set_option maxRecDepth 20000 in
theorem kc_X15_doNamesFit : Cond.code yX15_doNamesFit cX15_doNamesFit 5 (some .boolean) ∈ gw := gk8 (List.mem_of_getElem? (i := 58) rfl) rfl
abbrev mX15_sends : MD := (yX15_sends, cX15_sends, 6, none)
set_option maxRecDepth 20000 in
theorem kc_X15_sends : Cond.code yX15_sends cX15_sends 6 none ∈ gw := gk7 (List.mem_of_getElem? (i := 234) rfl) rfl
abbrev mX15_begins : MD := (yX15_begins, cX15_begins, 3, none)
set_option maxRecDepth 20000 in
theorem kc_X15_begins : Cond.code yX15_begins cX15_begins 3 none ∈ gw := gk7 (List.mem_of_getElem? (i := 230) rfl) rfl
abbrev mX15_isInRow : MD := (yX15_isInRow, cX15_isInRow, 4, (some .boolean))
set_option maxRecDepth 20000 in
theorem kc_X15_isInRow : Cond.code yX15_isInRow cX15_isInRow 4 (some .boolean) ∈ gw := gk7 (List.mem_of_getElem? (i := 226) rfl) rfl
abbrev mX15_scan : MD := (yX15_scan, cX15_scan, 3, none)
set_option maxRecDepth 20000 in
theorem kc_X15_scan : Cond.code yX15_scan cX15_scan 3 none ∈ gw := gk7 (List.mem_of_getElem? (i := 222) rfl) rfl
abbrev mX15_takeHarm : MD := (yX15_takeHarm, cX15_takeHarm, 4, (some .int))
set_option maxRecDepth 20000 in
theorem kc_X15_takeHarm : Cond.code yX15_takeHarm cX15_takeHarm 4 (some .int) ∈ gw := gk8 (List.mem_of_getElem? (i := 14) rfl) rfl
abbrev mX15_sendsOn : MD := (yX15_sendsOn, cX15_sendsOn, 3, (some .boolean))
set_option maxRecDepth 20000 in
theorem kc_X15_sendsOn : Cond.code yX15_sendsOn cX15_sendsOn 3 (some .boolean) ∈ gw := gk8 (List.mem_of_getElem? (i := 10) rfl) rfl
abbrev mX15_endsSending : MD := (yX15_endsSending, cX15_endsSending, 1, none)
set_option maxRecDepth 20000 in
theorem kc_X15_endsSending : Cond.code yX15_endsSending cX15_endsSending 1 none ∈ gw := gk8 (List.mem_of_getElem? (i := 28) rfl) rfl
abbrev mX15_oneTick : MD := (yX15_oneTick, cX15_oneTick, 3, none)
set_option maxRecDepth 20000 in
theorem kc_X15_oneTick : Cond.code yX15_oneTick cX15_oneTick 3 none ∈ gw := gk7 (List.mem_of_getElem? (i := 211) rfl) rfl
abbrev mX15_silence : MD := (yX15_silence, cX15_silence, 4, none)
set_option maxRecDepth 20000 in
theorem kc_X15_silence : Cond.code yX15_silence cX15_silence 4 none ∈ gw := gk8 (List.mem_of_getElem? (i := 32) rfl) rfl
abbrev mX15_feed : MD := (yX15_feed, cX15_feed, 8, (some .int))
set_option maxRecDepth 20000 in
theorem kc_X15_feed : Cond.code yX15_feed cX15_feed 8 (some .int) ∈ gw := gk6 (List.mem_of_getElem? (i := 227) rfl) rfl
abbrev mX15_end : MD := (yX15_end, cX15_end, 2, (some .int))
set_option maxRecDepth 20000 in
theorem kc_X15_end : Cond.code yX15_end cX15_end 2 (some .int) ∈ gw := gk6 (List.mem_of_getElem? (i := 231) rfl) rfl
abbrev mX15_sum : MD := (yX15_sum, cX15_sum, 1, (some .int))
set_option maxRecDepth 20000 in
theorem kc_X15_sum : Cond.code yX15_sum cX15_sum 1 (some .int) ∈ gw := gk6 (List.mem_of_getElem? (i := 238) rfl) rfl
abbrev mX15_device : MD := (yX15_device, cX15_device, 4, (some .int))
set_option maxRecDepth 20000 in
theorem kc_X15_device : Cond.code yX15_device cX15_device 4 (some .int) ∈ gw := gk7 (List.mem_of_getElem? (i := 7) rfl) rfl
abbrev mX15_bank : MD := (yX15_bank, cX15_bank, 7, (some .boolean))
set_option maxRecDepth 20000 in
theorem kc_X15_bank : Cond.code yX15_bank cX15_bank 7 (some .boolean) ∈ gw := gk7 (List.mem_of_getElem? (i := 11) rfl) rfl
abbrev mX15_isPlace : MD := (yX15_isPlace, cX15_isPlace, 4, (some .boolean))
set_option maxRecDepth 20000 in
theorem kc_X15_isPlace : Cond.code yX15_isPlace cX15_isPlace 4 (some .boolean) ∈ gw := gk7 (List.mem_of_getElem? (i := 24) rfl) rfl
abbrev mX15_put : MD := (yX15_put, cX15_put, 5, (some .boolean))
set_option maxRecDepth 20000 in
theorem kc_X15_put : Cond.code yX15_put cX15_put 5 (some .boolean) ∈ gw := gk7 (List.mem_of_getElem? (i := 20) rfl) rfl
abbrev mX15_get : MD := (yX15_get, cX15_get, 4, (some .int))
set_option maxRecDepth 20000 in
theorem kc_X15_get : Cond.code yX15_get cX15_get 4 (some .int) ∈ gw := gk7 (List.mem_of_getElem? (i := 37) rfl) rfl
abbrev mX15_limit : MD := (yX15_limit, cX15_limit, 7, (some .boolean))
set_option maxRecDepth 20000 in
theorem kc_X15_limit : Cond.code yX15_limit cX15_limit 7 (some .boolean) ∈ gw := gk7 (List.mem_of_getElem? (i := 45) rfl) rfl
abbrev mX15_file : MD := (yX15_file, cX15_file, 7, (some .boolean))
set_option maxRecDepth 20000 in
theorem kc_X15_file : Cond.code yX15_file cX15_file 7 (some .boolean) ∈ gw := gk7 (List.mem_of_getElem? (i := 49) rfl) rfl
abbrev mX15_record : MD := (yX15_record, cX15_record, 5, (some .int))
set_option maxRecDepth 20000 in
theorem kc_X15_record : Cond.code yX15_record cX15_record 5 (some .int) ∈ gw := gk7 (List.mem_of_getElem? (i := 57) rfl) rfl
abbrev mX15_queue : MD := (yX15_queue, cX15_queue, 4, (some .boolean))
set_option maxRecDepth 20000 in
theorem kc_X15_queue : Cond.code yX15_queue cX15_queue 4 (some .boolean) ∈ gw := gk7 (List.mem_of_getElem? (i := 61) rfl) rfl
abbrev mX15_push : MD := (yX15_push, cX15_push, 5, (some .int))
set_option maxRecDepth 20000 in
theorem kc_X15_push : Cond.code yX15_push cX15_push 5 (some .int) ∈ gw := gk7 (List.mem_of_getElem? (i := 69) rfl) rfl
abbrev mX15_name : MD := (yX15_name, cX15_name, 6, (some .boolean))
set_option maxRecDepth 20000 in
theorem kc_X15_name : Cond.code yX15_name cX15_name 6 (some .boolean) ∈ gw := gk7 (List.mem_of_getElem? (i := 77) rfl) rfl
abbrev mX15_rule : MD := (yX15_rule, cX15_rule, 7, (some .boolean))
set_option maxRecDepth 20000 in
theorem kc_X15_rule : Cond.code yX15_rule cX15_rule 7 (some .boolean) ∈ gw := gk7 (List.mem_of_getElem? (i := 85) rfl) rfl
abbrev mX15_busy : MD := (yX15_busy, cX15_busy, 3, (some .boolean))
set_option maxRecDepth 20000 in
theorem kc_X15_busy : Cond.code yX15_busy cX15_busy 3 (some .boolean) ∈ gw := gk7 (List.mem_of_getElem? (i := 89) rfl) rfl
abbrev mX15_serve_ : MD := (yX15_serve_, cX15_serve_, 3, (some .int))
set_option maxRecDepth 20000 in
theorem kc_X15_serve_ : Cond.code yX15_serve_ cX15_serve_ 3 (some .int) ∈ gw := gk7 (List.mem_of_getElem? (i := 93) rfl) rfl
abbrev mX15_answer : MD := (yX15_answer, cX15_answer, 2, (some .int))
set_option maxRecDepth 20000 in
theorem kc_X15_answer : Cond.code yX15_answer cX15_answer 2 (some .int) ∈ gw := gk7 (List.mem_of_getElem? (i := 179) rfl) rfl
abbrev mX15_settings : MD := (yX15_settings, cX15_settings, 4, (some .boolean))
set_option maxRecDepth 20000 in
theorem kc_X15_settings : Cond.code yX15_settings cX15_settings 4 (some .boolean) ∈ gw := gk7 (List.mem_of_getElem? (i := 183) rfl) rfl
abbrev mX15_request : MD := (yX15_request, cX15_request, 3, (some .int))
set_option maxRecDepth 20000 in
theorem kc_X15_request : Cond.code yX15_request cX15_request 3 (some .int) ∈ gw := gk7 (List.mem_of_getElem? (i := 187) rfl) rfl
abbrev mX15_scan_ : MD := (yX15_scan_, cX15_scan_, 4, (some .int))
set_option maxRecDepth 20000 in
theorem kc_X15_scan_ : Cond.code yX15_scan_ cX15_scan_ 4 (some .int) ∈ gw := gk7 (List.mem_of_getElem? (i := 199) rfl) rfl
abbrev mX15_harm : MD := (yX15_harm, cX15_harm, 5, (some .boolean))
set_option maxRecDepth 20000 in
theorem kc_X15_harm : Cond.code yX15_harm cX15_harm 5 (some .boolean) ∈ gw := gk7 (List.mem_of_getElem? (i := 203) rfl) rfl
abbrev mX15_tick : MD := (yX15_tick, cX15_tick, 4, (some .int))
set_option maxRecDepth 20000 in
theorem kc_X15_tick : Cond.code yX15_tick cX15_tick 4 (some .int) ∈ gw := gk7 (List.mem_of_getElem? (i := 207) rfl) rfl
abbrev mX15_result : MD := (yX15_result, cX15_result, 3, (some .int))
set_option maxRecDepth 20000 in
theorem kc_X15_result : Cond.code yX15_result cX15_result 3 (some .int) ∈ gw := gk8 (List.mem_of_getElem? (i := 80) rfl) rfl
abbrev mX15_data : MD := (yX15_data, cX15_data, 2, (some .int))
set_option maxRecDepth 20000 in
theorem kc_X15_data : Cond.code yX15_data cX15_data 2 (some .int) ∈ gw := gk8 (List.mem_of_getElem? (i := 84) rfl) rfl
abbrev mX15_take : MD := (yX15_take, cX15_take, 1, (some .boolean))
set_option maxRecDepth 20000 in
theorem kc_X15_take : Cond.code yX15_take cX15_take 1 (some .boolean) ∈ gw := gk8 (List.mem_of_getElem? (i := 88) rfl) rfl
abbrev mX15_state : MD := (yX15_state, cX15_state, 2, (some .int))
set_option maxRecDepth 20000 in
theorem kc_X15_state : Cond.code yX15_state cX15_state 2 (some .int) ∈ gw := gk8 (List.mem_of_getElem? (i := 92) rfl) rfl
abbrev mX15_counter : MD := (yX15_counter, cX15_counter, 4, (some .int))
set_option maxRecDepth 20000 in
theorem kc_X15_counter : Cond.code yX15_counter cX15_counter 4 (some .int) ∈ gw := gk8 (List.mem_of_getElem? (i := 96) rfl) rfl
abbrev mX15_event : MD := (yX15_event, cX15_event, 3, (some .int))
set_option maxRecDepth 20000 in
theorem kc_X15_event : Cond.code yX15_event cX15_event 3 (some .int) ∈ gw := gk8 (List.mem_of_getElem? (i := 100) rfl) rfl
abbrev mX15_sent : MD := (yX15_sent, cX15_sent, 2, (some .int))
set_option maxRecDepth 20000 in
theorem kc_X15_sent : Cond.code yX15_sent cX15_sent 2 (some .int) ∈ gw := gk8 (List.mem_of_getElem? (i := 104) rfl) rfl
set_option maxRecDepth 20000 in
theorem inG_X0 : ∀ w ∈ u_ws RX0 TX0 4, w ∈ gw := show ∀ w ∈ [u_lay RX0 TX0 0, u_lay RX0 TX0 1, u_lay RX0 TX0 2, u_lay RX0 TX0 3], w ∈ gw from List.forall_mem_cons.mpr ⟨(gk2 (List.mem_of_getElem? (i := 62) rfl) rfl), List.forall_mem_cons.mpr ⟨(gk2 (List.mem_of_getElem? (i := 64) rfl) rfl), List.forall_mem_cons.mpr ⟨(gk2 (List.mem_of_getElem? (i := 66) rfl) rfl), List.forall_mem_cons.mpr ⟨(gk2 (List.mem_of_getElem? (i := 68) rfl) rfl), fun _ h => nomatch h⟩⟩⟩⟩
set_option maxRecDepth 20000 in
theorem inG_X1 : ∀ w ∈ u_ws RX1 TX1 20, w ∈ gw := show ∀ w ∈ [u_lay RX1 TX1 0, u_lay RX1 TX1 1, u_lay RX1 TX1 2, u_lay RX1 TX1 3, u_lay RX1 TX1 4, u_lay RX1 TX1 5, u_lay RX1 TX1 6, u_lay RX1 TX1 7, u_lay RX1 TX1 8, u_lay RX1 TX1 9, u_lay RX1 TX1 10, u_lay RX1 TX1 11, u_lay RX1 TX1 12, u_lay RX1 TX1 13, u_lay RX1 TX1 14, u_lay RX1 TX1 15, u_lay RX1 TX1 16, u_lay RX1 TX1 17, u_lay RX1 TX1 18, u_lay RX1 TX1 19], w ∈ gw from List.forall_mem_cons.mpr ⟨(gk2 (List.mem_of_getElem? (i := 138) rfl) rfl), List.forall_mem_cons.mpr ⟨(gk2 (List.mem_of_getElem? (i := 140) rfl) rfl), List.forall_mem_cons.mpr ⟨(gk2 (List.mem_of_getElem? (i := 142) rfl) rfl), List.forall_mem_cons.mpr ⟨(gk2 (List.mem_of_getElem? (i := 144) rfl) rfl), List.forall_mem_cons.mpr ⟨(gk2 (List.mem_of_getElem? (i := 146) rfl) rfl), List.forall_mem_cons.mpr ⟨(gk2 (List.mem_of_getElem? (i := 148) rfl) rfl), List.forall_mem_cons.mpr ⟨(gk2 (List.mem_of_getElem? (i := 150) rfl) rfl), List.forall_mem_cons.mpr ⟨(gk2 (List.mem_of_getElem? (i := 152) rfl) rfl), List.forall_mem_cons.mpr ⟨(gk2 (List.mem_of_getElem? (i := 154) rfl) rfl), List.forall_mem_cons.mpr ⟨(gk2 (List.mem_of_getElem? (i := 156) rfl) rfl), List.forall_mem_cons.mpr ⟨(gk2 (List.mem_of_getElem? (i := 158) rfl) rfl), List.forall_mem_cons.mpr ⟨(gk2 (List.mem_of_getElem? (i := 160) rfl) rfl), List.forall_mem_cons.mpr ⟨(gk2 (List.mem_of_getElem? (i := 162) rfl) rfl), List.forall_mem_cons.mpr ⟨(gk2 (List.mem_of_getElem? (i := 164) rfl) rfl), List.forall_mem_cons.mpr ⟨(gk2 (List.mem_of_getElem? (i := 166) rfl) rfl), List.forall_mem_cons.mpr ⟨(gk2 (List.mem_of_getElem? (i := 168) rfl) rfl), List.forall_mem_cons.mpr ⟨(gk2 (List.mem_of_getElem? (i := 170) rfl) rfl), List.forall_mem_cons.mpr ⟨(gk2 (List.mem_of_getElem? (i := 172) rfl) rfl), List.forall_mem_cons.mpr ⟨(gk2 (List.mem_of_getElem? (i := 174) rfl) rfl), List.forall_mem_cons.mpr ⟨(gk2 (List.mem_of_getElem? (i := 176) rfl) rfl), fun _ h => nomatch h⟩⟩⟩⟩⟩⟩⟩⟩⟩⟩⟩⟩⟩⟩⟩⟩⟩⟩⟩⟩
set_option maxRecDepth 20000 in
theorem inG_X2 : ∀ w ∈ u_ws RX2 TX2 6, w ∈ gw := show ∀ w ∈ [u_lay RX2 TX2 0, u_lay RX2 TX2 1, u_lay RX2 TX2 2, u_lay RX2 TX2 3, u_lay RX2 TX2 4, u_lay RX2 TX2 5], w ∈ gw from List.forall_mem_cons.mpr ⟨(gk4 (List.mem_of_getElem? (i := 7) rfl) rfl), List.forall_mem_cons.mpr ⟨(gk4 (List.mem_of_getElem? (i := 9) rfl) rfl), List.forall_mem_cons.mpr ⟨(gk4 (List.mem_of_getElem? (i := 11) rfl) rfl), List.forall_mem_cons.mpr ⟨(gk4 (List.mem_of_getElem? (i := 13) rfl) rfl), List.forall_mem_cons.mpr ⟨(gk4 (List.mem_of_getElem? (i := 15) rfl) rfl), List.forall_mem_cons.mpr ⟨(gk4 (List.mem_of_getElem? (i := 17) rfl) rfl), fun _ h => nomatch h⟩⟩⟩⟩⟩⟩
set_option maxRecDepth 20000 in
theorem inG_X3 : ∀ w ∈ u_ws RX3 TX3 17, w ∈ gw := show ∀ w ∈ [u_lay RX3 TX3 0, u_lay RX3 TX3 1, u_lay RX3 TX3 2, u_lay RX3 TX3 3, u_lay RX3 TX3 4, u_lay RX3 TX3 5, u_lay RX3 TX3 6, u_lay RX3 TX3 7, u_lay RX3 TX3 8, u_lay RX3 TX3 9, u_lay RX3 TX3 10, u_lay RX3 TX3 11, u_lay RX3 TX3 12, u_lay RX3 TX3 13, u_lay RX3 TX3 14, u_lay RX3 TX3 15, u_lay RX3 TX3 16], w ∈ gw from List.forall_mem_cons.mpr ⟨(gk1 (List.mem_of_getElem? (i := 177) rfl) rfl), List.forall_mem_cons.mpr ⟨(gk1 (List.mem_of_getElem? (i := 179) rfl) rfl), List.forall_mem_cons.mpr ⟨(gk1 (List.mem_of_getElem? (i := 181) rfl) rfl), List.forall_mem_cons.mpr ⟨(gk1 (List.mem_of_getElem? (i := 183) rfl) rfl), List.forall_mem_cons.mpr ⟨(gk1 (List.mem_of_getElem? (i := 185) rfl) rfl), List.forall_mem_cons.mpr ⟨(gk1 (List.mem_of_getElem? (i := 187) rfl) rfl), List.forall_mem_cons.mpr ⟨(gk1 (List.mem_of_getElem? (i := 189) rfl) rfl), List.forall_mem_cons.mpr ⟨(gk1 (List.mem_of_getElem? (i := 191) rfl) rfl), List.forall_mem_cons.mpr ⟨(gk1 (List.mem_of_getElem? (i := 193) rfl) rfl), List.forall_mem_cons.mpr ⟨(gk1 (List.mem_of_getElem? (i := 195) rfl) rfl), List.forall_mem_cons.mpr ⟨(gk1 (List.mem_of_getElem? (i := 197) rfl) rfl), List.forall_mem_cons.mpr ⟨(gk1 (List.mem_of_getElem? (i := 199) rfl) rfl), List.forall_mem_cons.mpr ⟨(gk1 (List.mem_of_getElem? (i := 201) rfl) rfl), List.forall_mem_cons.mpr ⟨(gk1 (List.mem_of_getElem? (i := 203) rfl) rfl), List.forall_mem_cons.mpr ⟨(gk1 (List.mem_of_getElem? (i := 205) rfl) rfl), List.forall_mem_cons.mpr ⟨(gk1 (List.mem_of_getElem? (i := 207) rfl) rfl), List.forall_mem_cons.mpr ⟨(gk1 (List.mem_of_getElem? (i := 209) rfl) rfl), fun _ h => nomatch h⟩⟩⟩⟩⟩⟩⟩⟩⟩⟩⟩⟩⟩⟩⟩⟩⟩
set_option maxRecDepth 20000 in
theorem inG_X4 : ∀ w ∈ u_ws RX4 TX4 2, w ∈ gw := show ∀ w ∈ [u_lay RX4 TX4 0, u_lay RX4 TX4 1], w ∈ gw from List.forall_mem_cons.mpr ⟨(gk1 (List.mem_of_getElem? (i := 47) rfl) rfl), List.forall_mem_cons.mpr ⟨(gk1 (List.mem_of_getElem? (i := 49) rfl) rfl), fun _ h => nomatch h⟩⟩
set_option maxRecDepth 20000 in
theorem inG_X5 : ∀ w ∈ u_ws RX5 TX5 5, w ∈ gw := show ∀ w ∈ [u_lay RX5 TX5 0, u_lay RX5 TX5 1, u_lay RX5 TX5 2, u_lay RX5 TX5 3, u_lay RX5 TX5 4], w ∈ gw from List.forall_mem_cons.mpr ⟨(gk4 (List.mem_of_getElem? (i := 47) rfl) rfl), List.forall_mem_cons.mpr ⟨(gk4 (List.mem_of_getElem? (i := 49) rfl) rfl), List.forall_mem_cons.mpr ⟨(gk4 (List.mem_of_getElem? (i := 51) rfl) rfl), List.forall_mem_cons.mpr ⟨(gk4 (List.mem_of_getElem? (i := 53) rfl) rfl), List.forall_mem_cons.mpr ⟨(gk4 (List.mem_of_getElem? (i := 55) rfl) rfl), fun _ h => nomatch h⟩⟩⟩⟩⟩
set_option maxRecDepth 20000 in
theorem inG_X8 : ∀ w ∈ u_ws RX8 TX8 4, w ∈ gw := show ∀ w ∈ [u_lay RX8 TX8 0, u_lay RX8 TX8 1, u_lay RX8 TX8 2, u_lay RX8 TX8 3], w ∈ gw from List.forall_mem_cons.mpr ⟨(gk2 (List.mem_of_getElem? (i := 84) rfl) rfl), List.forall_mem_cons.mpr ⟨(gk2 (List.mem_of_getElem? (i := 86) rfl) rfl), List.forall_mem_cons.mpr ⟨(gk2 (List.mem_of_getElem? (i := 88) rfl) rfl), List.forall_mem_cons.mpr ⟨(gk2 (List.mem_of_getElem? (i := 90) rfl) rfl), fun _ h => nomatch h⟩⟩⟩⟩
set_option maxRecDepth 20000 in
theorem inG_X9 : ∀ w ∈ u_ws RX9 TX9 4, w ∈ gw := show ∀ w ∈ [u_lay RX9 TX9 0, u_lay RX9 TX9 1, u_lay RX9 TX9 2, u_lay RX9 TX9 3], w ∈ gw from List.forall_mem_cons.mpr ⟨(gk1 (List.mem_of_getElem? (i := 136) rfl) rfl), List.forall_mem_cons.mpr ⟨(gk1 (List.mem_of_getElem? (i := 138) rfl) rfl), List.forall_mem_cons.mpr ⟨(gk1 (List.mem_of_getElem? (i := 140) rfl) rfl), List.forall_mem_cons.mpr ⟨(gk1 (List.mem_of_getElem? (i := 142) rfl) rfl), fun _ h => nomatch h⟩⟩⟩⟩
set_option maxRecDepth 20000 in
theorem inG_X10 : ∀ w ∈ u_ws RX10 TX10 14, w ∈ gw := show ∀ w ∈ [u_lay RX10 TX10 0, u_lay RX10 TX10 1, u_lay RX10 TX10 2, u_lay RX10 TX10 3, u_lay RX10 TX10 4, u_lay RX10 TX10 5, u_lay RX10 TX10 6, u_lay RX10 TX10 7, u_lay RX10 TX10 8, u_lay RX10 TX10 9, u_lay RX10 TX10 10, u_lay RX10 TX10 11, u_lay RX10 TX10 12, u_lay RX10 TX10 13], w ∈ gw from List.forall_mem_cons.mpr ⟨(gk1 (List.mem_of_getElem? (i := 84) rfl) rfl), List.forall_mem_cons.mpr ⟨(gk1 (List.mem_of_getElem? (i := 86) rfl) rfl), List.forall_mem_cons.mpr ⟨(gk1 (List.mem_of_getElem? (i := 88) rfl) rfl), List.forall_mem_cons.mpr ⟨(gk1 (List.mem_of_getElem? (i := 90) rfl) rfl), List.forall_mem_cons.mpr ⟨(gk1 (List.mem_of_getElem? (i := 92) rfl) rfl), List.forall_mem_cons.mpr ⟨(gk1 (List.mem_of_getElem? (i := 94) rfl) rfl), List.forall_mem_cons.mpr ⟨(gk1 (List.mem_of_getElem? (i := 96) rfl) rfl), List.forall_mem_cons.mpr ⟨(gk1 (List.mem_of_getElem? (i := 98) rfl) rfl), List.forall_mem_cons.mpr ⟨(gk1 (List.mem_of_getElem? (i := 100) rfl) rfl), List.forall_mem_cons.mpr ⟨(gk1 (List.mem_of_getElem? (i := 102) rfl) rfl), List.forall_mem_cons.mpr ⟨(gk1 (List.mem_of_getElem? (i := 104) rfl) rfl), List.forall_mem_cons.mpr ⟨(gk1 (List.mem_of_getElem? (i := 106) rfl) rfl), List.forall_mem_cons.mpr ⟨(gk1 (List.mem_of_getElem? (i := 108) rfl) rfl), List.forall_mem_cons.mpr ⟨(gk1 (List.mem_of_getElem? (i := 110) rfl) rfl), fun _ h => nomatch h⟩⟩⟩⟩⟩⟩⟩⟩⟩⟩⟩⟩⟩⟩
set_option maxRecDepth 20000 in
theorem inG_X11 : ∀ w ∈ u_ws RX11 TX11 9, w ∈ gw := show ∀ w ∈ [u_lay RX11 TX11 0, u_lay RX11 TX11 1, u_lay RX11 TX11 2, u_lay RX11 TX11 3, u_lay RX11 TX11 4, u_lay RX11 TX11 5, u_lay RX11 TX11 6, u_lay RX11 TX11 7, u_lay RX11 TX11 8], w ∈ gw from List.forall_mem_cons.mpr ⟨(gk1 (List.mem_of_getElem? (i := 221) rfl) rfl), List.forall_mem_cons.mpr ⟨(gk1 (List.mem_of_getElem? (i := 223) rfl) rfl), List.forall_mem_cons.mpr ⟨(gk1 (List.mem_of_getElem? (i := 225) rfl) rfl), List.forall_mem_cons.mpr ⟨(gk1 (List.mem_of_getElem? (i := 227) rfl) rfl), List.forall_mem_cons.mpr ⟨(gk1 (List.mem_of_getElem? (i := 229) rfl) rfl), List.forall_mem_cons.mpr ⟨(gk1 (List.mem_of_getElem? (i := 231) rfl) rfl), List.forall_mem_cons.mpr ⟨(gk1 (List.mem_of_getElem? (i := 233) rfl) rfl), List.forall_mem_cons.mpr ⟨(gk1 (List.mem_of_getElem? (i := 235) rfl) rfl), List.forall_mem_cons.mpr ⟨(gk1 (List.mem_of_getElem? (i := 237) rfl) rfl), fun _ h => nomatch h⟩⟩⟩⟩⟩⟩⟩⟩⟩
set_option maxRecDepth 20000 in
theorem inG_X12 : ∀ w ∈ u_ws RX12 TX12 38, w ∈ gw := show ∀ w ∈ [u_lay RX12 TX12 0, u_lay RX12 TX12 1, u_lay RX12 TX12 2, u_lay RX12 TX12 3, u_lay RX12 TX12 4, u_lay RX12 TX12 5, u_lay RX12 TX12 6, u_lay RX12 TX12 7, u_lay RX12 TX12 8, u_lay RX12 TX12 9, u_lay RX12 TX12 10, u_lay RX12 TX12 11, u_lay RX12 TX12 12, u_lay RX12 TX12 13, u_lay RX12 TX12 14, u_lay RX12 TX12 15, u_lay RX12 TX12 16, u_lay RX12 TX12 17, u_lay RX12 TX12 18, u_lay RX12 TX12 19, u_lay RX12 TX12 20, u_lay RX12 TX12 21, u_lay RX12 TX12 22, u_lay RX12 TX12 23, u_lay RX12 TX12 24, u_lay RX12 TX12 25, u_lay RX12 TX12 26, u_lay RX12 TX12 27, u_lay RX12 TX12 28, u_lay RX12 TX12 29, u_lay RX12 TX12 30, u_lay RX12 TX12 31, u_lay RX12 TX12 32, u_lay RX12 TX12 33, u_lay RX12 TX12 34, u_lay RX12 TX12 35, u_lay RX12 TX12 36, u_lay RX12 TX12 37], w ∈ gw from List.forall_mem_cons.mpr ⟨(gk6 (List.mem_of_getElem? (i := 99) rfl) rfl), List.forall_mem_cons.mpr ⟨(gk6 (List.mem_of_getElem? (i := 100) rfl) rfl), List.forall_mem_cons.mpr ⟨(gk6 (List.mem_of_getElem? (i := 101) rfl) rfl), List.forall_mem_cons.mpr ⟨(gk6 (List.mem_of_getElem? (i := 102) rfl) rfl), List.forall_mem_cons.mpr ⟨(gk6 (List.mem_of_getElem? (i := 103) rfl) rfl), List.forall_mem_cons.mpr ⟨(gk6 (List.mem_of_getElem? (i := 33) rfl) rfl), List.forall_mem_cons.mpr ⟨(gk6 (List.mem_of_getElem? (i := 35) rfl) rfl), List.forall_mem_cons.mpr ⟨(gk6 (List.mem_of_getElem? (i := 37) rfl) rfl), List.forall_mem_cons.mpr ⟨(gk6 (List.mem_of_getElem? (i := 39) rfl) rfl), List.forall_mem_cons.mpr ⟨(gk6 (List.mem_of_getElem? (i := 41) rfl) rfl), List.forall_mem_cons.mpr ⟨(gk6 (List.mem_of_getElem? (i := 43) rfl) rfl), List.forall_mem_cons.mpr ⟨(gk6 (List.mem_of_getElem? (i := 45) rfl) rfl), List.forall_mem_cons.mpr ⟨(gk6 (List.mem_of_getElem? (i := 47) rfl) rfl), List.forall_mem_cons.mpr ⟨(gk6 (List.mem_of_getElem? (i := 49) rfl) rfl), List.forall_mem_cons.mpr ⟨(gk6 (List.mem_of_getElem? (i := 51) rfl) rfl), List.forall_mem_cons.mpr ⟨(gk6 (List.mem_of_getElem? (i := 53) rfl) rfl), List.forall_mem_cons.mpr ⟨(gk6 (List.mem_of_getElem? (i := 55) rfl) rfl), List.forall_mem_cons.mpr ⟨(gk6 (List.mem_of_getElem? (i := 57) rfl) rfl), List.forall_mem_cons.mpr ⟨(gk6 (List.mem_of_getElem? (i := 59) rfl) rfl), List.forall_mem_cons.mpr ⟨(gk6 (List.mem_of_getElem? (i := 61) rfl) rfl), List.forall_mem_cons.mpr ⟨(gk6 (List.mem_of_getElem? (i := 63) rfl) rfl), List.forall_mem_cons.mpr ⟨(gk6 (List.mem_of_getElem? (i := 65) rfl) rfl), List.forall_mem_cons.mpr ⟨(gk6 (List.mem_of_getElem? (i := 67) rfl) rfl), List.forall_mem_cons.mpr ⟨(gk6 (List.mem_of_getElem? (i := 69) rfl) rfl), List.forall_mem_cons.mpr ⟨(gk6 (List.mem_of_getElem? (i := 71) rfl) rfl), List.forall_mem_cons.mpr ⟨(gk6 (List.mem_of_getElem? (i := 73) rfl) rfl), List.forall_mem_cons.mpr ⟨(gk6 (List.mem_of_getElem? (i := 75) rfl) rfl), List.forall_mem_cons.mpr ⟨(gk6 (List.mem_of_getElem? (i := 77) rfl) rfl), List.forall_mem_cons.mpr ⟨(gk6 (List.mem_of_getElem? (i := 79) rfl) rfl), List.forall_mem_cons.mpr ⟨(gk6 (List.mem_of_getElem? (i := 81) rfl) rfl), List.forall_mem_cons.mpr ⟨(gk6 (List.mem_of_getElem? (i := 83) rfl) rfl), List.forall_mem_cons.mpr ⟨(gk6 (List.mem_of_getElem? (i := 85) rfl) rfl), List.forall_mem_cons.mpr ⟨(gk6 (List.mem_of_getElem? (i := 87) rfl) rfl), List.forall_mem_cons.mpr ⟨(gk6 (List.mem_of_getElem? (i := 89) rfl) rfl), List.forall_mem_cons.mpr ⟨(gk6 (List.mem_of_getElem? (i := 91) rfl) rfl), List.forall_mem_cons.mpr ⟨(gk6 (List.mem_of_getElem? (i := 93) rfl) rfl), List.forall_mem_cons.mpr ⟨(gk6 (List.mem_of_getElem? (i := 95) rfl) rfl), List.forall_mem_cons.mpr ⟨(gk6 (List.mem_of_getElem? (i := 97) rfl) rfl), fun _ h => nomatch h⟩⟩⟩⟩⟩⟩⟩⟩⟩⟩⟩⟩⟩⟩⟩⟩⟩⟩⟩⟩⟩⟩⟩⟩⟩⟩⟩⟩⟩⟩⟩⟩⟩⟩⟩⟩⟩⟩
set_option maxRecDepth 20000 in
theorem inG_X13 : ∀ w ∈ u_ws RX13 TX13 4, w ∈ gw := show ∀ w ∈ [u_lay RX13 TX13 0, u_lay RX13 TX13 1, u_lay RX13 TX13 2, u_lay RX13 TX13 3], w ∈ gw from List.forall_mem_cons.mpr ⟨(gk5 (List.mem_of_getElem? (i := 200) rfl) rfl), List.forall_mem_cons.mpr ⟨(gk5 (List.mem_of_getElem? (i := 202) rfl) rfl), List.forall_mem_cons.mpr ⟨(gk5 (List.mem_of_getElem? (i := 204) rfl) rfl), List.forall_mem_cons.mpr ⟨(gk5 (List.mem_of_getElem? (i := 206) rfl) rfl), fun _ h => nomatch h⟩⟩⟩⟩
set_option maxRecDepth 20000 in
theorem inG_X14 : ∀ w ∈ u_ws RX14 TX14 5, w ∈ gw := show ∀ w ∈ [u_lay RX14 TX14 0, u_lay RX14 TX14 1, u_lay RX14 TX14 2, u_lay RX14 TX14 3, u_lay RX14 TX14 4], w ∈ gw from List.forall_mem_cons.mpr ⟨(gk5 (List.mem_of_getElem? (i := 173) rfl) rfl), List.forall_mem_cons.mpr ⟨(gk5 (List.mem_of_getElem? (i := 175) rfl) rfl), List.forall_mem_cons.mpr ⟨(gk5 (List.mem_of_getElem? (i := 177) rfl) rfl), List.forall_mem_cons.mpr ⟨(gk5 (List.mem_of_getElem? (i := 179) rfl) rfl), List.forall_mem_cons.mpr ⟨(gk5 (List.mem_of_getElem? (i := 181) rfl) rfl), fun _ h => nomatch h⟩⟩⟩⟩⟩
set_option maxRecDepth 20000 in
theorem inG_X15 : ∀ w ∈ u_ws RX15 TX15 38, w ∈ gw := show ∀ w ∈ [u_lay RX15 TX15 0, u_lay RX15 TX15 1, u_lay RX15 TX15 2, u_lay RX15 TX15 3, u_lay RX15 TX15 4, u_lay RX15 TX15 5, u_lay RX15 TX15 6, u_lay RX15 TX15 7, u_lay RX15 TX15 8, u_lay RX15 TX15 9, u_lay RX15 TX15 10, u_lay RX15 TX15 11, u_lay RX15 TX15 12, u_lay RX15 TX15 13, u_lay RX15 TX15 14, u_lay RX15 TX15 15, u_lay RX15 TX15 16, u_lay RX15 TX15 17, u_lay RX15 TX15 18, u_lay RX15 TX15 19, u_lay RX15 TX15 20, u_lay RX15 TX15 21, u_lay RX15 TX15 22, u_lay RX15 TX15 23, u_lay RX15 TX15 24, u_lay RX15 TX15 25, u_lay RX15 TX15 26, u_lay RX15 TX15 27, u_lay RX15 TX15 28, u_lay RX15 TX15 29, u_lay RX15 TX15 30, u_lay RX15 TX15 31, u_lay RX15 TX15 32, u_lay RX15 TX15 33, u_lay RX15 TX15 34, u_lay RX15 TX15 35, u_lay RX15 TX15 36, u_lay RX15 TX15 37], w ∈ gw from List.forall_mem_cons.mpr ⟨(gk6 (List.mem_of_getElem? (i := 143) rfl) rfl), List.forall_mem_cons.mpr ⟨(gk6 (List.mem_of_getElem? (i := 145) rfl) rfl), List.forall_mem_cons.mpr ⟨(gk6 (List.mem_of_getElem? (i := 147) rfl) rfl), List.forall_mem_cons.mpr ⟨(gk6 (List.mem_of_getElem? (i := 149) rfl) rfl), List.forall_mem_cons.mpr ⟨(gk6 (List.mem_of_getElem? (i := 151) rfl) rfl), List.forall_mem_cons.mpr ⟨(gk6 (List.mem_of_getElem? (i := 153) rfl) rfl), List.forall_mem_cons.mpr ⟨(gk6 (List.mem_of_getElem? (i := 155) rfl) rfl), List.forall_mem_cons.mpr ⟨(gk6 (List.mem_of_getElem? (i := 157) rfl) rfl), List.forall_mem_cons.mpr ⟨(gk6 (List.mem_of_getElem? (i := 159) rfl) rfl), List.forall_mem_cons.mpr ⟨(gk6 (List.mem_of_getElem? (i := 161) rfl) rfl), List.forall_mem_cons.mpr ⟨(gk6 (List.mem_of_getElem? (i := 163) rfl) rfl), List.forall_mem_cons.mpr ⟨(gk6 (List.mem_of_getElem? (i := 165) rfl) rfl), List.forall_mem_cons.mpr ⟨(gk6 (List.mem_of_getElem? (i := 167) rfl) rfl), List.forall_mem_cons.mpr ⟨(gk6 (List.mem_of_getElem? (i := 169) rfl) rfl), List.forall_mem_cons.mpr ⟨(gk6 (List.mem_of_getElem? (i := 171) rfl) rfl), List.forall_mem_cons.mpr ⟨(gk6 (List.mem_of_getElem? (i := 173) rfl) rfl), List.forall_mem_cons.mpr ⟨(gk6 (List.mem_of_getElem? (i := 175) rfl) rfl), List.forall_mem_cons.mpr ⟨(gk6 (List.mem_of_getElem? (i := 177) rfl) rfl), List.forall_mem_cons.mpr ⟨(gk6 (List.mem_of_getElem? (i := 179) rfl) rfl), List.forall_mem_cons.mpr ⟨(gk6 (List.mem_of_getElem? (i := 181) rfl) rfl), List.forall_mem_cons.mpr ⟨(gk6 (List.mem_of_getElem? (i := 183) rfl) rfl), List.forall_mem_cons.mpr ⟨(gk6 (List.mem_of_getElem? (i := 185) rfl) rfl), List.forall_mem_cons.mpr ⟨(gk6 (List.mem_of_getElem? (i := 187) rfl) rfl), List.forall_mem_cons.mpr ⟨(gk6 (List.mem_of_getElem? (i := 189) rfl) rfl), List.forall_mem_cons.mpr ⟨(gk6 (List.mem_of_getElem? (i := 191) rfl) rfl), List.forall_mem_cons.mpr ⟨(gk6 (List.mem_of_getElem? (i := 193) rfl) rfl), List.forall_mem_cons.mpr ⟨(gk6 (List.mem_of_getElem? (i := 195) rfl) rfl), List.forall_mem_cons.mpr ⟨(gk6 (List.mem_of_getElem? (i := 197) rfl) rfl), List.forall_mem_cons.mpr ⟨(gk6 (List.mem_of_getElem? (i := 199) rfl) rfl), List.forall_mem_cons.mpr ⟨(gk6 (List.mem_of_getElem? (i := 201) rfl) rfl), List.forall_mem_cons.mpr ⟨(gk6 (List.mem_of_getElem? (i := 203) rfl) rfl), List.forall_mem_cons.mpr ⟨(gk6 (List.mem_of_getElem? (i := 205) rfl) rfl), List.forall_mem_cons.mpr ⟨(gk6 (List.mem_of_getElem? (i := 207) rfl) rfl), List.forall_mem_cons.mpr ⟨(gk6 (List.mem_of_getElem? (i := 209) rfl) rfl), List.forall_mem_cons.mpr ⟨(gk6 (List.mem_of_getElem? (i := 211) rfl) rfl), List.forall_mem_cons.mpr ⟨(gk6 (List.mem_of_getElem? (i := 213) rfl) rfl), List.forall_mem_cons.mpr ⟨(gk6 (List.mem_of_getElem? (i := 215) rfl) rfl), List.forall_mem_cons.mpr ⟨(gk6 (List.mem_of_getElem? (i := 217) rfl) rfl), fun _ h => nomatch h⟩⟩⟩⟩⟩⟩⟩⟩⟩⟩⟩⟩⟩⟩⟩⟩⟩⟩⟩⟩⟩⟩⟩⟩⟩⟩⟩⟩⟩⟩⟩⟩⟩⟩⟩⟩⟩⟩
set_option maxRecDepth 20000 in
theorem fl_X11_14_9 : FL RX11 14 9 0 := ⟨RX11, TX11, 9, "FieldLine", rfl, inG_X11, by decide, Or.inl (gk1 (List.mem_of_getElem? (i := 212) rfl) rfl), Or.inl rfl⟩
set_option maxRecDepth 20000 in
theorem fp_X11_14_9 : FP RX11 14 9 0 (.object "FieldLine$Row") true := ⟨RX11, TX11, 9, "FieldLine", tyX11, rfl, inG_X11, by decide, Or.inl (gk1 (List.mem_of_getElem? (i := 212) rfl) rfl), Or.inl rfl, tyX11_ok, nmX11, rfl, tyX11_ok 0 (by decide), fun _ => rfl⟩
set_option maxRecDepth 20000 in
theorem fl_X11_18_9 : FL RX11 18 9 1 := ⟨RX11, TX11, 9, "FieldLine", rfl, inG_X11, by decide, Or.inl (gk1 (List.mem_of_getElem? (i := 213) rfl) rfl), Or.inl rfl⟩
set_option maxRecDepth 20000 in
theorem fp_X11_18_9 : FP RX11 18 9 1 (.object "FieldLine$Row") true := ⟨RX11, TX11, 9, "FieldLine", tyX11, rfl, inG_X11, by decide, Or.inl (gk1 (List.mem_of_getElem? (i := 213) rfl) rfl), Or.inl rfl, tyX11_ok, nmX11, rfl, tyX11_ok 1 (by decide), fun _ => rfl⟩
set_option maxRecDepth 20000 in
theorem fl_X11_21_9 : FL RX11 21 9 2 := ⟨RX11, TX11, 9, "FieldLine", rfl, inG_X11, by decide, Or.inl (gk1 (List.mem_of_getElem? (i := 214) rfl) rfl), Or.inl rfl⟩
set_option maxRecDepth 20000 in
theorem fp_X11_21_9 : FP RX11 21 9 2 (.object "FieldLine$Row") true := ⟨RX11, TX11, 9, "FieldLine", tyX11, rfl, inG_X11, by decide, Or.inl (gk1 (List.mem_of_getElem? (i := 214) rfl) rfl), Or.inl rfl, tyX11_ok, nmX11, rfl, tyX11_ok 2 (by decide), fun _ => rfl⟩
set_option maxRecDepth 20000 in
theorem fl_X11_24_9 : FL RX11 24 9 3 := ⟨RX11, TX11, 9, "FieldLine", rfl, inG_X11, by decide, Or.inl (gk1 (List.mem_of_getElem? (i := 215) rfl) rfl), Or.inl rfl⟩
set_option maxRecDepth 20000 in
theorem fp_X11_24_9 : FP RX11 24 9 3 (.object "FieldLine$Row") true := ⟨RX11, TX11, 9, "FieldLine", tyX11, rfl, inG_X11, by decide, Or.inl (gk1 (List.mem_of_getElem? (i := 215) rfl) rfl), Or.inl rfl, tyX11_ok, nmX11, rfl, tyX11_ok 3 (by decide), fun _ => rfl⟩
set_option maxRecDepth 20000 in
theorem fl_X11_29_9 : FL RX11 29 9 4 := ⟨RX11, TX11, 9, "FieldLine", rfl, inG_X11, by decide, Or.inl (gk1 (List.mem_of_getElem? (i := 216) rfl) rfl), Or.inl rfl⟩
set_option maxRecDepth 20000 in
theorem fp_X11_29_9 : FP RX11 29 9 4 (.array (.object "FieldLine$Device")) true := ⟨RX11, TX11, 9, "FieldLine", tyX11, rfl, inG_X11, by decide, Or.inl (gk1 (List.mem_of_getElem? (i := 216) rfl) rfl), Or.inl rfl, tyX11_ok, nmX11, rfl, tyX11_ok 4 (by decide), fun _ => rfl⟩
set_option maxRecDepth 20000 in
theorem fl_X11_33_9 : FL RX11 33 9 5 := ⟨RX11, TX11, 9, "FieldLine", rfl, inG_X11, by decide, Or.inl (gk1 (List.mem_of_getElem? (i := 217) rfl) rfl), Or.inl rfl⟩
set_option maxRecDepth 20000 in
theorem fp_X11_33_9 : FP RX11 33 9 5 (.int) false := ⟨RX11, TX11, 9, "FieldLine", tyX11, rfl, inG_X11, by decide, Or.inl (gk1 (List.mem_of_getElem? (i := 217) rfl) rfl), Or.inl rfl, tyX11_ok, nmX11, rfl, tyX11_ok 5 (by decide), fun h => nomatch h⟩
set_option maxRecDepth 20000 in
theorem fl_X11_40_9 : FL RX11 40 9 6 := ⟨RX11, TX11, 9, "FieldLine", rfl, inG_X11, by decide, Or.inl (gk1 (List.mem_of_getElem? (i := 218) rfl) rfl), Or.inl rfl⟩
set_option maxRecDepth 20000 in
theorem fp_X11_40_9 : FP RX11 40 9 6 (.object "FieldLine$Wire") true := ⟨RX11, TX11, 9, "FieldLine", tyX11, rfl, inG_X11, by decide, Or.inl (gk1 (List.mem_of_getElem? (i := 218) rfl) rfl), Or.inl rfl, tyX11_ok, nmX11, rfl, tyX11_ok 6 (by decide), fun _ => rfl⟩
set_option maxRecDepth 20000 in
theorem fl_X11_47_9 : FL RX11 47 9 7 := ⟨RX11, TX11, 9, "FieldLine", rfl, inG_X11, by decide, Or.inl (gk1 (List.mem_of_getElem? (i := 219) rfl) rfl), Or.inl rfl⟩
set_option maxRecDepth 20000 in
theorem fp_X11_47_9 : FP RX11 47 9 7 (.object "FieldLine$Master") true := ⟨RX11, TX11, 9, "FieldLine", tyX11, rfl, inG_X11, by decide, Or.inl (gk1 (List.mem_of_getElem? (i := 219) rfl) rfl), Or.inl rfl, tyX11_ok, nmX11, rfl, tyX11_ok 7 (by decide), fun _ => rfl⟩
set_option maxRecDepth 20000 in
theorem fl_X11_51_9 : FL RX11 51 9 8 := ⟨RX11, TX11, 9, "FieldLine", rfl, inG_X11, by decide, Or.inl (gk1 (List.mem_of_getElem? (i := 220) rfl) rfl), Or.inl rfl⟩
set_option maxRecDepth 20000 in
theorem fp_X11_51_9 : FP RX11 51 9 8 (.int) false := ⟨RX11, TX11, 9, "FieldLine", tyX11, rfl, inG_X11, by decide, Or.inl (gk1 (List.mem_of_getElem? (i := 220) rfl) rfl), Or.inl rfl, tyX11_ok, nmX11, rfl, tyX11_ok 8 (by decide), fun h => nomatch h⟩
set_option maxRecDepth 20000 in
theorem fl_X11_54_4 : FL RX11 54 4 1 := ⟨RX4, TX4, 2, "FieldLine$Row", rfl, inG_X4, by decide, Or.inr ⟨"FieldLine", (nw_mem 89 (by decide +kernel) (by decide +kernel))⟩, Or.inl rfl⟩
set_option maxRecDepth 20000 in
theorem fl_X11_86_1 : FL RX11 86 1 1 := ⟨RX1, TX1, 20, "FieldLine$Device", rfl, inG_X1, by decide, Or.inr ⟨"FieldLine", (nw_mem 388 (by decide +kernel) (by decide +kernel))⟩, Or.inl rfl⟩
set_option maxRecDepth 20000 in
theorem fl_X11_118_1 : FL RX11 118 1 9 := ⟨RX1, TX1, 20, "FieldLine$Device", rfl, inG_X1, by decide, Or.inr ⟨"FieldLine", (nw_mem 402 (by decide +kernel) (by decide +kernel))⟩, Or.inl rfl⟩
set_option maxRecDepth 20000 in
theorem fl_X11_137_1 : FL RX11 137 1 10 := ⟨RX1, TX1, 20, "FieldLine$Device", rfl, inG_X1, by decide, Or.inr ⟨"FieldLine", (nw_mem 405 (by decide +kernel) (by decide +kernel))⟩, Or.inl rfl⟩
set_option maxRecDepth 20000 in
theorem fl_X11_143_1 : FL RX11 143 1 11 := ⟨RX1, TX1, 20, "FieldLine$Device", rfl, inG_X1, by decide, Or.inr ⟨"FieldLine", (nw_mem 408 (by decide +kernel) (by decide +kernel))⟩, Or.inl rfl⟩
set_option maxRecDepth 20000 in
theorem fl_X11_156_1 : FL RX11 156 1 18 := ⟨RX1, TX1, 20, "FieldLine$Device", rfl, inG_X1, by decide, Or.inr ⟨"FieldLine", (nw_mem 422 (by decide +kernel) (by decide +kernel))⟩, Or.inl rfl⟩
set_option maxRecDepth 20000 in
theorem fp_X11_156_1 : FP RX11 156 1 18 (.int) false := ⟨RX1, TX1, 20, "FieldLine$Device", tyX1, rfl, inG_X1, by decide, Or.inr ⟨rfl, "FieldLine", (nw_mem 422 (by decide +kernel) (by decide +kernel))⟩, Or.inl rfl, tyX1_ok, nmX1, rfl, tyX1_ok 18 (by decide), fun h => nomatch h⟩
set_option maxRecDepth 20000 in
theorem fp_X11_172_3 : FP RX11 172 3 3 (.int) false := ⟨RX3, TX3, 17, "FieldLine$Master", tyX3, rfl, inG_X3, by decide, Or.inr ⟨rfl, "FieldLine", (nw_mem 204 (by decide +kernel) (by decide +kernel))⟩, Or.inl rfl, tyX3_ok, nmX3, rfl, tyX3_ok 3 (by decide), fun h => nomatch h⟩
set_option maxRecDepth 20000 in
theorem fp_X11_175_3 : FP RX11 175 3 4 (.int) false := ⟨RX3, TX3, 17, "FieldLine$Master", tyX3, rfl, inG_X3, by decide, Or.inr ⟨rfl, "FieldLine", (nw_mem 206 (by decide +kernel) (by decide +kernel))⟩, Or.inl rfl, tyX3_ok, nmX3, rfl, tyX3_ok 4 (by decide), fun h => nomatch h⟩
set_option maxRecDepth 20000 in
theorem fp_X11_178_3 : FP RX11 178 3 5 (.int) false := ⟨RX3, TX3, 17, "FieldLine$Master", tyX3, rfl, inG_X3, by decide, Or.inr ⟨rfl, "FieldLine", (nw_mem 208 (by decide +kernel) (by decide +kernel))⟩, Or.inl rfl, tyX3_ok, nmX3, rfl, tyX3_ok 5 (by decide), fun h => nomatch h⟩
set_option maxRecDepth 20000 in
theorem fl_X11_199_8 : FL RX11 199 8 9 := ⟨RX10, TX10, 14, "FieldLine$Wire", rfl, inG_X10, by decide, Or.inr ⟨"FieldLine", (nw_mem 125 (by decide +kernel) (by decide +kernel))⟩, Or.inl rfl⟩
set_option maxRecDepth 20000 in
theorem fl_X11_211_8 : FL RX11 211 8 1 := ⟨RX10, TX10, 14, "FieldLine$Wire", rfl, inG_X10, by decide, Or.inr ⟨"FieldLine", (nw_mem 114 (by decide +kernel) (by decide +kernel))⟩, Or.inl rfl⟩
set_option maxRecDepth 20000 in
theorem fl_X11_214_8 : FL RX11 214 8 2 := ⟨RX10, TX10, 14, "FieldLine$Wire", rfl, inG_X10, by decide, Or.inr ⟨"FieldLine", (nw_mem 116 (by decide +kernel) (by decide +kernel))⟩, Or.inl rfl⟩
set_option maxRecDepth 20000 in
theorem fl_X11_231_8 : FL RX11 231 8 7 := ⟨RX10, TX10, 14, "FieldLine$Wire", rfl, inG_X10, by decide, Or.inr ⟨"FieldLine", (nw_mem 122 (by decide +kernel) (by decide +kernel))⟩, Or.inl rfl⟩
set_option maxRecDepth 20000 in
theorem fl_X11_247_3 : FL RX11 247 3 1 := ⟨RX3, TX3, 17, "FieldLine$Master", rfl, inG_X3, by decide, Or.inr ⟨"FieldLine", (nw_mem 200 (by decide +kernel) (by decide +kernel))⟩, Or.inl rfl⟩
set_option maxRecDepth 20000 in
theorem fp_X11_247_3 : FP RX11 247 3 1 (.int) false := ⟨RX3, TX3, 17, "FieldLine$Master", tyX3, rfl, inG_X3, by decide, Or.inr ⟨rfl, "FieldLine", (nw_mem 200 (by decide +kernel) (by decide +kernel))⟩, Or.inl rfl, tyX3_ok, nmX3, rfl, tyX3_ok 1 (by decide), fun h => nomatch h⟩
set_option maxRecDepth 20000 in
theorem fl_X11_250_2 : FL RX11 250 2 3 := ⟨RX2, TX2, 6, "FieldLine$Job", rfl, inG_X2, by decide, Or.inr ⟨"FieldLine", (nw_mem 770 (by decide +kernel) (by decide +kernel))⟩, Or.inl rfl⟩
set_option maxRecDepth 20000 in
theorem fp_X11_250_2 : FP RX11 250 2 3 (.int) false := ⟨RX2, TX2, 6, "FieldLine$Job", tyX2, rfl, inG_X2, by decide, Or.inr ⟨rfl, "FieldLine", (nw_mem 770 (by decide +kernel) (by decide +kernel))⟩, Or.inl rfl, tyX2_ok, nmX2, rfl, tyX2_ok 3 (by decide), fun h => nomatch h⟩
set_option maxRecDepth 20000 in
theorem fl_X11_255_2 : FL RX11 255 2 2 := ⟨RX2, TX2, 6, "FieldLine$Job", rfl, inG_X2, by decide, Or.inr ⟨"FieldLine", (nw_mem 768 (by decide +kernel) (by decide +kernel))⟩, Or.inl rfl⟩
set_option maxRecDepth 20000 in
theorem fl_X11_256_2 : FL RX11 256 2 0 := ⟨RX2, TX2, 6, "FieldLine$Job", rfl, inG_X2, by decide, Or.inr ⟨"FieldLine", (nw_mem 764 (by decide +kernel) (by decide +kernel))⟩, Or.inl rfl⟩
set_option maxRecDepth 20000 in
theorem fl_X11_263_1 : FL RX11 263 1 16 := ⟨RX1, TX1, 20, "FieldLine$Device", rfl, inG_X1, by decide, Or.inr ⟨"FieldLine", (nw_mem 418 (by decide +kernel) (by decide +kernel))⟩, Or.inl rfl⟩
set_option maxRecDepth 20000 in
theorem fl_X11_266_1 : FL RX11 266 1 17 := ⟨RX1, TX1, 20, "FieldLine$Device", rfl, inG_X1, by decide, Or.inr ⟨"FieldLine", (nw_mem 420 (by decide +kernel) (by decide +kernel))⟩, Or.inl rfl⟩
set_option maxRecDepth 20000 in
theorem fp_X11_266_1 : FP RX11 266 1 17 (.int) false := ⟨RX1, TX1, 20, "FieldLine$Device", tyX1, rfl, inG_X1, by decide, Or.inr ⟨rfl, "FieldLine", (nw_mem 420 (by decide +kernel) (by decide +kernel))⟩, Or.inl rfl, tyX1_ok, nmX1, rfl, tyX1_ok 17 (by decide), fun h => nomatch h⟩
set_option maxRecDepth 20000 in
theorem fl_X11_269_3 : FL RX11 269 3 0 := ⟨RX3, TX3, 17, "FieldLine$Master", rfl, inG_X3, by decide, Or.inr ⟨"FieldLine", (nw_mem 198 (by decide +kernel) (by decide +kernel))⟩, Or.inl rfl⟩
set_option maxRecDepth 20000 in
theorem fl_X11_278_1 : FL RX11 278 1 15 := ⟨RX1, TX1, 20, "FieldLine$Device", rfl, inG_X1, by decide, Or.inr ⟨"FieldLine", (nw_mem 416 (by decide +kernel) (by decide +kernel))⟩, Or.inl rfl⟩
set_option maxRecDepth 20000 in
theorem fl_X11_296_7 : FL RX11 296 7 0 := ⟨RX9, TX9, 4, "FieldLine$Station", rfl, inG_X9, by decide, Or.inr ⟨"FieldLine", (nw_mem 178 (by decide +kernel) (by decide +kernel))⟩, Or.inl rfl⟩
set_option maxRecDepth 20000 in
theorem fl_X11_299_1 : FL RX11 299 1 19 := ⟨RX1, TX1, 20, "FieldLine$Device", rfl, inG_X1, by decide, Or.inr ⟨"FieldLine", (nw_mem 425 (by decide +kernel) (by decide +kernel))⟩, Or.inl rfl⟩
set_option maxRecDepth 20000 in
theorem fl_X11_319_2 : FL RX11 319 2 1 := ⟨RX2, TX2, 6, "FieldLine$Job", rfl, inG_X2, by decide, Or.inr ⟨"FieldLine", (nw_mem 766 (by decide +kernel) (by decide +kernel))⟩, Or.inl rfl⟩
set_option maxRecDepth 20000 in
theorem fl_X11_322_2 : FL RX11 322 2 4 := ⟨RX2, TX2, 6, "FieldLine$Job", rfl, inG_X2, by decide, Or.inr ⟨"FieldLine", (nw_mem 772 (by decide +kernel) (by decide +kernel))⟩, Or.inl rfl⟩
set_option maxRecDepth 20000 in
theorem fl_X11_325_2 : FL RX11 325 2 5 := ⟨RX2, TX2, 6, "FieldLine$Job", rfl, inG_X2, by decide, Or.inr ⟨"FieldLine", (nw_mem 774 (by decide +kernel) (by decide +kernel))⟩, Or.inl rfl⟩
set_option maxRecDepth 20000 in
theorem fl_X11_342_3 : FL RX11 342 3 2 := ⟨RX3, TX3, 17, "FieldLine$Master", rfl, inG_X3, by decide, Or.inr ⟨"FieldLine", (nw_mem 202 (by decide +kernel) (by decide +kernel))⟩, Or.inl rfl⟩
set_option maxRecDepth 20000 in
theorem fl_X11_345_3 : FL RX11 345 3 8 := ⟨RX3, TX3, 17, "FieldLine$Master", rfl, inG_X3, by decide, Or.inr ⟨"FieldLine", (nw_mem 212 (by decide +kernel) (by decide +kernel))⟩, Or.inl rfl⟩
set_option maxRecDepth 20000 in
theorem fl_X11_351_3 : FL RX11 351 3 12 := ⟨RX3, TX3, 17, "FieldLine$Master", rfl, inG_X3, by decide, Or.inr ⟨"FieldLine", (nw_mem 217 (by decide +kernel) (by decide +kernel))⟩, Or.inl rfl⟩
set_option maxRecDepth 20000 in
theorem fl_X11_354_3 : FL RX11 354 3 13 := ⟨RX3, TX3, 17, "FieldLine$Master", rfl, inG_X3, by decide, Or.inr ⟨"FieldLine", (nw_mem 219 (by decide +kernel) (by decide +kernel))⟩, Or.inl rfl⟩
set_option maxRecDepth 20000 in
theorem fl_X11_357_3 : FL RX11 357 3 14 := ⟨RX3, TX3, 17, "FieldLine$Master", rfl, inG_X3, by decide, Or.inr ⟨"FieldLine", (nw_mem 221 (by decide +kernel) (by decide +kernel))⟩, Or.inl rfl⟩
set_option maxRecDepth 20000 in
theorem fl_X11_360_8 : FL RX11 360 8 13 := ⟨RX10, TX10, 14, "FieldLine$Wire", rfl, inG_X10, by decide, Or.inr ⟨"FieldLine", (nw_mem 131 (by decide +kernel) (by decide +kernel))⟩, Or.inl rfl⟩
set_option maxRecDepth 20000 in
theorem fl_X11_363_3 : FL RX11 363 3 16 := ⟨RX3, TX3, 17, "FieldLine$Master", rfl, inG_X3, by decide, Or.inr ⟨"FieldLine", (nw_mem 224 (by decide +kernel) (by decide +kernel))⟩, Or.inl rfl⟩
set_option maxRecDepth 20000 in
theorem fl_X11_366_8 : FL RX11 366 8 10 := ⟨RX10, TX10, 14, "FieldLine$Wire", rfl, inG_X10, by decide, Or.inr ⟨"FieldLine", (nw_mem 127 (by decide +kernel) (by decide +kernel))⟩, Or.inl rfl⟩
set_option maxRecDepth 20000 in
theorem fl_X11_369_1 : FL RX11 369 1 14 := ⟨RX1, TX1, 20, "FieldLine$Device", rfl, inG_X1, by decide, Or.inr ⟨"FieldLine", (nw_mem 414 (by decide +kernel) (by decide +kernel))⟩, Or.inl rfl⟩
set_option maxRecDepth 20000 in
theorem fl_X11_372_7 : FL RX11 372 7 2 := ⟨RX9, TX9, 4, "FieldLine$Station", rfl, inG_X9, by decide, Or.inr ⟨"FieldLine", (nw_mem 181 (by decide +kernel) (by decide +kernel))⟩, Or.inl rfl⟩
set_option maxRecDepth 20000 in
theorem fl_X11_378_8 : FL RX11 378 8 0 := ⟨RX10, TX10, 14, "FieldLine$Wire", rfl, inG_X10, by decide, Or.inr ⟨"FieldLine", (nw_mem 112 (by decide +kernel) (by decide +kernel))⟩, Or.inl rfl⟩
set_option maxRecDepth 20000 in
theorem fl_X0_9_0 : FL RX0 9 0 0 := ⟨RX0, TX0, 4, "FieldLine$Bank", rfl, inG_X0, by decide, Or.inl (gk2 (List.mem_of_getElem? (i := 57) rfl) rfl), Or.inl rfl⟩
set_option maxRecDepth 20000 in
theorem fp_X0_9_0 : FP RX0 9 0 0 (.array .int) true := ⟨RX0, TX0, 4, "FieldLine$Bank", tyX0, rfl, inG_X0, by decide, Or.inl (gk2 (List.mem_of_getElem? (i := 57) rfl) rfl), Or.inl rfl, tyX0_ok, nmX0, rfl, tyX0_ok 0 (by decide), fun _ => rfl⟩
set_option maxRecDepth 20000 in
theorem fl_X0_15_0 : FL RX0 15 0 1 := ⟨RX0, TX0, 4, "FieldLine$Bank", rfl, inG_X0, by decide, Or.inl (gk2 (List.mem_of_getElem? (i := 58) rfl) rfl), Or.inl rfl⟩
set_option maxRecDepth 20000 in
theorem fp_X0_15_0 : FP RX0 15 0 1 (.int) true := ⟨RX0, TX0, 4, "FieldLine$Bank", tyX0, rfl, inG_X0, by decide, Or.inl (gk2 (List.mem_of_getElem? (i := 58) rfl) rfl), Or.inl rfl, tyX0_ok, nmX0, rfl, tyX0_ok 1 (by decide), fun _ => rfl⟩
set_option maxRecDepth 20000 in
theorem fl_X0_19_0 : FL RX0 19 0 2 := ⟨RX0, TX0, 4, "FieldLine$Bank", rfl, inG_X0, by decide, Or.inl (gk2 (List.mem_of_getElem? (i := 59) rfl) rfl), Or.inl rfl⟩
set_option maxRecDepth 20000 in
theorem fp_X0_19_0 : FP RX0 19 0 2 (.int) false := ⟨RX0, TX0, 4, "FieldLine$Bank", tyX0, rfl, inG_X0, by decide, Or.inl (gk2 (List.mem_of_getElem? (i := 59) rfl) rfl), Or.inl rfl, tyX0_ok, nmX0, rfl, tyX0_ok 2 (by decide), fun h => nomatch h⟩
set_option maxRecDepth 20000 in
theorem fl_X0_22_0 : FL RX0 22 0 3 := ⟨RX0, TX0, 4, "FieldLine$Bank", rfl, inG_X0, by decide, Or.inl (gk2 (List.mem_of_getElem? (i := 61) rfl) rfl), Or.inl rfl⟩
set_option maxRecDepth 20000 in
theorem fp_X0_22_0 : FP RX0 22 0 3 (.int) false := ⟨RX0, TX0, 4, "FieldLine$Bank", tyX0, rfl, inG_X0, by decide, Or.inl (gk2 (List.mem_of_getElem? (i := 61) rfl) rfl), Or.inl rfl, tyX0_ok, nmX0, rfl, tyX0_ok 3 (by decide), fun h => nomatch h⟩
set_option maxRecDepth 20000 in
theorem fp_X1_9_1 : FP RX1 9 1 0 (.int) true := ⟨RX1, TX1, 20, "FieldLine$Device", tyX1, rfl, inG_X1, by decide, Or.inl (gk2 (List.mem_of_getElem? (i := 97) rfl) rfl), Or.inl rfl, tyX1_ok, nmX1, rfl, tyX1_ok 0 (by decide), fun _ => rfl⟩
set_option maxRecDepth 20000 in
theorem fl_X1_15_1 : FL RX1 15 1 1 := ⟨RX1, TX1, 20, "FieldLine$Device", rfl, inG_X1, by decide, Or.inl (gk2 (List.mem_of_getElem? (i := 99) rfl) rfl), Or.inl rfl⟩
set_option maxRecDepth 20000 in
theorem fp_X1_15_1 : FP RX1 15 1 1 (.int) true := ⟨RX1, TX1, 20, "FieldLine$Device", tyX1, rfl, inG_X1, by decide, Or.inl (gk2 (List.mem_of_getElem? (i := 99) rfl) rfl), Or.inl rfl, tyX1_ok, nmX1, rfl, tyX1_ok 1 (by decide), fun _ => rfl⟩
set_option maxRecDepth 20000 in
theorem fl_X1_18_1 : FL RX1 18 1 2 := ⟨RX1, TX1, 20, "FieldLine$Device", rfl, inG_X1, by decide, Or.inl (gk2 (List.mem_of_getElem? (i := 101) rfl) rfl), Or.inl rfl⟩
set_option maxRecDepth 20000 in
theorem fp_X1_18_1 : FP RX1 18 1 2 (.int) true := ⟨RX1, TX1, 20, "FieldLine$Device", tyX1, rfl, inG_X1, by decide, Or.inl (gk2 (List.mem_of_getElem? (i := 101) rfl) rfl), Or.inl rfl, tyX1_ok, nmX1, rfl, tyX1_ok 2 (by decide), fun _ => rfl⟩
set_option maxRecDepth 20000 in
theorem fl_X1_26_1 : FL RX1 26 1 3 := ⟨RX1, TX1, 20, "FieldLine$Device", rfl, inG_X1, by decide, Or.inl (gk2 (List.mem_of_getElem? (i := 102) rfl) rfl), Or.inl rfl⟩
set_option maxRecDepth 20000 in
theorem fp_X1_26_1 : FP RX1 26 1 3 (.object "FieldLine$Bank") true := ⟨RX1, TX1, 20, "FieldLine$Device", tyX1, rfl, inG_X1, by decide, Or.inl (gk2 (List.mem_of_getElem? (i := 102) rfl) rfl), Or.inl rfl, tyX1_ok, nmX1, rfl, tyX1_ok 3 (by decide), fun _ => rfl⟩
set_option maxRecDepth 20000 in
theorem fl_X1_30_1 : FL RX1 30 1 4 := ⟨RX1, TX1, 20, "FieldLine$Device", rfl, inG_X1, by decide, Or.inl (gk2 (List.mem_of_getElem? (i := 104) rfl) rfl), Or.inl rfl⟩
set_option maxRecDepth 20000 in
theorem fp_X1_30_1 : FP RX1 30 1 4 (.object "FieldLine$Bank") true := ⟨RX1, TX1, 20, "FieldLine$Device", tyX1, rfl, inG_X1, by decide, Or.inl (gk2 (List.mem_of_getElem? (i := 104) rfl) rfl), Or.inl rfl, tyX1_ok, nmX1, rfl, tyX1_ok 4 (by decide), fun _ => rfl⟩
set_option maxRecDepth 20000 in
theorem fl_X1_34_1 : FL RX1 34 1 5 := ⟨RX1, TX1, 20, "FieldLine$Device", rfl, inG_X1, by decide, Or.inl (gk2 (List.mem_of_getElem? (i := 106) rfl) rfl), Or.inl rfl⟩
set_option maxRecDepth 20000 in
theorem fp_X1_34_1 : FP RX1 34 1 5 (.object "FieldLine$Bank") true := ⟨RX1, TX1, 20, "FieldLine$Device", tyX1, rfl, inG_X1, by decide, Or.inl (gk2 (List.mem_of_getElem? (i := 106) rfl) rfl), Or.inl rfl, tyX1_ok, nmX1, rfl, tyX1_ok 5 (by decide), fun _ => rfl⟩
set_option maxRecDepth 20000 in
theorem fl_X1_37_1 : FL RX1 37 1 6 := ⟨RX1, TX1, 20, "FieldLine$Device", rfl, inG_X1, by decide, Or.inl (gk2 (List.mem_of_getElem? (i := 108) rfl) rfl), Or.inl rfl⟩
set_option maxRecDepth 20000 in
theorem fp_X1_37_1 : FP RX1 37 1 6 (.object "FieldLine$Bank") true := ⟨RX1, TX1, 20, "FieldLine$Device", tyX1, rfl, inG_X1, by decide, Or.inl (gk2 (List.mem_of_getElem? (i := 108) rfl) rfl), Or.inl rfl, tyX1_ok, nmX1, rfl, tyX1_ok 6 (by decide), fun _ => rfl⟩
set_option maxRecDepth 20000 in
theorem fl_X1_40_1 : FL RX1 40 1 7 := ⟨RX1, TX1, 20, "FieldLine$Device", rfl, inG_X1, by decide, Or.inl (gk2 (List.mem_of_getElem? (i := 110) rfl) rfl), Or.inl rfl⟩
set_option maxRecDepth 20000 in
theorem fp_X1_40_1 : FP RX1 40 1 7 (.array .int) true := ⟨RX1, TX1, 20, "FieldLine$Device", tyX1, rfl, inG_X1, by decide, Or.inl (gk2 (List.mem_of_getElem? (i := 110) rfl) rfl), Or.inl rfl, tyX1_ok, nmX1, rfl, tyX1_ok 7 (by decide), fun _ => rfl⟩
set_option maxRecDepth 20000 in
theorem fp_X1_49_1 : FP RX1 49 1 9 (.object "FieldLine$Shelf") true := ⟨RX1, TX1, 20, "FieldLine$Device", tyX1, rfl, inG_X1, by decide, Or.inl (gk2 (List.mem_of_getElem? (i := 112) rfl) rfl), Or.inl rfl, tyX1_ok, nmX1, rfl, tyX1_ok 9 (by decide), fun _ => rfl⟩
set_option maxRecDepth 20000 in
theorem fl_X1_53_1 : FL RX1 53 1 10 := ⟨RX1, TX1, 20, "FieldLine$Device", rfl, inG_X1, by decide, Or.inl (gk2 (List.mem_of_getElem? (i := 115) rfl) rfl), Or.inl rfl⟩
set_option maxRecDepth 20000 in
theorem fp_X1_53_1 : FP RX1 53 1 10 (.object "FieldLine$Shelf") true := ⟨RX1, TX1, 20, "FieldLine$Device", tyX1, rfl, inG_X1, by decide, Or.inl (gk2 (List.mem_of_getElem? (i := 115) rfl) rfl), Or.inl rfl, tyX1_ok, nmX1, rfl, tyX1_ok 10 (by decide), fun _ => rfl⟩
set_option maxRecDepth 20000 in
theorem fp_X1_56_1 : FP RX1 56 1 11 (.object "FieldLine$Shelf") true := ⟨RX1, TX1, 20, "FieldLine$Device", tyX1, rfl, inG_X1, by decide, Or.inl (gk2 (List.mem_of_getElem? (i := 118) rfl) rfl), Or.inl rfl, tyX1_ok, nmX1, rfl, tyX1_ok 11 (by decide), fun _ => rfl⟩
set_option maxRecDepth 20000 in
theorem fl_X1_62_1 : FL RX1 62 1 12 := ⟨RX1, TX1, 20, "FieldLine$Device", rfl, inG_X1, by decide, Or.inl (gk2 (List.mem_of_getElem? (i := 121) rfl) rfl), Or.inl rfl⟩
set_option maxRecDepth 20000 in
theorem fp_X1_62_1 : FP RX1 62 1 12 (.object "FieldLine$Row") true := ⟨RX1, TX1, 20, "FieldLine$Device", tyX1, rfl, inG_X1, by decide, Or.inl (gk2 (List.mem_of_getElem? (i := 121) rfl) rfl), Or.inl rfl, tyX1_ok, nmX1, rfl, tyX1_ok 12 (by decide), fun _ => rfl⟩
set_option maxRecDepth 20000 in
theorem fl_X1_66_1 : FL RX1 66 1 13 := ⟨RX1, TX1, 20, "FieldLine$Device", rfl, inG_X1, by decide, Or.inl (gk2 (List.mem_of_getElem? (i := 122) rfl) rfl), Or.inl rfl⟩
set_option maxRecDepth 20000 in
theorem fp_X1_66_1 : FP RX1 66 1 13 (.array .int) true := ⟨RX1, TX1, 20, "FieldLine$Device", tyX1, rfl, inG_X1, by decide, Or.inl (gk2 (List.mem_of_getElem? (i := 122) rfl) rfl), Or.inl rfl, tyX1_ok, nmX1, rfl, tyX1_ok 13 (by decide), fun _ => rfl⟩
set_option maxRecDepth 20000 in
theorem fl_X1_69_1 : FL RX1 69 1 14 := ⟨RX1, TX1, 20, "FieldLine$Device", rfl, inG_X1, by decide, Or.inl (gk2 (List.mem_of_getElem? (i := 124) rfl) rfl), Or.inl rfl⟩
set_option maxRecDepth 20000 in
theorem fp_X1_69_1 : FP RX1 69 1 14 (.object "FieldLine$Row") true := ⟨RX1, TX1, 20, "FieldLine$Device", tyX1, rfl, inG_X1, by decide, Or.inl (gk2 (List.mem_of_getElem? (i := 124) rfl) rfl), Or.inl rfl, tyX1_ok, nmX1, rfl, tyX1_ok 14 (by decide), fun _ => rfl⟩
set_option maxRecDepth 20000 in
theorem fl_X1_75_1 : FL RX1 75 1 15 := ⟨RX1, TX1, 20, "FieldLine$Device", rfl, inG_X1, by decide, Or.inl (gk2 (List.mem_of_getElem? (i := 127) rfl) rfl), Or.inl rfl⟩
set_option maxRecDepth 20000 in
theorem fp_X1_75_1 : FP RX1 75 1 15 (.object "FieldLine$Station") true := ⟨RX1, TX1, 20, "FieldLine$Device", tyX1, rfl, inG_X1, by decide, Or.inl (gk2 (List.mem_of_getElem? (i := 127) rfl) rfl), Or.inl rfl, tyX1_ok, nmX1, rfl, tyX1_ok 15 (by decide), fun _ => rfl⟩
set_option maxRecDepth 20000 in
theorem fl_X1_79_1 : FL RX1 79 1 16 := ⟨RX1, TX1, 20, "FieldLine$Device", rfl, inG_X1, by decide, Or.inl (gk2 (List.mem_of_getElem? (i := 129) rfl) rfl), Or.inl rfl⟩
set_option maxRecDepth 20000 in
theorem fp_X1_79_1 : FP RX1 79 1 16 (.object "FieldLine$Row") true := ⟨RX1, TX1, 20, "FieldLine$Device", tyX1, rfl, inG_X1, by decide, Or.inl (gk2 (List.mem_of_getElem? (i := 129) rfl) rfl), Or.inl rfl, tyX1_ok, nmX1, rfl, tyX1_ok 16 (by decide), fun _ => rfl⟩
set_option maxRecDepth 20000 in
theorem fl_X1_82_1 : FL RX1 82 1 8 := ⟨RX1, TX1, 20, "FieldLine$Device", rfl, inG_X1, by decide, Or.inl (gk2 (List.mem_of_getElem? (i := 111) rfl) rfl), Or.inl rfl⟩
set_option maxRecDepth 20000 in
theorem fp_X1_82_1 : FP RX1 82 1 8 (.int) false := ⟨RX1, TX1, 20, "FieldLine$Device", tyX1, rfl, inG_X1, by decide, Or.inl (gk2 (List.mem_of_getElem? (i := 111) rfl) rfl), Or.inl rfl, tyX1_ok, nmX1, rfl, tyX1_ok 8 (by decide), fun h => nomatch h⟩
set_option maxRecDepth 20000 in
theorem fl_X1_96_1 : FL RX1 96 1 19 := ⟨RX1, TX1, 20, "FieldLine$Device", rfl, inG_X1, by decide, Or.inl (gk2 (List.mem_of_getElem? (i := 135) rfl) rfl), Or.inl rfl⟩
set_option maxRecDepth 20000 in
theorem fl_X1_107_7 : FL RX1 107 7 3 := ⟨RX9, TX9, 4, "FieldLine$Station", rfl, inG_X9, by decide, Or.inr ⟨"FieldLine", (nw_mem 183 (by decide +kernel) (by decide +kernel))⟩, Or.inl rfl⟩
set_option maxRecDepth 20000 in
theorem fl_X1_113_7 : FL RX1 113 7 0 := ⟨RX9, TX9, 4, "FieldLine$Station", rfl, inG_X9, by decide, Or.inr ⟨"FieldLine", (nw_mem 176 (by decide +kernel) (by decide +kernel))⟩, Or.inl rfl⟩
set_option maxRecDepth 20000 in
theorem fl_X1_119_4 : FL RX1 119 4 1 := ⟨RX4, TX4, 2, "FieldLine$Row", rfl, inG_X4, by decide, Or.inr ⟨"FieldLine", (nw_mem 94 (by decide +kernel) (by decide +kernel))⟩, Or.inl rfl⟩
set_option maxRecDepth 20000 in
theorem fp_X1_126_1 : FP RX1 126 1 17 (.int) false := ⟨RX1, TX1, 20, "FieldLine$Device", tyX1, rfl, inG_X1, by decide, Or.inl (gk2 (List.mem_of_getElem? (i := 131) rfl) rfl), Or.inl rfl, tyX1_ok, nmX1, rfl, tyX1_ok 17 (by decide), fun h => nomatch h⟩
set_option maxRecDepth 20000 in
theorem fp_X2_14_2 : FP RX2 14 2 0 (.object "FieldLine$Row") true := ⟨RX2, TX2, 6, "FieldLine$Job", tyX2, rfl, inG_X2, by decide, Or.inl (gk3 (List.mem_of_getElem? (i := 234) rfl) rfl), Or.inl rfl, tyX2_ok, nmX2, rfl, tyX2_ok 0 (by decide), fun _ => rfl⟩
set_option maxRecDepth 20000 in
theorem fl_X3_12_3 : FL RX3 12 3 0 := ⟨RX3, TX3, 17, "FieldLine$Master", rfl, inG_X3, by decide, Or.inl (gk1 (List.mem_of_getElem? (i := 149) rfl) rfl), Or.inl rfl⟩
set_option maxRecDepth 20000 in
theorem fp_X3_12_3 : FP RX3 12 3 0 (.object "FieldLine$Station") true := ⟨RX3, TX3, 17, "FieldLine$Master", tyX3, rfl, inG_X3, by decide, Or.inl (gk1 (List.mem_of_getElem? (i := 149) rfl) rfl), Or.inl rfl, tyX3_ok, nmX3, rfl, tyX3_ok 0 (by decide), fun _ => rfl⟩
set_option maxRecDepth 20000 in
theorem fl_X3_18_3 : FL RX3 18 3 1 := ⟨RX3, TX3, 17, "FieldLine$Master", rfl, inG_X3, by decide, Or.inl (gk1 (List.mem_of_getElem? (i := 151) rfl) rfl), Or.inl rfl⟩
set_option maxRecDepth 20000 in
theorem fp_X3_18_3 : FP RX3 18 3 1 (.int) false := ⟨RX3, TX3, 17, "FieldLine$Master", tyX3, rfl, inG_X3, by decide, Or.inl (gk1 (List.mem_of_getElem? (i := 151) rfl) rfl), Or.inl rfl, tyX3_ok, nmX3, rfl, tyX3_ok 1 (by decide), fun h => nomatch h⟩
set_option maxRecDepth 20000 in
theorem fl_X3_22_3 : FL RX3 22 3 3 := ⟨RX3, TX3, 17, "FieldLine$Master", rfl, inG_X3, by decide, Or.inl (gk1 (List.mem_of_getElem? (i := 155) rfl) rfl), Or.inl rfl⟩
set_option maxRecDepth 20000 in
theorem fp_X3_22_3 : FP RX3 22 3 3 (.int) false := ⟨RX3, TX3, 17, "FieldLine$Master", tyX3, rfl, inG_X3, by decide, Or.inl (gk1 (List.mem_of_getElem? (i := 155) rfl) rfl), Or.inl rfl, tyX3_ok, nmX3, rfl, tyX3_ok 3 (by decide), fun h => nomatch h⟩
set_option maxRecDepth 20000 in
theorem fl_X3_25_3 : FL RX3 25 3 4 := ⟨RX3, TX3, 17, "FieldLine$Master", rfl, inG_X3, by decide, Or.inl (gk1 (List.mem_of_getElem? (i := 157) rfl) rfl), Or.inl rfl⟩
set_option maxRecDepth 20000 in
theorem fp_X3_25_3 : FP RX3 25 3 4 (.int) false := ⟨RX3, TX3, 17, "FieldLine$Master", tyX3, rfl, inG_X3, by decide, Or.inl (gk1 (List.mem_of_getElem? (i := 157) rfl) rfl), Or.inl rfl, tyX3_ok, nmX3, rfl, tyX3_ok 4 (by decide), fun h => nomatch h⟩
set_option maxRecDepth 20000 in
theorem fl_X3_28_3 : FL RX3 28 3 5 := ⟨RX3, TX3, 17, "FieldLine$Master", rfl, inG_X3, by decide, Or.inl (gk1 (List.mem_of_getElem? (i := 159) rfl) rfl), Or.inl rfl⟩
set_option maxRecDepth 20000 in
theorem fp_X3_28_3 : FP RX3 28 3 5 (.int) false := ⟨RX3, TX3, 17, "FieldLine$Master", tyX3, rfl, inG_X3, by decide, Or.inl (gk1 (List.mem_of_getElem? (i := 159) rfl) rfl), Or.inl rfl, tyX3_ok, nmX3, rfl, tyX3_ok 5 (by decide), fun h => nomatch h⟩
set_option maxRecDepth 20000 in
theorem fl_X3_33_3 : FL RX3 33 3 6 := ⟨RX3, TX3, 17, "FieldLine$Master", rfl, inG_X3, by decide, Or.inl (gk1 (List.mem_of_getElem? (i := 161) rfl) rfl), Or.inl rfl⟩
set_option maxRecDepth 20000 in
theorem fp_X3_33_3 : FP RX3 33 3 6 (.array (.object "FieldLine$Job")) true := ⟨RX3, TX3, 17, "FieldLine$Master", tyX3, rfl, inG_X3, by decide, Or.inl (gk1 (List.mem_of_getElem? (i := 161) rfl) rfl), Or.inl rfl, tyX3_ok, nmX3, rfl, tyX3_ok 6 (by decide), fun _ => rfl⟩
set_option maxRecDepth 20000 in
theorem fl_X3_37_3 : FL RX3 37 3 10 := ⟨RX3, TX3, 17, "FieldLine$Master", rfl, inG_X3, by decide, Or.inl (gk1 (List.mem_of_getElem? (i := 166) rfl) rfl), Or.inl rfl⟩
set_option maxRecDepth 20000 in
theorem fp_X3_37_3 : FP RX3 37 3 10 (.array (.object "FieldLine$Job")) true := ⟨RX3, TX3, 17, "FieldLine$Master", tyX3, rfl, inG_X3, by decide, Or.inl (gk1 (List.mem_of_getElem? (i := 166) rfl) rfl), Or.inl rfl, tyX3_ok, nmX3, rfl, tyX3_ok 10 (by decide), fun _ => rfl⟩
set_option maxRecDepth 20000 in
theorem fl_X3_42_3 : FL RX3 42 3 15 := ⟨RX3, TX3, 17, "FieldLine$Master", rfl, inG_X3, by decide, Or.inl (gk1 (List.mem_of_getElem? (i := 174) rfl) rfl), Or.inl rfl⟩
set_option maxRecDepth 20000 in
theorem fp_X3_42_3 : FP RX3 42 3 15 (.array (.object "FieldLine$Scan")) true := ⟨RX3, TX3, 17, "FieldLine$Master", tyX3, rfl, inG_X3, by decide, Or.inl (gk1 (List.mem_of_getElem? (i := 174) rfl) rfl), Or.inl rfl, tyX3_ok, nmX3, rfl, tyX3_ok 15 (by decide), fun _ => rfl⟩
set_option maxRecDepth 20000 in
theorem fl_X3_46_3 : FL RX3 46 3 8 := ⟨RX3, TX3, 17, "FieldLine$Master", rfl, inG_X3, by decide, Or.inl (gk1 (List.mem_of_getElem? (i := 163) rfl) rfl), Or.inl rfl⟩
set_option maxRecDepth 20000 in
theorem fp_X3_46_3 : FP RX3 46 3 8 (.int) false := ⟨RX3, TX3, 17, "FieldLine$Master", tyX3, rfl, inG_X3, by decide, Or.inl (gk1 (List.mem_of_getElem? (i := 163) rfl) rfl), Or.inl rfl, tyX3_ok, nmX3, rfl, tyX3_ok 8 (by decide), fun h => nomatch h⟩
set_option maxRecDepth 20000 in
theorem fl_X3_49_3 : FL RX3 49 3 7 := ⟨RX3, TX3, 17, "FieldLine$Master", rfl, inG_X3, by decide, Or.inl (gk1 (List.mem_of_getElem? (i := 162) rfl) rfl), Or.inl rfl⟩
set_option maxRecDepth 20000 in
theorem fp_X3_49_3 : FP RX3 49 3 7 (.int) false := ⟨RX3, TX3, 17, "FieldLine$Master", tyX3, rfl, inG_X3, by decide, Or.inl (gk1 (List.mem_of_getElem? (i := 162) rfl) rfl), Or.inl rfl, tyX3_ok, nmX3, rfl, tyX3_ok 7 (by decide), fun h => nomatch h⟩
set_option maxRecDepth 20000 in
theorem fl_X3_52_3 : FL RX3 52 3 12 := ⟨RX3, TX3, 17, "FieldLine$Master", rfl, inG_X3, by decide, Or.inl (gk1 (List.mem_of_getElem? (i := 168) rfl) rfl), Or.inl rfl⟩
set_option maxRecDepth 20000 in
theorem fp_X3_52_3 : FP RX3 52 3 12 (.int) false := ⟨RX3, TX3, 17, "FieldLine$Master", tyX3, rfl, inG_X3, by decide, Or.inl (gk1 (List.mem_of_getElem? (i := 168) rfl) rfl), Or.inl rfl, tyX3_ok, nmX3, rfl, tyX3_ok 12 (by decide), fun h => nomatch h⟩
set_option maxRecDepth 20000 in
theorem fl_X3_55_3 : FL RX3 55 3 11 := ⟨RX3, TX3, 17, "FieldLine$Master", rfl, inG_X3, by decide, Or.inl (gk1 (List.mem_of_getElem? (i := 167) rfl) rfl), Or.inl rfl⟩
set_option maxRecDepth 20000 in
theorem fp_X3_55_3 : FP RX3 55 3 11 (.int) false := ⟨RX3, TX3, 17, "FieldLine$Master", tyX3, rfl, inG_X3, by decide, Or.inl (gk1 (List.mem_of_getElem? (i := 167) rfl) rfl), Or.inl rfl, tyX3_ok, nmX3, rfl, tyX3_ok 11 (by decide), fun h => nomatch h⟩
set_option maxRecDepth 20000 in
theorem fl_X3_59_3 : FL RX3 59 3 9 := ⟨RX3, TX3, 17, "FieldLine$Master", rfl, inG_X3, by decide, Or.inl (gk1 (List.mem_of_getElem? (i := 165) rfl) rfl), Or.inl rfl⟩
set_option maxRecDepth 20000 in
theorem fp_X3_59_3 : FP RX3 59 3 9 (.int) false := ⟨RX3, TX3, 17, "FieldLine$Master", tyX3, rfl, inG_X3, by decide, Or.inl (gk1 (List.mem_of_getElem? (i := 165) rfl) rfl), Or.inl rfl, tyX3_ok, nmX3, rfl, tyX3_ok 9 (by decide), fun h => nomatch h⟩
set_option maxRecDepth 20000 in
theorem fl_X3_62_2 : FL RX3 62 2 1 := ⟨RX2, TX2, 6, "FieldLine$Job", rfl, inG_X2, by decide, Or.inr ⟨"FieldLine", (nw_mem 765 (by decide +kernel) (by decide +kernel))⟩, Or.inl rfl⟩
set_option maxRecDepth 20000 in
theorem fp_X3_62_2 : FP RX3 62 2 1 (.int) false := ⟨RX2, TX2, 6, "FieldLine$Job", tyX2, rfl, inG_X2, by decide, Or.inr ⟨rfl, "FieldLine", (nw_mem 765 (by decide +kernel) (by decide +kernel))⟩, Or.inl rfl, tyX2_ok, nmX2, rfl, tyX2_ok 1 (by decide), fun h => nomatch h⟩
set_option maxRecDepth 20000 in
theorem fl_X3_65_2 : FL RX3 65 2 2 := ⟨RX2, TX2, 6, "FieldLine$Job", rfl, inG_X2, by decide, Or.inr ⟨"FieldLine", (nw_mem 767 (by decide +kernel) (by decide +kernel))⟩, Or.inl rfl⟩
set_option maxRecDepth 20000 in
theorem fp_X3_65_2 : FP RX3 65 2 2 (.int) false := ⟨RX2, TX2, 6, "FieldLine$Job", tyX2, rfl, inG_X2, by decide, Or.inr ⟨rfl, "FieldLine", (nw_mem 767 (by decide +kernel) (by decide +kernel))⟩, Or.inl rfl, tyX2_ok, nmX2, rfl, tyX2_ok 2 (by decide), fun h => nomatch h⟩
set_option maxRecDepth 20000 in
theorem fl_X3_68_2 : FL RX3 68 2 3 := ⟨RX2, TX2, 6, "FieldLine$Job", rfl, inG_X2, by decide, Or.inr ⟨"FieldLine", (nw_mem 769 (by decide +kernel) (by decide +kernel))⟩, Or.inl rfl⟩
set_option maxRecDepth 20000 in
theorem fp_X3_68_2 : FP RX3 68 2 3 (.int) false := ⟨RX2, TX2, 6, "FieldLine$Job", tyX2, rfl, inG_X2, by decide, Or.inr ⟨rfl, "FieldLine", (nw_mem 769 (by decide +kernel) (by decide +kernel))⟩, Or.inl rfl, tyX2_ok, nmX2, rfl, tyX2_ok 3 (by decide), fun h => nomatch h⟩
set_option maxRecDepth 20000 in
theorem fl_X3_71_2 : FL RX3 71 2 0 := ⟨RX2, TX2, 6, "FieldLine$Job", rfl, inG_X2, by decide, Or.inr ⟨"FieldLine", (nw_mem 763 (by decide +kernel) (by decide +kernel))⟩, Or.inl rfl⟩
set_option maxRecDepth 20000 in
theorem fl_X3_75_4 : FL RX3 75 4 1 := ⟨RX4, TX4, 2, "FieldLine$Row", rfl, inG_X4, by decide, Or.inr ⟨"FieldLine", (nw_mem 92 (by decide +kernel) (by decide +kernel))⟩, Or.inl rfl⟩
set_option maxRecDepth 20000 in
theorem fl_X3_84_3 : FL RX3 84 3 16 := ⟨RX3, TX3, 17, "FieldLine$Master", rfl, inG_X3, by decide, Or.inl (gk1 (List.mem_of_getElem? (i := 175) rfl) rfl), Or.inl rfl⟩
set_option maxRecDepth 20000 in
theorem fp_X3_84_3 : FP RX3 84 3 16 (.int) false := ⟨RX3, TX3, 17, "FieldLine$Master", tyX3, rfl, inG_X3, by decide, Or.inl (gk1 (List.mem_of_getElem? (i := 175) rfl) rfl), Or.inl rfl, tyX3_ok, nmX3, rfl, tyX3_ok 16 (by decide), fun h => nomatch h⟩
set_option maxRecDepth 20000 in
theorem fl_X3_90_5 : FL RX3 90 5 3 := ⟨RX5, TX5, 5, "FieldLine$Scan", rfl, inG_X5, by decide, Or.inr ⟨"FieldLine", (nw_mem 812 (by decide +kernel) (by decide +kernel))⟩, Or.inl rfl⟩
set_option maxRecDepth 20000 in
theorem fp_X3_90_5 : FP RX3 90 5 3 (.int) false := ⟨RX5, TX5, 5, "FieldLine$Scan", tyX5, rfl, inG_X5, by decide, Or.inr ⟨rfl, "FieldLine", (nw_mem 812 (by decide +kernel) (by decide +kernel))⟩, Or.inl rfl, tyX5_ok, nmX5, rfl, tyX5_ok 3 (by decide), fun h => nomatch h⟩
set_option maxRecDepth 20000 in
theorem fl_X3_93_5 : FL RX3 93 5 1 := ⟨RX5, TX5, 5, "FieldLine$Scan", rfl, inG_X5, by decide, Or.inr ⟨"FieldLine", (nw_mem 808 (by decide +kernel) (by decide +kernel))⟩, Or.inl rfl⟩
set_option maxRecDepth 20000 in
theorem fl_X3_96_5 : FL RX3 96 5 4 := ⟨RX5, TX5, 5, "FieldLine$Scan", rfl, inG_X5, by decide, Or.inr ⟨"FieldLine", (nw_mem 814 (by decide +kernel) (by decide +kernel))⟩, Or.inl rfl⟩
set_option maxRecDepth 20000 in
theorem fp_X3_96_5 : FP RX3 96 5 4 (.int) false := ⟨RX5, TX5, 5, "FieldLine$Scan", tyX5, rfl, inG_X5, by decide, Or.inr ⟨rfl, "FieldLine", (nw_mem 814 (by decide +kernel) (by decide +kernel))⟩, Or.inl rfl, tyX5_ok, nmX5, rfl, tyX5_ok 4 (by decide), fun h => nomatch h⟩
set_option maxRecDepth 20000 in
theorem fl_X3_103_5 : FL RX3 103 5 2 := ⟨RX5, TX5, 5, "FieldLine$Scan", rfl, inG_X5, by decide, Or.inr ⟨"FieldLine", (nw_mem 810 (by decide +kernel) (by decide +kernel))⟩, Or.inl rfl⟩
set_option maxRecDepth 20000 in
theorem fl_X3_104_5 : FL RX3 104 5 0 := ⟨RX5, TX5, 5, "FieldLine$Scan", rfl, inG_X5, by decide, Or.inr ⟨"FieldLine", (nw_mem 806 (by decide +kernel) (by decide +kernel))⟩, Or.inl rfl⟩
set_option maxRecDepth 20000 in
theorem fl_X3_109_3 : FL RX3 109 3 2 := ⟨RX3, TX3, 17, "FieldLine$Master", rfl, inG_X3, by decide, Or.inl (gk1 (List.mem_of_getElem? (i := 153) rfl) rfl), Or.inl rfl⟩
set_option maxRecDepth 20000 in
theorem fp_X3_109_3 : FP RX3 109 3 2 (.int) false := ⟨RX3, TX3, 17, "FieldLine$Master", tyX3, rfl, inG_X3, by decide, Or.inl (gk1 (List.mem_of_getElem? (i := 153) rfl) rfl), Or.inl rfl, tyX3_ok, nmX3, rfl, tyX3_ok 2 (by decide), fun h => nomatch h⟩
set_option maxRecDepth 20000 in
theorem fl_X3_120_7 : FL RX3 120 7 0 := ⟨RX9, TX9, 4, "FieldLine$Station", rfl, inG_X9, by decide, Or.inr ⟨"FieldLine", (nw_mem 177 (by decide +kernel) (by decide +kernel))⟩, Or.inl rfl⟩
set_option maxRecDepth 20000 in
theorem fl_X3_127_3 : FL RX3 127 3 14 := ⟨RX3, TX3, 17, "FieldLine$Master", rfl, inG_X3, by decide, Or.inl (gk1 (List.mem_of_getElem? (i := 172) rfl) rfl), Or.inl rfl⟩
set_option maxRecDepth 20000 in
theorem fp_X3_127_3 : FP RX3 127 3 14 (.int) false := ⟨RX3, TX3, 17, "FieldLine$Master", tyX3, rfl, inG_X3, by decide, Or.inl (gk1 (List.mem_of_getElem? (i := 172) rfl) rfl), Or.inl rfl, tyX3_ok, nmX3, rfl, tyX3_ok 14 (by decide), fun h => nomatch h⟩
set_option maxRecDepth 20000 in
theorem fl_X3_147_3 : FL RX3 147 3 13 := ⟨RX3, TX3, 17, "FieldLine$Master", rfl, inG_X3, by decide, Or.inl (gk1 (List.mem_of_getElem? (i := 170) rfl) rfl), Or.inl rfl⟩
set_option maxRecDepth 20000 in
theorem fp_X3_147_3 : FP RX3 147 3 13 (.int) false := ⟨RX3, TX3, 17, "FieldLine$Master", tyX3, rfl, inG_X3, by decide, Or.inl (gk1 (List.mem_of_getElem? (i := 170) rfl) rfl), Or.inl rfl, tyX3_ok, nmX3, rfl, tyX3_ok 13 (by decide), fun h => nomatch h⟩
set_option maxRecDepth 20000 in
theorem fp_X3_150_2 : FP RX3 150 2 4 (.int) false := ⟨RX2, TX2, 6, "FieldLine$Job", tyX2, rfl, inG_X2, by decide, Or.inr ⟨rfl, "FieldLine", (nw_mem 771 (by decide +kernel) (by decide +kernel))⟩, Or.inl rfl, tyX2_ok, nmX2, rfl, tyX2_ok 4 (by decide), fun h => nomatch h⟩
set_option maxRecDepth 20000 in
theorem fp_X3_153_2 : FP RX3 153 2 5 (.int) false := ⟨RX2, TX2, 6, "FieldLine$Job", tyX2, rfl, inG_X2, by decide, Or.inr ⟨rfl, "FieldLine", (nw_mem 773 (by decide +kernel) (by decide +kernel))⟩, Or.inl rfl, tyX2_ok, nmX2, rfl, tyX2_ok 5 (by decide), fun h => nomatch h⟩
set_option maxRecDepth 20000 in
theorem fl_X4_9_4 : FL RX4 9 4 0 := ⟨RX4, TX4, 2, "FieldLine$Row", rfl, inG_X4, by decide, Or.inl (gk1 (List.mem_of_getElem? (i := 37) rfl) rfl), Or.inl rfl⟩
set_option maxRecDepth 20000 in
theorem fp_X4_9_4 : FP RX4 9 4 0 (.array .int) true := ⟨RX4, TX4, 2, "FieldLine$Row", tyX4, rfl, inG_X4, by decide, Or.inl (gk1 (List.mem_of_getElem? (i := 37) rfl) rfl), Or.inl rfl, tyX4_ok, nmX4, rfl, tyX4_ok 0 (by decide), fun _ => rfl⟩
set_option maxRecDepth 20000 in
theorem fl_X4_15_4 : FL RX4 15 4 1 := ⟨RX4, TX4, 2, "FieldLine$Row", rfl, inG_X4, by decide, Or.inl (gk1 (List.mem_of_getElem? (i := 38) rfl) rfl), Or.inl rfl⟩
set_option maxRecDepth 20000 in
theorem fp_X4_15_4 : FP RX4 15 4 1 (.int) false := ⟨RX4, TX4, 2, "FieldLine$Row", tyX4, rfl, inG_X4, by decide, Or.inl (gk1 (List.mem_of_getElem? (i := 38) rfl) rfl), Or.inl rfl, tyX4_ok, nmX4, rfl, tyX4_ok 1 (by decide), fun h => nomatch h⟩
set_option maxRecDepth 20000 in
theorem fl_X5_14_5 : FL RX5 14 5 0 := ⟨RX5, TX5, 5, "FieldLine$Scan", rfl, inG_X5, by decide, Or.inl (gk4 (List.mem_of_getElem? (i := 37) rfl) rfl), Or.inl rfl⟩
set_option maxRecDepth 20000 in
theorem fp_X5_14_5 : FP RX5 14 5 0 (.object "FieldLine$Row") true := ⟨RX5, TX5, 5, "FieldLine$Scan", tyX5, rfl, inG_X5, by decide, Or.inl (gk4 (List.mem_of_getElem? (i := 37) rfl) rfl), Or.inl rfl, tyX5_ok, nmX5, rfl, tyX5_ok 0 (by decide), fun _ => rfl⟩
set_option maxRecDepth 20000 in
theorem fl_X5_20_4 : FL RX5 20 4 1 := ⟨RX4, TX4, 2, "FieldLine$Row", rfl, inG_X4, by decide, Or.inr ⟨"FieldLine", (nw_mem 87 (by decide +kernel) (by decide +kernel))⟩, Or.inl rfl⟩
set_option maxRecDepth 20000 in
theorem fp_X5_28_5 : FP RX5 28 5 1 (.int) true := ⟨RX5, TX5, 5, "FieldLine$Scan", tyX5, rfl, inG_X5, by decide, Or.inl (gk4 (List.mem_of_getElem? (i := 39) rfl) rfl), Or.inl rfl, tyX5_ok, nmX5, rfl, tyX5_ok 1 (by decide), fun _ => rfl⟩
set_option maxRecDepth 20000 in
theorem fp_X5_31_5 : FP RX5 31 5 2 (.int) true := ⟨RX5, TX5, 5, "FieldLine$Scan", tyX5, rfl, inG_X5, by decide, Or.inl (gk4 (List.mem_of_getElem? (i := 41) rfl) rfl), Or.inl rfl, tyX5_ok, nmX5, rfl, tyX5_ok 2 (by decide), fun _ => rfl⟩
set_option maxRecDepth 20000 in
theorem fp_X5_34_5 : FP RX5 34 5 3 (.int) false := ⟨RX5, TX5, 5, "FieldLine$Scan", tyX5, rfl, inG_X5, by decide, Or.inl (gk4 (List.mem_of_getElem? (i := 43) rfl) rfl), Or.inl rfl, tyX5_ok, nmX5, rfl, tyX5_ok 3 (by decide), fun h => nomatch h⟩
set_option maxRecDepth 20000 in
theorem fp_X5_37_5 : FP RX5 37 5 4 (.int) false := ⟨RX5, TX5, 5, "FieldLine$Scan", tyX5, rfl, inG_X5, by decide, Or.inl (gk4 (List.mem_of_getElem? (i := 45) rfl) rfl), Or.inl rfl, tyX5_ok, nmX5, rfl, tyX5_ok 4 (by decide), fun h => nomatch h⟩
set_option maxRecDepth 20000 in
theorem fl_X6_14_1 : FL RX6 14 1 18 := ⟨RX1, TX1, 20, "FieldLine$Device", rfl, inG_X1, by decide, Or.inr ⟨"FieldLine", (nw_mem 421 (by decide +kernel) (by decide +kernel))⟩, Or.inl rfl⟩
set_option maxRecDepth 20000 in
theorem fp_X6_14_1 : FP RX6 14 1 18 (.int) false := ⟨RX1, TX1, 20, "FieldLine$Device", tyX1, rfl, inG_X1, by decide, Or.inr ⟨rfl, "FieldLine", (nw_mem 421 (by decide +kernel) (by decide +kernel))⟩, Or.inl rfl, tyX1_ok, nmX1, rfl, tyX1_ok 18 (by decide), fun h => nomatch h⟩
set_option maxRecDepth 20000 in
theorem fl_X6_57_1 : FL RX6 57 1 3 := ⟨RX1, TX1, 20, "FieldLine$Device", rfl, inG_X1, by decide, Or.inr ⟨"FieldLine", (nw_mem 391 (by decide +kernel) (by decide +kernel))⟩, Or.inl rfl⟩
set_option maxRecDepth 20000 in
theorem fl_X6_67_1 : FL RX6 67 1 4 := ⟨RX1, TX1, 20, "FieldLine$Device", rfl, inG_X1, by decide, Or.inr ⟨"FieldLine", (nw_mem 393 (by decide +kernel) (by decide +kernel))⟩, Or.inl rfl⟩
set_option maxRecDepth 20000 in
theorem fl_X6_70_1 : FL RX6 70 1 5 := ⟨RX1, TX1, 20, "FieldLine$Device", rfl, inG_X1, by decide, Or.inr ⟨"FieldLine", (nw_mem 395 (by decide +kernel) (by decide +kernel))⟩, Or.inl rfl⟩
set_option maxRecDepth 20000 in
theorem fl_X6_73_1 : FL RX6 73 1 6 := ⟨RX1, TX1, 20, "FieldLine$Device", rfl, inG_X1, by decide, Or.inr ⟨"FieldLine", (nw_mem 397 (by decide +kernel) (by decide +kernel))⟩, Or.inl rfl⟩
set_option maxRecDepth 20000 in
theorem fl_X6_94_1 : FL RX6 94 1 11 := ⟨RX1, TX1, 20, "FieldLine$Device", rfl, inG_X1, by decide, Or.inr ⟨"FieldLine", (nw_mem 407 (by decide +kernel) (by decide +kernel))⟩, Or.inl rfl⟩
set_option maxRecDepth 20000 in
theorem fl_X6_104_4 : FL RX6 104 4 1 := ⟨RX4, TX4, 2, "FieldLine$Row", rfl, inG_X4, by decide, Or.inr ⟨"FieldLine", (nw_mem 93 (by decide +kernel) (by decide +kernel))⟩, Or.inl rfl⟩
set_option maxRecDepth 20000 in
theorem fl_X6_107_1 : FL RX6 107 1 9 := ⟨RX1, TX1, 20, "FieldLine$Device", rfl, inG_X1, by decide, Or.inr ⟨"FieldLine", (nw_mem 401 (by decide +kernel) (by decide +kernel))⟩, Or.inl rfl⟩
set_option maxRecDepth 20000 in
theorem fl_X6_120_1 : FL RX6 120 1 10 := ⟨RX1, TX1, 20, "FieldLine$Device", rfl, inG_X1, by decide, Or.inr ⟨"FieldLine", (nw_mem 404 (by decide +kernel) (by decide +kernel))⟩, Or.inl rfl⟩
set_option maxRecDepth 20000 in
theorem fl_X6_153_0 : FL RX6 153 0 2 := ⟨RX0, TX0, 4, "FieldLine$Bank", rfl, inG_X0, by decide, Or.inr ⟨"FieldLine", (nw_mem 348 (by decide +kernel) (by decide +kernel))⟩, Or.inl rfl⟩
set_option maxRecDepth 20000 in
theorem fl_X6_169_1 : FL RX6 169 1 0 := ⟨RX1, TX1, 20, "FieldLine$Device", rfl, inG_X1, by decide, Or.inr ⟨"FieldLine", (nw_mem 386 (by decide +kernel) (by decide +kernel))⟩, Or.inl rfl⟩
set_option maxRecDepth 20000 in
theorem fl_X6_186_1 : FL RX6 186 1 14 := ⟨RX1, TX1, 20, "FieldLine$Device", rfl, inG_X1, by decide, Or.inr ⟨"FieldLine", (nw_mem 413 (by decide +kernel) (by decide +kernel))⟩, Or.inl rfl⟩
set_option maxRecDepth 20000 in
theorem fp_X6_193_1 : FP RX6 193 1 19 (.boolean) false := ⟨RX1, TX1, 20, "FieldLine$Device", tyX1, rfl, inG_X1, by decide, Or.inr ⟨rfl, "FieldLine", (nw_mem 424 (by decide +kernel) (by decide +kernel))⟩, Or.inl rfl, tyX1_ok, nmX1, rfl, tyX1_ok 19 (by decide), fun h => nomatch h⟩
set_option maxRecDepth 20000 in
theorem fl_X6_197_1 : FL RX6 197 1 13 := ⟨RX1, TX1, 20, "FieldLine$Device", rfl, inG_X1, by decide, Or.inr ⟨"FieldLine", (nw_mem 411 (by decide +kernel) (by decide +kernel))⟩, Or.inl rfl⟩
set_option maxRecDepth 20000 in
theorem fl_X7_9_4 : FL RX7 9 4 1 := ⟨RX4, TX4, 2, "FieldLine$Row", rfl, inG_X4, by decide, Or.inr ⟨"FieldLine", (nw_mem 88 (by decide +kernel) (by decide +kernel))⟩, Or.inl rfl⟩
set_option maxRecDepth 20000 in
theorem fl_X8_9_6 : FL RX8 9 6 0 := ⟨RX8, TX8, 4, "FieldLine$Shelf", rfl, inG_X8, by decide, Or.inl (gk2 (List.mem_of_getElem? (i := 80) rfl) rfl), Or.inl rfl⟩
set_option maxRecDepth 20000 in
theorem fp_X8_9_6 : FP RX8 9 6 0 (.array .int) true := ⟨RX8, TX8, 4, "FieldLine$Shelf", tyX8, rfl, inG_X8, by decide, Or.inl (gk2 (List.mem_of_getElem? (i := 80) rfl) rfl), Or.inl rfl, tyX8_ok, nmX8, rfl, tyX8_ok 0 (by decide), fun _ => rfl⟩
set_option maxRecDepth 20000 in
theorem fl_X8_17_6 : FL RX8 17 6 1 := ⟨RX8, TX8, 4, "FieldLine$Shelf", rfl, inG_X8, by decide, Or.inl (gk2 (List.mem_of_getElem? (i := 81) rfl) rfl), Or.inl rfl⟩
set_option maxRecDepth 20000 in
theorem fp_X8_17_6 : FP RX8 17 6 1 (.array (.object "FieldLine$Row")) true := ⟨RX8, TX8, 4, "FieldLine$Shelf", tyX8, rfl, inG_X8, by decide, Or.inl (gk2 (List.mem_of_getElem? (i := 81) rfl) rfl), Or.inl rfl, tyX8_ok, nmX8, rfl, tyX8_ok 1 (by decide), fun _ => rfl⟩
set_option maxRecDepth 20000 in
theorem fl_X8_21_6 : FL RX8 21 6 2 := ⟨RX8, TX8, 4, "FieldLine$Shelf", rfl, inG_X8, by decide, Or.inl (gk2 (List.mem_of_getElem? (i := 82) rfl) rfl), Or.inl rfl⟩
set_option maxRecDepth 20000 in
theorem fp_X8_21_6 : FP RX8 21 6 2 (.int) true := ⟨RX8, TX8, 4, "FieldLine$Shelf", tyX8, rfl, inG_X8, by decide, Or.inl (gk2 (List.mem_of_getElem? (i := 82) rfl) rfl), Or.inl rfl, tyX8_ok, nmX8, rfl, tyX8_ok 2 (by decide), fun _ => rfl⟩
set_option maxRecDepth 20000 in
theorem fl_X8_25_6 : FL RX8 25 6 3 := ⟨RX8, TX8, 4, "FieldLine$Shelf", rfl, inG_X8, by decide, Or.inl (gk2 (List.mem_of_getElem? (i := 83) rfl) rfl), Or.inl rfl⟩
set_option maxRecDepth 20000 in
theorem fp_X8_25_6 : FP RX8 25 6 3 (.int) false := ⟨RX8, TX8, 4, "FieldLine$Shelf", tyX8, rfl, inG_X8, by decide, Or.inl (gk2 (List.mem_of_getElem? (i := 83) rfl) rfl), Or.inl rfl, tyX8_ok, nmX8, rfl, tyX8_ok 3 (by decide), fun h => nomatch h⟩
set_option maxRecDepth 20000 in
theorem fl_X9_14_7 : FL RX9 14 7 0 := ⟨RX9, TX9, 4, "FieldLine$Station", rfl, inG_X9, by decide, Or.inl (gk1 (List.mem_of_getElem? (i := 127) rfl) rfl), Or.inl rfl⟩
set_option maxRecDepth 20000 in
theorem fp_X9_14_7 : FP RX9 14 7 0 (.object "FieldLine$Row") true := ⟨RX9, TX9, 4, "FieldLine$Station", tyX9, rfl, inG_X9, by decide, Or.inl (gk1 (List.mem_of_getElem? (i := 127) rfl) rfl), Or.inl rfl, tyX9_ok, nmX9, rfl, tyX9_ok 0 (by decide), fun _ => rfl⟩
set_option maxRecDepth 20000 in
theorem fl_X9_20_7 : FL RX9 20 7 1 := ⟨RX9, TX9, 4, "FieldLine$Station", rfl, inG_X9, by decide, Or.inl (gk1 (List.mem_of_getElem? (i := 131) rfl) rfl), Or.inl rfl⟩
set_option maxRecDepth 20000 in
theorem fp_X9_20_7 : FP RX9 20 7 1 (.int) false := ⟨RX9, TX9, 4, "FieldLine$Station", tyX9, rfl, inG_X9, by decide, Or.inl (gk1 (List.mem_of_getElem? (i := 131) rfl) rfl), Or.inl rfl, tyX9_ok, nmX9, rfl, tyX9_ok 1 (by decide), fun h => nomatch h⟩
set_option maxRecDepth 20000 in
theorem fl_X9_24_7 : FL RX9 24 7 2 := ⟨RX9, TX9, 4, "FieldLine$Station", rfl, inG_X9, by decide, Or.inl (gk1 (List.mem_of_getElem? (i := 132) rfl) rfl), Or.inl rfl⟩
set_option maxRecDepth 20000 in
theorem fp_X9_24_7 : FP RX9 24 7 2 (.boolean) false := ⟨RX9, TX9, 4, "FieldLine$Station", tyX9, rfl, inG_X9, by decide, Or.inl (gk1 (List.mem_of_getElem? (i := 132) rfl) rfl), Or.inl rfl, tyX9_ok, nmX9, rfl, tyX9_ok 2 (by decide), fun h => nomatch h⟩
set_option maxRecDepth 20000 in
theorem fp_X9_28_7 : FP RX9 28 7 3 (.boolean) false := ⟨RX9, TX9, 4, "FieldLine$Station", tyX9, rfl, inG_X9, by decide, Or.inl (gk1 (List.mem_of_getElem? (i := 134) rfl) rfl), Or.inl rfl, tyX9_ok, nmX9, rfl, tyX9_ok 3 (by decide), fun h => nomatch h⟩
set_option maxRecDepth 20000 in
theorem fl_X9_31_4 : FL RX9 31 4 1 := ⟨RX4, TX4, 2, "FieldLine$Row", rfl, inG_X4, by decide, Or.inr ⟨"FieldLine", (nw_mem 90 (by decide +kernel) (by decide +kernel))⟩, Or.inl rfl⟩
set_option maxRecDepth 20000 in
theorem fl_X10_14_8 : FL RX10 14 8 0 := ⟨RX10, TX10, 14, "FieldLine$Wire", rfl, inG_X10, by decide, Or.inl (gk1 (List.mem_of_getElem? (i := 63) rfl) rfl), Or.inl rfl⟩
set_option maxRecDepth 20000 in
theorem fp_X10_14_8 : FP RX10 14 8 0 (.object "FieldLine$Row") true := ⟨RX10, TX10, 14, "FieldLine$Wire", tyX10, rfl, inG_X10, by decide, Or.inl (gk1 (List.mem_of_getElem? (i := 63) rfl) rfl), Or.inl rfl, tyX10_ok, nmX10, rfl, tyX10_ok 0 (by decide), fun _ => rfl⟩
set_option maxRecDepth 20000 in
theorem fl_X10_20_8 : FL RX10 20 8 1 := ⟨RX10, TX10, 14, "FieldLine$Wire", rfl, inG_X10, by decide, Or.inl (gk1 (List.mem_of_getElem? (i := 65) rfl) rfl), Or.inl rfl⟩
set_option maxRecDepth 20000 in
theorem fp_X10_20_8 : FP RX10 20 8 1 (.int) false := ⟨RX10, TX10, 14, "FieldLine$Wire", tyX10, rfl, inG_X10, by decide, Or.inl (gk1 (List.mem_of_getElem? (i := 65) rfl) rfl), Or.inl rfl, tyX10_ok, nmX10, rfl, tyX10_ok 1 (by decide), fun h => nomatch h⟩
set_option maxRecDepth 20000 in
theorem fl_X10_24_8 : FL RX10 24 8 2 := ⟨RX10, TX10, 14, "FieldLine$Wire", rfl, inG_X10, by decide, Or.inl (gk1 (List.mem_of_getElem? (i := 67) rfl) rfl), Or.inl rfl⟩
set_option maxRecDepth 20000 in
theorem fp_X10_24_8 : FP RX10 24 8 2 (.int) false := ⟨RX10, TX10, 14, "FieldLine$Wire", tyX10, rfl, inG_X10, by decide, Or.inl (gk1 (List.mem_of_getElem? (i := 67) rfl) rfl), Or.inl rfl, tyX10_ok, nmX10, rfl, tyX10_ok 2 (by decide), fun h => nomatch h⟩
set_option maxRecDepth 20000 in
theorem fl_X10_27_8 : FL RX10 27 8 11 := ⟨RX10, TX10, 14, "FieldLine$Wire", rfl, inG_X10, by decide, Or.inl (gk1 (List.mem_of_getElem? (i := 80) rfl) rfl), Or.inl rfl⟩
set_option maxRecDepth 20000 in
theorem fp_X10_27_8 : FP RX10 27 8 11 (.array .int) true := ⟨RX10, TX10, 14, "FieldLine$Wire", tyX10, rfl, inG_X10, by decide, Or.inl (gk1 (List.mem_of_getElem? (i := 80) rfl) rfl), Or.inl rfl, tyX10_ok, nmX10, rfl, tyX10_ok 11 (by decide), fun _ => rfl⟩
set_option maxRecDepth 20000 in
theorem fl_X10_31_8 : FL RX10 31 8 12 := ⟨RX10, TX10, 14, "FieldLine$Wire", rfl, inG_X10, by decide, Or.inl (gk1 (List.mem_of_getElem? (i := 81) rfl) rfl), Or.inl rfl⟩
set_option maxRecDepth 20000 in
theorem fp_X10_31_8 : FP RX10 31 8 12 (.array .int) true := ⟨RX10, TX10, 14, "FieldLine$Wire", tyX10, rfl, inG_X10, by decide, Or.inl (gk1 (List.mem_of_getElem? (i := 81) rfl) rfl), Or.inl rfl, tyX10_ok, nmX10, rfl, tyX10_ok 12 (by decide), fun _ => rfl⟩
set_option maxRecDepth 20000 in
theorem fl_X10_40_4 : FL RX10 40 4 1 := ⟨RX4, TX4, 2, "FieldLine$Row", rfl, inG_X4, by decide, Or.inr ⟨"FieldLine", (nw_mem 91 (by decide +kernel) (by decide +kernel))⟩, Or.inl rfl⟩
set_option maxRecDepth 20000 in
theorem fl_X10_51_8 : FL RX10 51 8 3 := ⟨RX10, TX10, 14, "FieldLine$Wire", rfl, inG_X10, by decide, Or.inl (gk1 (List.mem_of_getElem? (i := 69) rfl) rfl), Or.inl rfl⟩
set_option maxRecDepth 20000 in
theorem fp_X10_51_8 : FP RX10 51 8 3 (.int) false := ⟨RX10, TX10, 14, "FieldLine$Wire", tyX10, rfl, inG_X10, by decide, Or.inl (gk1 (List.mem_of_getElem? (i := 69) rfl) rfl), Or.inl rfl, tyX10_ok, nmX10, rfl, tyX10_ok 3 (by decide), fun h => nomatch h⟩
set_option maxRecDepth 20000 in
theorem fl_X10_54_8 : FL RX10 54 8 5 := ⟨RX10, TX10, 14, "FieldLine$Wire", rfl, inG_X10, by decide, Or.inl (gk1 (List.mem_of_getElem? (i := 71) rfl) rfl), Or.inl rfl⟩
set_option maxRecDepth 20000 in
theorem fp_X10_54_8 : FP RX10 54 8 5 (.int) false := ⟨RX10, TX10, 14, "FieldLine$Wire", tyX10, rfl, inG_X10, by decide, Or.inl (gk1 (List.mem_of_getElem? (i := 71) rfl) rfl), Or.inl rfl, tyX10_ok, nmX10, rfl, tyX10_ok 5 (by decide), fun h => nomatch h⟩
set_option maxRecDepth 20000 in
theorem fl_X10_57_8 : FL RX10 57 8 4 := ⟨RX10, TX10, 14, "FieldLine$Wire", rfl, inG_X10, by decide, Or.inl (gk1 (List.mem_of_getElem? (i := 70) rfl) rfl), Or.inl rfl⟩
set_option maxRecDepth 20000 in
theorem fp_X10_57_8 : FP RX10 57 8 4 (.int) false := ⟨RX10, TX10, 14, "FieldLine$Wire", tyX10, rfl, inG_X10, by decide, Or.inl (gk1 (List.mem_of_getElem? (i := 70) rfl) rfl), Or.inl rfl, tyX10_ok, nmX10, rfl, tyX10_ok 4 (by decide), fun h => nomatch h⟩
set_option maxRecDepth 20000 in
theorem fl_X10_60_8 : FL RX10 60 8 10 := ⟨RX10, TX10, 14, "FieldLine$Wire", rfl, inG_X10, by decide, Or.inl (gk1 (List.mem_of_getElem? (i := 78) rfl) rfl), Or.inl rfl⟩
set_option maxRecDepth 20000 in
theorem fp_X10_60_8 : FP RX10 60 8 10 (.int) false := ⟨RX10, TX10, 14, "FieldLine$Wire", tyX10, rfl, inG_X10, by decide, Or.inl (gk1 (List.mem_of_getElem? (i := 78) rfl) rfl), Or.inl rfl, tyX10_ok, nmX10, rfl, tyX10_ok 10 (by decide), fun h => nomatch h⟩
set_option maxRecDepth 20000 in
theorem fl_X10_69_8 : FL RX10 69 8 6 := ⟨RX10, TX10, 14, "FieldLine$Wire", rfl, inG_X10, by decide, Or.inl (gk1 (List.mem_of_getElem? (i := 72) rfl) rfl), Or.inl rfl⟩
set_option maxRecDepth 20000 in
theorem fp_X10_69_8 : FP RX10 69 8 6 (.int) false := ⟨RX10, TX10, 14, "FieldLine$Wire", tyX10, rfl, inG_X10, by decide, Or.inl (gk1 (List.mem_of_getElem? (i := 72) rfl) rfl), Or.inl rfl, tyX10_ok, nmX10, rfl, tyX10_ok 6 (by decide), fun h => nomatch h⟩
set_option maxRecDepth 20000 in
theorem fl_X10_82_8 : FL RX10 82 8 8 := ⟨RX10, TX10, 14, "FieldLine$Wire", rfl, inG_X10, by decide, Or.inl (gk1 (List.mem_of_getElem? (i := 75) rfl) rfl), Or.inl rfl⟩
set_option maxRecDepth 20000 in
theorem fp_X10_82_8 : FP RX10 82 8 8 (.int) false := ⟨RX10, TX10, 14, "FieldLine$Wire", tyX10, rfl, inG_X10, by decide, Or.inl (gk1 (List.mem_of_getElem? (i := 75) rfl) rfl), Or.inl rfl, tyX10_ok, nmX10, rfl, tyX10_ok 8 (by decide), fun h => nomatch h⟩
set_option maxRecDepth 20000 in
theorem fp_X10_88_8 : FP RX10 88 8 7 (.int) false := ⟨RX10, TX10, 14, "FieldLine$Wire", tyX10, rfl, inG_X10, by decide, Or.inl (gk1 (List.mem_of_getElem? (i := 73) rfl) rfl), Or.inl rfl, tyX10_ok, nmX10, rfl, tyX10_ok 7 (by decide), fun h => nomatch h⟩
set_option maxRecDepth 20000 in
theorem fl_X10_91_8 : FL RX10 91 8 9 := ⟨RX10, TX10, 14, "FieldLine$Wire", rfl, inG_X10, by decide, Or.inl (gk1 (List.mem_of_getElem? (i := 76) rfl) rfl), Or.inl rfl⟩
set_option maxRecDepth 20000 in
theorem fp_X10_91_8 : FP RX10 91 8 9 (.int) false := ⟨RX10, TX10, 14, "FieldLine$Wire", tyX10, rfl, inG_X10, by decide, Or.inl (gk1 (List.mem_of_getElem? (i := 76) rfl) rfl), Or.inl rfl, tyX10_ok, nmX10, rfl, tyX10_ok 9 (by decide), fun h => nomatch h⟩
set_option maxRecDepth 20000 in
theorem fl_X10_97_8 : FL RX10 97 8 13 := ⟨RX10, TX10, 14, "FieldLine$Wire", rfl, inG_X10, by decide, Or.inl (gk1 (List.mem_of_getElem? (i := 82) rfl) rfl), Or.inl rfl⟩
set_option maxRecDepth 20000 in
theorem fp_X10_97_8 : FP RX10 97 8 13 (.int) false := ⟨RX10, TX10, 14, "FieldLine$Wire", tyX10, rfl, inG_X10, by decide, Or.inl (gk1 (List.mem_of_getElem? (i := 82) rfl) rfl), Or.inl rfl, tyX10_ok, nmX10, rfl, tyX10_ok 13 (by decide), fun h => nomatch h⟩
set_option maxRecDepth 20000 in
theorem fl_X15_9_13 : FL RX15 9 13 1 := ⟨RX15, TX15, 38, "FieldLineModel", rfl, inG_X15, by decide, Or.inl (gk6 (List.mem_of_getElem? (i := 106) rfl) rfl), Or.inl rfl⟩
set_option maxRecDepth 20000 in
theorem fp_X15_9_13 : FP RX15 9 13 1 (.array (.object "FieldLineModel$Device")) true := ⟨RX15, TX15, 38, "FieldLineModel", tyX15, rfl, inG_X15, by decide, Or.inl (gk6 (List.mem_of_getElem? (i := 106) rfl) rfl), Or.inl rfl, tyX15_ok, nmX15, rfl, tyX15_ok 1 (by decide), fun _ => rfl⟩
set_option maxRecDepth 20000 in
theorem fl_X15_15_13 : FL RX15 15 13 3 := ⟨RX15, TX15, 38, "FieldLineModel", rfl, inG_X15, by decide, Or.inl (gk6 (List.mem_of_getElem? (i := 108) rfl) rfl), Or.inl rfl⟩
set_option maxRecDepth 20000 in
theorem fp_X15_15_13 : FP RX15 15 13 3 (.array .int) true := ⟨RX15, TX15, 38, "FieldLineModel", tyX15, rfl, inG_X15, by decide, Or.inl (gk6 (List.mem_of_getElem? (i := 108) rfl) rfl), Or.inl rfl, tyX15_ok, nmX15, rfl, tyX15_ok 3 (by decide), fun _ => rfl⟩
set_option maxRecDepth 20000 in
theorem fl_X15_19_13 : FL RX15 19 13 5 := ⟨RX15, TX15, 38, "FieldLineModel", rfl, inG_X15, by decide, Or.inl (gk6 (List.mem_of_getElem? (i := 110) rfl) rfl), Or.inl rfl⟩
set_option maxRecDepth 20000 in
theorem fp_X15_19_13 : FP RX15 19 13 5 (.array .int) true := ⟨RX15, TX15, 38, "FieldLineModel", tyX15, rfl, inG_X15, by decide, Or.inl (gk6 (List.mem_of_getElem? (i := 110) rfl) rfl), Or.inl rfl, tyX15_ok, nmX15, rfl, tyX15_ok 5 (by decide), fun _ => rfl⟩
set_option maxRecDepth 20000 in
theorem fl_X15_25_13 : FL RX15 25 13 6 := ⟨RX15, TX15, 38, "FieldLineModel", rfl, inG_X15, by decide, Or.inl (gk6 (List.mem_of_getElem? (i := 111) rfl) rfl), Or.inl rfl⟩
set_option maxRecDepth 20000 in
theorem fp_X15_25_13 : FP RX15 25 13 6 (.object "FieldLineModel$Station") true := ⟨RX15, TX15, 38, "FieldLineModel", tyX15, rfl, inG_X15, by decide, Or.inl (gk6 (List.mem_of_getElem? (i := 111) rfl) rfl), Or.inl rfl, tyX15_ok, nmX15, rfl, tyX15_ok 6 (by decide), fun _ => rfl⟩
set_option maxRecDepth 20000 in
theorem fl_X15_29_13 : FL RX15 29 13 9 := ⟨RX15, TX15, 38, "FieldLineModel", rfl, inG_X15, by decide, Or.inl (gk6 (List.mem_of_getElem? (i := 114) rfl) rfl), Or.inl rfl⟩
set_option maxRecDepth 20000 in
theorem fp_X15_29_13 : FP RX15 29 13 9 (.int) false := ⟨RX15, TX15, 38, "FieldLineModel", tyX15, rfl, inG_X15, by decide, Or.inl (gk6 (List.mem_of_getElem? (i := 114) rfl) rfl), Or.inl rfl, tyX15_ok, nmX15, rfl, tyX15_ok 9 (by decide), fun h => nomatch h⟩
set_option maxRecDepth 20000 in
theorem fl_X15_33_13 : FL RX15 33 13 10 := ⟨RX15, TX15, 38, "FieldLineModel", rfl, inG_X15, by decide, Or.inl (gk6 (List.mem_of_getElem? (i := 115) rfl) rfl), Or.inl rfl⟩
set_option maxRecDepth 20000 in
theorem fp_X15_33_13 : FP RX15 33 13 10 (.int) false := ⟨RX15, TX15, 38, "FieldLineModel", tyX15, rfl, inG_X15, by decide, Or.inl (gk6 (List.mem_of_getElem? (i := 115) rfl) rfl), Or.inl rfl, tyX15_ok, nmX15, rfl, tyX15_ok 10 (by decide), fun h => nomatch h⟩
set_option maxRecDepth 20000 in
theorem fl_X15_36_13 : FL RX15 36 13 11 := ⟨RX15, TX15, 38, "FieldLineModel", rfl, inG_X15, by decide, Or.inl (gk6 (List.mem_of_getElem? (i := 116) rfl) rfl), Or.inl rfl⟩
set_option maxRecDepth 20000 in
theorem fp_X15_36_13 : FP RX15 36 13 11 (.int) false := ⟨RX15, TX15, 38, "FieldLineModel", tyX15, rfl, inG_X15, by decide, Or.inl (gk6 (List.mem_of_getElem? (i := 116) rfl) rfl), Or.inl rfl, tyX15_ok, nmX15, rfl, tyX15_ok 11 (by decide), fun h => nomatch h⟩
set_option maxRecDepth 20000 in
theorem fl_X15_44_13 : FL RX15 44 13 12 := ⟨RX15, TX15, 38, "FieldLineModel", rfl, inG_X15, by decide, Or.inl (gk6 (List.mem_of_getElem? (i := 117) rfl) rfl), Or.inl rfl⟩
set_option maxRecDepth 20000 in
theorem fp_X15_44_13 : FP RX15 44 13 12 (.object "FieldLineModel$Row") true := ⟨RX15, TX15, 38, "FieldLineModel", tyX15, rfl, inG_X15, by decide, Or.inl (gk6 (List.mem_of_getElem? (i := 117) rfl) rfl), Or.inl rfl, tyX15_ok, nmX15, rfl, tyX15_ok 12 (by decide), fun _ => rfl⟩
set_option maxRecDepth 20000 in
theorem fl_X15_48_13 : FL RX15 48 13 13 := ⟨RX15, TX15, 38, "FieldLineModel", rfl, inG_X15, by decide, Or.inl (gk6 (List.mem_of_getElem? (i := 118) rfl) rfl), Or.inl rfl⟩
set_option maxRecDepth 20000 in
theorem fp_X15_48_13 : FP RX15 48 13 13 (.object "FieldLineModel$Row") true := ⟨RX15, TX15, 38, "FieldLineModel", tyX15, rfl, inG_X15, by decide, Or.inl (gk6 (List.mem_of_getElem? (i := 118) rfl) rfl), Or.inl rfl, tyX15_ok, nmX15, rfl, tyX15_ok 13 (by decide), fun _ => rfl⟩
set_option maxRecDepth 20000 in
theorem fl_X15_51_13 : FL RX15 51 13 14 := ⟨RX15, TX15, 38, "FieldLineModel", rfl, inG_X15, by decide, Or.inl (gk6 (List.mem_of_getElem? (i := 119) rfl) rfl), Or.inl rfl⟩
set_option maxRecDepth 20000 in
theorem fp_X15_51_13 : FP RX15 51 13 14 (.object "FieldLineModel$Row") true := ⟨RX15, TX15, 38, "FieldLineModel", tyX15, rfl, inG_X15, by decide, Or.inl (gk6 (List.mem_of_getElem? (i := 119) rfl) rfl), Or.inl rfl, tyX15_ok, nmX15, rfl, tyX15_ok 14 (by decide), fun _ => rfl⟩
set_option maxRecDepth 20000 in
theorem fl_X15_54_13 : FL RX15 54 13 19 := ⟨RX15, TX15, 38, "FieldLineModel", rfl, inG_X15, by decide, Or.inl (gk6 (List.mem_of_getElem? (i := 124) rfl) rfl), Or.inl rfl⟩
set_option maxRecDepth 20000 in
theorem fp_X15_54_13 : FP RX15 54 13 19 (.int) false := ⟨RX15, TX15, 38, "FieldLineModel", tyX15, rfl, inG_X15, by decide, Or.inl (gk6 (List.mem_of_getElem? (i := 124) rfl) rfl), Or.inl rfl, tyX15_ok, nmX15, rfl, tyX15_ok 19 (by decide), fun h => nomatch h⟩
set_option maxRecDepth 20000 in
theorem fl_X15_57_13 : FL RX15 57 13 21 := ⟨RX15, TX15, 38, "FieldLineModel", rfl, inG_X15, by decide, Or.inl (gk6 (List.mem_of_getElem? (i := 126) rfl) rfl), Or.inl rfl⟩
set_option maxRecDepth 20000 in
theorem fp_X15_57_13 : FP RX15 57 13 21 (.array .int) true := ⟨RX15, TX15, 38, "FieldLineModel", tyX15, rfl, inG_X15, by decide, Or.inl (gk6 (List.mem_of_getElem? (i := 126) rfl) rfl), Or.inl rfl, tyX15_ok, nmX15, rfl, tyX15_ok 21 (by decide), fun _ => rfl⟩
set_option maxRecDepth 20000 in
theorem fl_X15_60_13 : FL RX15 60 13 31 := ⟨RX15, TX15, 38, "FieldLineModel", rfl, inG_X15, by decide, Or.inl (gk6 (List.mem_of_getElem? (i := 136) rfl) rfl), Or.inl rfl⟩
set_option maxRecDepth 20000 in
theorem fp_X15_60_13 : FP RX15 60 13 31 (.array .int) true := ⟨RX15, TX15, 38, "FieldLineModel", tyX15, rfl, inG_X15, by decide, Or.inl (gk6 (List.mem_of_getElem? (i := 136) rfl) rfl), Or.inl rfl, tyX15_ok, nmX15, rfl, tyX15_ok 31 (by decide), fun _ => rfl⟩
set_option maxRecDepth 20000 in
theorem fl_X15_63_13 : FL RX15 63 13 32 := ⟨RX15, TX15, 38, "FieldLineModel", rfl, inG_X15, by decide, Or.inl (gk6 (List.mem_of_getElem? (i := 137) rfl) rfl), Or.inl rfl⟩
set_option maxRecDepth 20000 in
theorem fp_X15_63_13 : FP RX15 63 13 32 (.array .int) true := ⟨RX15, TX15, 38, "FieldLineModel", tyX15, rfl, inG_X15, by decide, Or.inl (gk6 (List.mem_of_getElem? (i := 137) rfl) rfl), Or.inl rfl, tyX15_ok, nmX15, rfl, tyX15_ok 32 (by decide), fun _ => rfl⟩
set_option maxRecDepth 20000 in
theorem fl_X15_66_13 : FL RX15 66 13 34 := ⟨RX15, TX15, 38, "FieldLineModel", rfl, inG_X15, by decide, Or.inl (gk6 (List.mem_of_getElem? (i := 139) rfl) rfl), Or.inl rfl⟩
set_option maxRecDepth 20000 in
theorem fp_X15_66_13 : FP RX15 66 13 34 (.array .int) true := ⟨RX15, TX15, 38, "FieldLineModel", tyX15, rfl, inG_X15, by decide, Or.inl (gk6 (List.mem_of_getElem? (i := 139) rfl) rfl), Or.inl rfl, tyX15_ok, nmX15, rfl, tyX15_ok 34 (by decide), fun _ => rfl⟩
set_option maxRecDepth 20000 in
theorem fl_X15_69_13 : FL RX15 69 13 36 := ⟨RX15, TX15, 38, "FieldLineModel", rfl, inG_X15, by decide, Or.inl (gk6 (List.mem_of_getElem? (i := 141) rfl) rfl), Or.inl rfl⟩
set_option maxRecDepth 20000 in
theorem fp_X15_69_13 : FP RX15 69 13 36 (.array .int) true := ⟨RX15, TX15, 38, "FieldLineModel", tyX15, rfl, inG_X15, by decide, Or.inl (gk6 (List.mem_of_getElem? (i := 141) rfl) rfl), Or.inl rfl, tyX15_ok, nmX15, rfl, tyX15_ok 36 (by decide), fun _ => rfl⟩
set_option maxRecDepth 20000 in
theorem fl_X15_73_13 : FL RX15 73 13 0 := ⟨RX15, TX15, 38, "FieldLineModel", rfl, inG_X15, by decide, Or.inl (gk6 (List.mem_of_getElem? (i := 105) rfl) rfl), Or.inl rfl⟩
set_option maxRecDepth 20000 in
theorem fp_X15_73_13 : FP RX15 73 13 0 (.int) false := ⟨RX15, TX15, 38, "FieldLineModel", tyX15, rfl, inG_X15, by decide, Or.inl (gk6 (List.mem_of_getElem? (i := 105) rfl) rfl), Or.inl rfl, tyX15_ok, nmX15, rfl, tyX15_ok 0 (by decide), fun h => nomatch h⟩
set_option maxRecDepth 20000 in
theorem fl_X15_78_13 : FL RX15 78 13 2 := ⟨RX15, TX15, 38, "FieldLineModel", rfl, inG_X15, by decide, Or.inl (gk6 (List.mem_of_getElem? (i := 107) rfl) rfl), Or.inl rfl⟩
set_option maxRecDepth 20000 in
theorem fp_X15_78_13 : FP RX15 78 13 2 (.int) false := ⟨RX15, TX15, 38, "FieldLineModel", tyX15, rfl, inG_X15, by decide, Or.inl (gk6 (List.mem_of_getElem? (i := 107) rfl) rfl), Or.inl rfl, tyX15_ok, nmX15, rfl, tyX15_ok 2 (by decide), fun h => nomatch h⟩
set_option maxRecDepth 20000 in
theorem fl_X15_89_13 : FL RX15 89 13 4 := ⟨RX15, TX15, 38, "FieldLineModel", rfl, inG_X15, by decide, Or.inl (gk6 (List.mem_of_getElem? (i := 109) rfl) rfl), Or.inl rfl⟩
set_option maxRecDepth 20000 in
theorem fp_X15_89_13 : FP RX15 89 13 4 (.int) false := ⟨RX15, TX15, 38, "FieldLineModel", tyX15, rfl, inG_X15, by decide, Or.inl (gk6 (List.mem_of_getElem? (i := 109) rfl) rfl), Or.inl rfl, tyX15_ok, nmX15, rfl, tyX15_ok 4 (by decide), fun h => nomatch h⟩
set_option maxRecDepth 20000 in
theorem fl_X15_131_10 : FL RX15 131 10 22 := ⟨RX12, TX12, 38, "FieldLineModel$Device", rfl, inG_X12, by decide, Or.inl (gk6 (List.mem_of_getElem? (i := 7) rfl) rfl), Or.inl rfl⟩
set_option maxRecDepth 20000 in
theorem fl_X15_144_10 : FL RX15 144 10 18 := ⟨RX12, TX12, 38, "FieldLineModel$Device", rfl, inG_X12, by decide, Or.inl (gk5 (List.mem_of_getElem? (i := 239) rfl) rfl), Or.inl rfl⟩
set_option maxRecDepth 20000 in
theorem fl_X15_147_10 : FL RX15 147 10 34 := ⟨RX12, TX12, 38, "FieldLineModel$Device", rfl, inG_X12, by decide, Or.inl (gk6 (List.mem_of_getElem? (i := 28) rfl) rfl), Or.inl rfl⟩
set_option maxRecDepth 20000 in
theorem fp_X15_147_10 : FP RX15 147 10 34 (.int) false := ⟨RX12, TX12, 38, "FieldLineModel$Device", tyX12, rfl, inG_X12, by decide, Or.inl (gk6 (List.mem_of_getElem? (i := 28) rfl) rfl), Or.inl rfl, tyX12_ok, nmX12, rfl, tyX12_ok 34 (by decide), fun h => nomatch h⟩
set_option maxRecDepth 20000 in
theorem fl_X15_172_10 : FL RX15 172 10 10 := ⟨RX12, TX12, 38, "FieldLineModel$Device", rfl, inG_X12, by decide, Or.inl (gk5 (List.mem_of_getElem? (i := 223) rfl) rfl), Or.inl rfl⟩
set_option maxRecDepth 20000 in
theorem fl_X15_175_10 : FL RX15 175 10 8 := ⟨RX12, TX12, 38, "FieldLineModel$Device", rfl, inG_X12, by decide, Or.inl (gk5 (List.mem_of_getElem? (i := 219) rfl) rfl), Or.inl rfl⟩
set_option maxRecDepth 20000 in
theorem fl_X15_186_10 : FL RX15 186 10 30 := ⟨RX12, TX12, 38, "FieldLineModel$Device", rfl, inG_X12, by decide, Or.inl (gk6 (List.mem_of_getElem? (i := 22) rfl) rfl), Or.inl rfl⟩
set_option maxRecDepth 20000 in
theorem fl_X15_189_10 : FL RX15 189 10 31 := ⟨RX12, TX12, 38, "FieldLineModel$Device", rfl, inG_X12, by decide, Or.inl (gk6 (List.mem_of_getElem? (i := 24) rfl) rfl), Or.inl rfl⟩
set_option maxRecDepth 20000 in
theorem fp_X15_189_10 : FP RX15 189 10 31 (.int) false := ⟨RX12, TX12, 38, "FieldLineModel$Device", tyX12, rfl, inG_X12, by decide, Or.inl (gk6 (List.mem_of_getElem? (i := 24) rfl) rfl), Or.inl rfl, tyX12_ok, nmX12, rfl, tyX12_ok 31 (by decide), fun h => nomatch h⟩
set_option maxRecDepth 20000 in
theorem fl_X15_192_10 : FL RX15 192 10 32 := ⟨RX12, TX12, 38, "FieldLineModel$Device", rfl, inG_X12, by decide, Or.inl (gk6 (List.mem_of_getElem? (i := 26) rfl) rfl), Or.inl rfl⟩
set_option maxRecDepth 20000 in
theorem fl_X15_195_10 : FL RX15 195 10 7 := ⟨RX12, TX12, 38, "FieldLineModel$Device", rfl, inG_X12, by decide, Or.inl (gk5 (List.mem_of_getElem? (i := 217) rfl) rfl), Or.inl rfl⟩
set_option maxRecDepth 20000 in
theorem fp_X15_195_10 : FP RX15 195 10 7 (.int) false := ⟨RX12, TX12, 38, "FieldLineModel$Device", tyX12, rfl, inG_X12, by decide, Or.inl (gk5 (List.mem_of_getElem? (i := 217) rfl) rfl), Or.inl rfl, tyX12_ok, nmX12, rfl, tyX12_ok 7 (by decide), fun h => nomatch h⟩
set_option maxRecDepth 20000 in
theorem fl_X15_204_10 : FL RX15 204 10 23 := ⟨RX12, TX12, 38, "FieldLineModel$Device", rfl, inG_X12, by decide, Or.inl (gk6 (List.mem_of_getElem? (i := 9) rfl) rfl), Or.inl rfl⟩
set_option maxRecDepth 20000 in
theorem fl_X15_211_10 : FL RX15 211 10 33 := ⟨RX12, TX12, 38, "FieldLineModel$Device", rfl, inG_X12, by decide, Or.inl (gk6 (List.mem_of_getElem? (i := 27) rfl) rfl), Or.inl rfl⟩
set_option maxRecDepth 20000 in
theorem fp_X15_211_10 : FP RX15 211 10 33 (.boolean) false := ⟨RX12, TX12, 38, "FieldLineModel$Device", tyX12, rfl, inG_X12, by decide, Or.inl (gk6 (List.mem_of_getElem? (i := 27) rfl) rfl), Or.inl rfl, tyX12_ok, nmX12, rfl, tyX12_ok 33 (by decide), fun h => nomatch h⟩
set_option maxRecDepth 20000 in
theorem fl_X15_218_10 : FL RX15 218 10 19 := ⟨RX12, TX12, 38, "FieldLineModel$Device", rfl, inG_X12, by decide, Or.inl (gk6 (List.mem_of_getElem? (i := 1) rfl) rfl), Or.inl rfl⟩
set_option maxRecDepth 20000 in
theorem fl_X15_221_10 : FL RX15 221 10 24 := ⟨RX12, TX12, 38, "FieldLineModel$Device", rfl, inG_X12, by decide, Or.inl (gk6 (List.mem_of_getElem? (i := 11) rfl) rfl), Or.inl rfl⟩
set_option maxRecDepth 20000 in
theorem fp_X15_221_10 : FP RX15 221 10 24 (.int) false := ⟨RX12, TX12, 38, "FieldLineModel$Device", tyX12, rfl, inG_X12, by decide, Or.inl (gk6 (List.mem_of_getElem? (i := 11) rfl) rfl), Or.inl rfl, tyX12_ok, nmX12, rfl, tyX12_ok 24 (by decide), fun h => nomatch h⟩
set_option maxRecDepth 20000 in
theorem fl_X15_224_10 : FL RX15 224 10 25 := ⟨RX12, TX12, 38, "FieldLineModel$Device", rfl, inG_X12, by decide, Or.inl (gk6 (List.mem_of_getElem? (i := 13) rfl) rfl), Or.inl rfl⟩
set_option maxRecDepth 20000 in
theorem fl_X15_232_10 : FL RX15 232 10 26 := ⟨RX12, TX12, 38, "FieldLineModel$Device", rfl, inG_X12, by decide, Or.inl (gk6 (List.mem_of_getElem? (i := 15) rfl) rfl), Or.inl rfl⟩
set_option maxRecDepth 20000 in
theorem fl_X15_235_10 : FL RX15 235 10 27 := ⟨RX12, TX12, 38, "FieldLineModel$Device", rfl, inG_X12, by decide, Or.inl (gk6 (List.mem_of_getElem? (i := 17) rfl) rfl), Or.inl rfl⟩
set_option maxRecDepth 20000 in
theorem fl_X15_242_10 : FL RX15 242 10 4 := ⟨RX12, TX12, 38, "FieldLineModel$Device", rfl, inG_X12, by decide, Or.inl (gk5 (List.mem_of_getElem? (i := 171) rfl) rfl), Or.inr (gk5 (List.mem_of_getElem? (i := 172) rfl) rfl)⟩
set_option maxRecDepth 20000 in
theorem fl_X15_245_10 : FL RX15 245 10 0 := ⟨RX12, TX12, 38, "FieldLineModel$Device", rfl, inG_X12, by decide, Or.inl (gk5 (List.mem_of_getElem? (i := 156) rfl) rfl), Or.inr (gk5 (List.mem_of_getElem? (i := 157) rfl) rfl)⟩
set_option maxRecDepth 20000 in
theorem fl_X15_248_10 : FL RX15 248 10 5 := ⟨RX12, TX12, 38, "FieldLineModel$Device", rfl, inG_X12, by decide, Or.inl (gk5 (List.mem_of_getElem? (i := 215) rfl) rfl), Or.inl rfl⟩
set_option maxRecDepth 20000 in
theorem fp_X15_248_10 : FP RX15 248 10 5 (.int) false := ⟨RX12, TX12, 38, "FieldLineModel$Device", tyX12, rfl, inG_X12, by decide, Or.inl (gk5 (List.mem_of_getElem? (i := 215) rfl) rfl), Or.inl rfl, tyX12_ok, nmX12, rfl, tyX12_ok 5 (by decide), fun h => nomatch h⟩
set_option maxRecDepth 20000 in
theorem fl_X15_251_10 : FL RX15 251 10 1 := ⟨RX12, TX12, 38, "FieldLineModel$Device", rfl, inG_X12, by decide, Or.inl (gk5 (List.mem_of_getElem? (i := 160) rfl) rfl), Or.inr (gk5 (List.mem_of_getElem? (i := 161) rfl) rfl)⟩
set_option maxRecDepth 20000 in
theorem fl_X15_257_10 : FL RX15 257 10 37 := ⟨RX12, TX12, 38, "FieldLineModel$Device", rfl, inG_X12, by decide, Or.inl (gk6 (List.mem_of_getElem? (i := 32) rfl) rfl), Or.inl rfl⟩
set_option maxRecDepth 20000 in
theorem fl_X15_260_10 : FL RX15 260 10 35 := ⟨RX12, TX12, 38, "FieldLineModel$Device", rfl, inG_X12, by decide, Or.inl (gk6 (List.mem_of_getElem? (i := 29) rfl) rfl), Or.inl rfl⟩
set_option maxRecDepth 20000 in
theorem fp_X15_260_10 : FP RX15 260 10 35 (.int) false := ⟨RX12, TX12, 38, "FieldLineModel$Device", tyX12, rfl, inG_X12, by decide, Or.inl (gk6 (List.mem_of_getElem? (i := 29) rfl) rfl), Or.inl rfl, tyX12_ok, nmX12, rfl, tyX12_ok 35 (by decide), fun h => nomatch h⟩
set_option maxRecDepth 20000 in
theorem fl_X15_263_10 : FL RX15 263 10 6 := ⟨RX12, TX12, 38, "FieldLineModel$Device", rfl, inG_X12, by decide, Or.inl (gk5 (List.mem_of_getElem? (i := 216) rfl) rfl), Or.inl rfl⟩
set_option maxRecDepth 20000 in
theorem fp_X15_263_10 : FP RX15 263 10 6 (.int) false := ⟨RX12, TX12, 38, "FieldLineModel$Device", tyX12, rfl, inG_X12, by decide, Or.inl (gk5 (List.mem_of_getElem? (i := 216) rfl) rfl), Or.inl rfl, tyX12_ok, nmX12, rfl, tyX12_ok 6 (by decide), fun h => nomatch h⟩
set_option maxRecDepth 20000 in
theorem fl_X15_266_10 : FL RX15 266 10 36 := ⟨RX12, TX12, 38, "FieldLineModel$Device", rfl, inG_X12, by decide, Or.inl (gk6 (List.mem_of_getElem? (i := 30) rfl) rfl), Or.inl rfl⟩
set_option maxRecDepth 20000 in
theorem fp_X15_266_10 : FP RX15 266 10 36 (.int) false := ⟨RX12, TX12, 38, "FieldLineModel$Device", tyX12, rfl, inG_X12, by decide, Or.inl (gk6 (List.mem_of_getElem? (i := 30) rfl) rfl), Or.inl rfl, tyX12_ok, nmX12, rfl, tyX12_ok 36 (by decide), fun h => nomatch h⟩
set_option maxRecDepth 20000 in
theorem fl_X15_272_10 : FL RX15 272 10 28 := ⟨RX12, TX12, 38, "FieldLineModel$Device", rfl, inG_X12, by decide, Or.inl (gk6 (List.mem_of_getElem? (i := 18) rfl) rfl), Or.inl rfl⟩
set_option maxRecDepth 20000 in
theorem fp_X15_272_10 : FP RX15 272 10 28 (.int) false := ⟨RX12, TX12, 38, "FieldLineModel$Device", tyX12, rfl, inG_X12, by decide, Or.inl (gk6 (List.mem_of_getElem? (i := 18) rfl) rfl), Or.inl rfl, tyX12_ok, nmX12, rfl, tyX12_ok 28 (by decide), fun h => nomatch h⟩
set_option maxRecDepth 20000 in
theorem fl_X15_275_10 : FL RX15 275 10 29 := ⟨RX12, TX12, 38, "FieldLineModel$Device", rfl, inG_X12, by decide, Or.inl (gk6 (List.mem_of_getElem? (i := 20) rfl) rfl), Or.inl rfl⟩
set_option maxRecDepth 20000 in
theorem fl_X15_292_11 : FL RX15 292 11 2 := ⟨RX13, TX13, 4, "FieldLineModel$Row", rfl, inG_X13, by decide, Or.inl (gk5 (List.mem_of_getElem? (i := 197) rfl) rfl), Or.inl rfl⟩
set_option maxRecDepth 20000 in
theorem fl_X15_295_13 : FL RX15 295 13 15 := ⟨RX15, TX15, 38, "FieldLineModel", rfl, inG_X15, by decide, Or.inl (gk6 (List.mem_of_getElem? (i := 120) rfl) rfl), Or.inl rfl⟩
set_option maxRecDepth 20000 in
theorem fp_X15_295_13 : FP RX15 295 13 15 (.int) false := ⟨RX15, TX15, 38, "FieldLineModel", tyX15, rfl, inG_X15, by decide, Or.inl (gk6 (List.mem_of_getElem? (i := 120) rfl) rfl), Or.inl rfl, tyX15_ok, nmX15, rfl, tyX15_ok 15 (by decide), fun h => nomatch h⟩
set_option maxRecDepth 20000 in
theorem fl_X15_298_11 : FL RX15 298 11 3 := ⟨RX13, TX13, 4, "FieldLineModel$Row", rfl, inG_X13, by decide, Or.inl (gk5 (List.mem_of_getElem? (i := 199) rfl) rfl), Or.inl rfl⟩
set_option maxRecDepth 20000 in
theorem fl_X15_299_13 : FL RX15 299 13 16 := ⟨RX15, TX15, 38, "FieldLineModel", rfl, inG_X15, by decide, Or.inl (gk6 (List.mem_of_getElem? (i := 121) rfl) rfl), Or.inl rfl⟩
set_option maxRecDepth 20000 in
theorem fp_X15_299_13 : FP RX15 299 13 16 (.int) false := ⟨RX15, TX15, 38, "FieldLineModel", tyX15, rfl, inG_X15, by decide, Or.inl (gk6 (List.mem_of_getElem? (i := 121) rfl) rfl), Or.inl rfl, tyX15_ok, nmX15, rfl, tyX15_ok 16 (by decide), fun h => nomatch h⟩
set_option maxRecDepth 20000 in
theorem fl_X15_302_12 : FL RX15 302 12 0 := ⟨RX14, TX14, 5, "FieldLineModel$Station", rfl, inG_X14, by decide, Or.inl (gk5 (List.mem_of_getElem? (i := 158) rfl) rfl), Or.inl rfl⟩
set_option maxRecDepth 20000 in
theorem fl_X15_302_10 : FL RX15 302 10 0 := ⟨RX12, TX12, 38, "FieldLineModel$Station", rfl, inG_X12, by decide, Or.inl (gk5 (List.mem_of_getElem? (i := 158) rfl) rfl), Or.inl rfl⟩
set_option maxRecDepth 20000 in
theorem fl_X15_306_13 : FL RX15 306 13 7 := ⟨RX15, TX15, 38, "FieldLineModel", rfl, inG_X15, by decide, Or.inl (gk6 (List.mem_of_getElem? (i := 112) rfl) rfl), Or.inl rfl⟩
set_option maxRecDepth 20000 in
theorem fp_X15_306_13 : FP RX15 306 13 7 (.int) false := ⟨RX15, TX15, 38, "FieldLineModel", tyX15, rfl, inG_X15, by decide, Or.inl (gk6 (List.mem_of_getElem? (i := 112) rfl) rfl), Or.inl rfl, tyX15_ok, nmX15, rfl, tyX15_ok 7 (by decide), fun h => nomatch h⟩
set_option maxRecDepth 20000 in
theorem fl_X15_313_13 : FL RX15 313 13 17 := ⟨RX15, TX15, 38, "FieldLineModel", rfl, inG_X15, by decide, Or.inl (gk6 (List.mem_of_getElem? (i := 122) rfl) rfl), Or.inl rfl⟩
set_option maxRecDepth 20000 in
theorem fp_X15_313_13 : FP RX15 313 13 17 (.int) false := ⟨RX15, TX15, 38, "FieldLineModel", tyX15, rfl, inG_X15, by decide, Or.inl (gk6 (List.mem_of_getElem? (i := 122) rfl) rfl), Or.inl rfl, tyX15_ok, nmX15, rfl, tyX15_ok 17 (by decide), fun h => nomatch h⟩
set_option maxRecDepth 20000 in
theorem fl_X15_320_12 : FL RX15 320 12 1 := ⟨RX14, TX14, 5, "FieldLineModel$Station", rfl, inG_X14, by decide, Or.inl (gk5 (List.mem_of_getElem? (i := 162) rfl) rfl), Or.inl rfl⟩
set_option maxRecDepth 20000 in
theorem fl_X15_320_10 : FL RX15 320 10 1 := ⟨RX12, TX12, 38, "FieldLineModel$Station", rfl, inG_X12, by decide, Or.inl (gk5 (List.mem_of_getElem? (i := 162) rfl) rfl), Or.inl rfl⟩
set_option maxRecDepth 20000 in
theorem fl_X15_321_11 : FL RX15 321 11 0 := ⟨RX13, TX13, 4, "FieldLineModel$Row", rfl, inG_X13, by decide, Or.inl (gk5 (List.mem_of_getElem? (i := 193) rfl) rfl), Or.inl rfl⟩
set_option maxRecDepth 20000 in
theorem fl_X15_323_11 : FL RX15 323 11 1 := ⟨RX13, TX13, 4, "FieldLineModel$Row", rfl, inG_X13, by decide, Or.inl (gk5 (List.mem_of_getElem? (i := 195) rfl) rfl), Or.inl rfl⟩
set_option maxRecDepth 20000 in
theorem fl_X15_340_13 : FL RX15 340 13 20 := ⟨RX15, TX15, 38, "FieldLineModel", rfl, inG_X15, by decide, Or.inl (gk6 (List.mem_of_getElem? (i := 125) rfl) rfl), Or.inl rfl⟩
set_option maxRecDepth 20000 in
theorem fp_X15_340_13 : FP RX15 340 13 20 (.int) false := ⟨RX15, TX15, 38, "FieldLineModel", tyX15, rfl, inG_X15, by decide, Or.inl (gk6 (List.mem_of_getElem? (i := 125) rfl) rfl), Or.inl rfl, tyX15_ok, nmX15, rfl, tyX15_ok 20 (by decide), fun h => nomatch h⟩
set_option maxRecDepth 20000 in
theorem fl_X15_346_13 : FL RX15 346 13 22 := ⟨RX15, TX15, 38, "FieldLineModel", rfl, inG_X15, by decide, Or.inl (gk6 (List.mem_of_getElem? (i := 127) rfl) rfl), Or.inl rfl⟩
set_option maxRecDepth 20000 in
theorem fp_X15_346_13 : FP RX15 346 13 22 (.int) false := ⟨RX15, TX15, 38, "FieldLineModel", tyX15, rfl, inG_X15, by decide, Or.inl (gk6 (List.mem_of_getElem? (i := 127) rfl) rfl), Or.inl rfl, tyX15_ok, nmX15, rfl, tyX15_ok 22 (by decide), fun h => nomatch h⟩
set_option maxRecDepth 20000 in
theorem fl_X15_349_13 : FL RX15 349 13 24 := ⟨RX15, TX15, 38, "FieldLineModel", rfl, inG_X15, by decide, Or.inl (gk6 (List.mem_of_getElem? (i := 129) rfl) rfl), Or.inl rfl⟩
set_option maxRecDepth 20000 in
theorem fp_X15_349_13 : FP RX15 349 13 24 (.int) false := ⟨RX15, TX15, 38, "FieldLineModel", tyX15, rfl, inG_X15, by decide, Or.inl (gk6 (List.mem_of_getElem? (i := 129) rfl) rfl), Or.inl rfl, tyX15_ok, nmX15, rfl, tyX15_ok 24 (by decide), fun h => nomatch h⟩
set_option maxRecDepth 20000 in
theorem fl_X15_352_13 : FL RX15 352 13 25 := ⟨RX15, TX15, 38, "FieldLineModel", rfl, inG_X15, by decide, Or.inl (gk6 (List.mem_of_getElem? (i := 130) rfl) rfl), Or.inl rfl⟩
set_option maxRecDepth 20000 in
theorem fp_X15_352_13 : FP RX15 352 13 25 (.boolean) false := ⟨RX15, TX15, 38, "FieldLineModel", tyX15, rfl, inG_X15, by decide, Or.inl (gk6 (List.mem_of_getElem? (i := 130) rfl) rfl), Or.inl rfl, tyX15_ok, nmX15, rfl, tyX15_ok 25 (by decide), fun h => nomatch h⟩
set_option maxRecDepth 20000 in
theorem fl_X15_355_13 : FL RX15 355 13 23 := ⟨RX15, TX15, 38, "FieldLineModel", rfl, inG_X15, by decide, Or.inl (gk6 (List.mem_of_getElem? (i := 128) rfl) rfl), Or.inl rfl⟩
set_option maxRecDepth 20000 in
theorem fp_X15_355_13 : FP RX15 355 13 23 (.int) false := ⟨RX15, TX15, 38, "FieldLineModel", tyX15, rfl, inG_X15, by decide, Or.inl (gk6 (List.mem_of_getElem? (i := 128) rfl) rfl), Or.inl rfl, tyX15_ok, nmX15, rfl, tyX15_ok 23 (by decide), fun h => nomatch h⟩
set_option maxRecDepth 20000 in
theorem fl_X15_362_13 : FL RX15 362 13 18 := ⟨RX15, TX15, 38, "FieldLineModel", rfl, inG_X15, by decide, Or.inl (gk6 (List.mem_of_getElem? (i := 123) rfl) rfl), Or.inl rfl⟩
set_option maxRecDepth 20000 in
theorem fp_X15_362_13 : FP RX15 362 13 18 (.int) false := ⟨RX15, TX15, 38, "FieldLineModel", tyX15, rfl, inG_X15, by decide, Or.inl (gk6 (List.mem_of_getElem? (i := 123) rfl) rfl), Or.inl rfl, tyX15_ok, nmX15, rfl, tyX15_ok 18 (by decide), fun h => nomatch h⟩
set_option maxRecDepth 20000 in
theorem fl_X15_372_13 : FL RX15 372 13 33 := ⟨RX15, TX15, 38, "FieldLineModel", rfl, inG_X15, by decide, Or.inl (gk6 (List.mem_of_getElem? (i := 138) rfl) rfl), Or.inl rfl⟩
set_option maxRecDepth 20000 in
theorem fp_X15_372_13 : FP RX15 372 13 33 (.int) false := ⟨RX15, TX15, 38, "FieldLineModel", tyX15, rfl, inG_X15, by decide, Or.inl (gk6 (List.mem_of_getElem? (i := 138) rfl) rfl), Or.inl rfl, tyX15_ok, nmX15, rfl, tyX15_ok 33 (by decide), fun h => nomatch h⟩
set_option maxRecDepth 20000 in
theorem fl_X15_375_13 : FL RX15 375 13 29 := ⟨RX15, TX15, 38, "FieldLineModel", rfl, inG_X15, by decide, Or.inl (gk6 (List.mem_of_getElem? (i := 134) rfl) rfl), Or.inl rfl⟩
set_option maxRecDepth 20000 in
theorem fp_X15_375_13 : FP RX15 375 13 29 (.int) false := ⟨RX15, TX15, 38, "FieldLineModel", tyX15, rfl, inG_X15, by decide, Or.inl (gk6 (List.mem_of_getElem? (i := 134) rfl) rfl), Or.inl rfl, tyX15_ok, nmX15, rfl, tyX15_ok 29 (by decide), fun h => nomatch h⟩
set_option maxRecDepth 20000 in
theorem fl_X15_381_13 : FL RX15 381 13 28 := ⟨RX15, TX15, 38, "FieldLineModel", rfl, inG_X15, by decide, Or.inl (gk6 (List.mem_of_getElem? (i := 133) rfl) rfl), Or.inl rfl⟩
set_option maxRecDepth 20000 in
theorem fp_X15_381_13 : FP RX15 381 13 28 (.int) false := ⟨RX15, TX15, 38, "FieldLineModel", tyX15, rfl, inG_X15, by decide, Or.inl (gk6 (List.mem_of_getElem? (i := 133) rfl) rfl), Or.inl rfl, tyX15_ok, nmX15, rfl, tyX15_ok 28 (by decide), fun h => nomatch h⟩
set_option maxRecDepth 20000 in
theorem fl_X15_384_13 : FL RX15 384 13 26 := ⟨RX15, TX15, 38, "FieldLineModel", rfl, inG_X15, by decide, Or.inl (gk6 (List.mem_of_getElem? (i := 131) rfl) rfl), Or.inl rfl⟩
set_option maxRecDepth 20000 in
theorem fp_X15_384_13 : FP RX15 384 13 26 (.int) false := ⟨RX15, TX15, 38, "FieldLineModel", tyX15, rfl, inG_X15, by decide, Or.inl (gk6 (List.mem_of_getElem? (i := 131) rfl) rfl), Or.inl rfl, tyX15_ok, nmX15, rfl, tyX15_ok 26 (by decide), fun h => nomatch h⟩
set_option maxRecDepth 20000 in
theorem fl_X15_387_13 : FL RX15 387 13 27 := ⟨RX15, TX15, 38, "FieldLineModel", rfl, inG_X15, by decide, Or.inl (gk6 (List.mem_of_getElem? (i := 132) rfl) rfl), Or.inl rfl⟩
set_option maxRecDepth 20000 in
theorem fp_X15_387_13 : FP RX15 387 13 27 (.int) false := ⟨RX15, TX15, 38, "FieldLineModel", tyX15, rfl, inG_X15, by decide, Or.inl (gk6 (List.mem_of_getElem? (i := 132) rfl) rfl), Or.inl rfl, tyX15_ok, nmX15, rfl, tyX15_ok 27 (by decide), fun h => nomatch h⟩
set_option maxRecDepth 20000 in
theorem fl_X15_394_13 : FL RX15 394 13 30 := ⟨RX15, TX15, 38, "FieldLineModel", rfl, inG_X15, by decide, Or.inl (gk6 (List.mem_of_getElem? (i := 135) rfl) rfl), Or.inl rfl⟩
set_option maxRecDepth 20000 in
theorem fp_X15_394_13 : FP RX15 394 13 30 (.int) false := ⟨RX15, TX15, 38, "FieldLineModel", tyX15, rfl, inG_X15, by decide, Or.inl (gk6 (List.mem_of_getElem? (i := 135) rfl) rfl), Or.inl rfl, tyX15_ok, nmX15, rfl, tyX15_ok 30 (by decide), fun h => nomatch h⟩
set_option maxRecDepth 20000 in
theorem fl_X15_400_13 : FL RX15 400 13 8 := ⟨RX15, TX15, 38, "FieldLineModel", rfl, inG_X15, by decide, Or.inl (gk6 (List.mem_of_getElem? (i := 113) rfl) rfl), Or.inl rfl⟩
set_option maxRecDepth 20000 in
theorem fp_X15_400_13 : FP RX15 400 13 8 (.int) false := ⟨RX15, TX15, 38, "FieldLineModel", tyX15, rfl, inG_X15, by decide, Or.inl (gk6 (List.mem_of_getElem? (i := 113) rfl) rfl), Or.inl rfl, tyX15_ok, nmX15, rfl, tyX15_ok 8 (by decide), fun h => nomatch h⟩
set_option maxRecDepth 20000 in
theorem fl_X15_418_12 : FL RX15 418 12 2 := ⟨RX14, TX14, 5, "FieldLineModel$Station", rfl, inG_X14, by decide, Or.inl (gk5 (List.mem_of_getElem? (i := 164) rfl) rfl), Or.inl rfl⟩
set_option maxRecDepth 20000 in
theorem fp_X15_418_12 : FP RX15 418 12 2 (.int) false := ⟨RX14, TX14, 5, "FieldLineModel$Station", tyX14, rfl, inG_X14, by decide, Or.inl (gk5 (List.mem_of_getElem? (i := 164) rfl) rfl), Or.inl rfl, tyX14_ok, nmX14, rfl, tyX14_ok 2 (by decide), fun h => nomatch h⟩
set_option maxRecDepth 20000 in
theorem fl_X15_418_10 : FL RX15 418 10 2 := ⟨RX12, TX12, 38, "FieldLineModel$Station", rfl, inG_X12, by decide, Or.inl (gk5 (List.mem_of_getElem? (i := 164) rfl) rfl), Or.inl rfl⟩
set_option maxRecDepth 20000 in
theorem fp_X15_418_10 : FP RX15 418 10 2 (.int) false := ⟨RX12, TX12, 38, "FieldLineModel$Station", tyX12, rfl, inG_X12, by decide, Or.inl (gk5 (List.mem_of_getElem? (i := 164) rfl) rfl), Or.inl rfl, tyX12_ok, nmX12, rfl, tyX12_ok 2 (by decide), fun h => nomatch h⟩
set_option maxRecDepth 20000 in
theorem fl_X15_427_10 : FL RX15 427 10 2 := ⟨RX12, TX12, 38, "FieldLineModel$Device", rfl, inG_X12, by decide, Or.inl (gk5 (List.mem_of_getElem? (i := 165) rfl) rfl), Or.inr (gk5 (List.mem_of_getElem? (i := 166) rfl) rfl)⟩
set_option maxRecDepth 20000 in
theorem fp_X15_427_10 : FP RX15 427 10 2 (.int) false := ⟨RX12, TX12, 38, "FieldLineModel$Device", tyX12, rfl, inG_X12, by decide, Or.inl (gk5 (List.mem_of_getElem? (i := 165) rfl) rfl), Or.inr (gk5 (List.mem_of_getElem? (i := 166) rfl) rfl), tyX12_ok, nmX12, rfl, tyX12_ok 2 (by decide), fun h => nomatch h⟩
set_option maxRecDepth 20000 in
theorem fl_X15_432_13 : FL RX15 432 13 35 := ⟨RX15, TX15, 38, "FieldLineModel", rfl, inG_X15, by decide, Or.inl (gk6 (List.mem_of_getElem? (i := 140) rfl) rfl), Or.inl rfl⟩
set_option maxRecDepth 20000 in
theorem fp_X15_432_13 : FP RX15 432 13 35 (.int) false := ⟨RX15, TX15, 38, "FieldLineModel", tyX15, rfl, inG_X15, by decide, Or.inl (gk6 (List.mem_of_getElem? (i := 140) rfl) rfl), Or.inl rfl, tyX15_ok, nmX15, rfl, tyX15_ok 35 (by decide), fun h => nomatch h⟩
set_option maxRecDepth 20000 in
theorem fl_X15_438_10 : FL RX15 438 10 9 := ⟨RX12, TX12, 38, "FieldLineModel$Device", rfl, inG_X12, by decide, Or.inl (gk5 (List.mem_of_getElem? (i := 221) rfl) rfl), Or.inl rfl⟩
set_option maxRecDepth 20000 in
theorem fl_X15_447_10 : FL RX15 447 10 11 := ⟨RX12, TX12, 38, "FieldLineModel$Device", rfl, inG_X12, by decide, Or.inl (gk5 (List.mem_of_getElem? (i := 225) rfl) rfl), Or.inl rfl⟩
set_option maxRecDepth 20000 in
theorem fp_X15_447_10 : FP RX15 447 10 11 (.int) false := ⟨RX12, TX12, 38, "FieldLineModel$Device", tyX12, rfl, inG_X12, by decide, Or.inl (gk5 (List.mem_of_getElem? (i := 225) rfl) rfl), Or.inl rfl, tyX12_ok, nmX12, rfl, tyX12_ok 11 (by decide), fun h => nomatch h⟩
set_option maxRecDepth 20000 in
theorem fl_X15_450_10 : FL RX15 450 10 12 := ⟨RX12, TX12, 38, "FieldLineModel$Device", rfl, inG_X12, by decide, Or.inl (gk5 (List.mem_of_getElem? (i := 227) rfl) rfl), Or.inl rfl⟩
set_option maxRecDepth 20000 in
theorem fl_X15_453_10 : FL RX15 453 10 13 := ⟨RX12, TX12, 38, "FieldLineModel$Device", rfl, inG_X12, by decide, Or.inl (gk5 (List.mem_of_getElem? (i := 229) rfl) rfl), Or.inl rfl⟩
set_option maxRecDepth 20000 in
theorem fl_X15_456_10 : FL RX15 456 10 14 := ⟨RX12, TX12, 38, "FieldLineModel$Device", rfl, inG_X12, by decide, Or.inl (gk5 (List.mem_of_getElem? (i := 231) rfl) rfl), Or.inl rfl⟩
set_option maxRecDepth 20000 in
theorem fl_X15_459_10 : FL RX15 459 10 15 := ⟨RX12, TX12, 38, "FieldLineModel$Device", rfl, inG_X12, by decide, Or.inl (gk5 (List.mem_of_getElem? (i := 233) rfl) rfl), Or.inl rfl⟩
set_option maxRecDepth 20000 in
theorem fl_X15_462_10 : FL RX15 462 10 16 := ⟨RX12, TX12, 38, "FieldLineModel$Device", rfl, inG_X12, by decide, Or.inl (gk5 (List.mem_of_getElem? (i := 235) rfl) rfl), Or.inl rfl⟩
set_option maxRecDepth 20000 in
theorem fp_X15_462_10 : FP RX15 462 10 16 (.int) false := ⟨RX12, TX12, 38, "FieldLineModel$Device", tyX12, rfl, inG_X12, by decide, Or.inl (gk5 (List.mem_of_getElem? (i := 235) rfl) rfl), Or.inl rfl, tyX12_ok, nmX12, rfl, tyX12_ok 16 (by decide), fun h => nomatch h⟩
set_option maxRecDepth 20000 in
theorem fl_X15_465_10 : FL RX15 465 10 17 := ⟨RX12, TX12, 38, "FieldLineModel$Device", rfl, inG_X12, by decide, Or.inl (gk5 (List.mem_of_getElem? (i := 237) rfl) rfl), Or.inl rfl⟩
set_option maxRecDepth 20000 in
theorem fl_X15_468_10 : FL RX15 468 10 20 := ⟨RX12, TX12, 38, "FieldLineModel$Device", rfl, inG_X12, by decide, Or.inl (gk6 (List.mem_of_getElem? (i := 3) rfl) rfl), Or.inl rfl⟩
set_option maxRecDepth 20000 in
theorem fp_X15_468_10 : FP RX15 468 10 20 (.int) false := ⟨RX12, TX12, 38, "FieldLineModel$Device", tyX12, rfl, inG_X12, by decide, Or.inl (gk6 (List.mem_of_getElem? (i := 3) rfl) rfl), Or.inl rfl, tyX12_ok, nmX12, rfl, tyX12_ok 20 (by decide), fun h => nomatch h⟩
set_option maxRecDepth 20000 in
theorem fl_X15_471_10 : FL RX15 471 10 21 := ⟨RX12, TX12, 38, "FieldLineModel$Device", rfl, inG_X12, by decide, Or.inl (gk6 (List.mem_of_getElem? (i := 5) rfl) rfl), Or.inl rfl⟩
set_option maxRecDepth 20000 in
theorem fl_X15_474_13 : FL RX15 474 13 37 := ⟨RX15, TX15, 38, "FieldLineModel", rfl, inG_X15, by decide, Or.inl (gk6 (List.mem_of_getElem? (i := 142) rfl) rfl), Or.inl rfl⟩
set_option maxRecDepth 20000 in
theorem fp_X15_474_13 : FP RX15 474 13 37 (.int) false := ⟨RX15, TX15, 38, "FieldLineModel", tyX15, rfl, inG_X15, by decide, Or.inl (gk6 (List.mem_of_getElem? (i := 142) rfl) rfl), Or.inl rfl, tyX15_ok, nmX15, rfl, tyX15_ok 37 (by decide), fun h => nomatch h⟩
set_option maxRecDepth 20000 in
theorem fl_X15_480_10 : FL RX15 480 10 3 := ⟨RX12, TX12, 38, "FieldLineModel$Device", rfl, inG_X12, by decide, Or.inl (gk5 (List.mem_of_getElem? (i := 168) rfl) rfl), Or.inr (gk5 (List.mem_of_getElem? (i := 169) rfl) rfl)⟩
set_option maxRecDepth 20000 in
theorem fl_X12_11_10 : FL RX12 11 10 8 := ⟨RX12, TX12, 38, "FieldLineModel$Device", rfl, inG_X12, by decide, Or.inl (gk5 (List.mem_of_getElem? (i := 218) rfl) rfl), Or.inl rfl⟩
set_option maxRecDepth 20000 in
theorem fp_X12_11_10 : FP RX12 11 10 8 (.array (.array .int)) true := ⟨RX12, TX12, 38, "FieldLineModel$Device", tyX12, rfl, inG_X12, by decide, Or.inl (gk5 (List.mem_of_getElem? (i := 218) rfl) rfl), Or.inl rfl, tyX12_ok, nmX12, rfl, tyX12_ok 8 (by decide), fun _ => rfl⟩
set_option maxRecDepth 20000 in
theorem fl_X12_16_10 : FL RX12 16 10 9 := ⟨RX12, TX12, 38, "FieldLineModel$Device", rfl, inG_X12, by decide, Or.inl (gk5 (List.mem_of_getElem? (i := 220) rfl) rfl), Or.inl rfl⟩
set_option maxRecDepth 20000 in
theorem fp_X12_16_10 : FP RX12 16 10 9 (.array .int) true := ⟨RX12, TX12, 38, "FieldLineModel$Device", tyX12, rfl, inG_X12, by decide, Or.inl (gk5 (List.mem_of_getElem? (i := 220) rfl) rfl), Or.inl rfl, tyX12_ok, nmX12, rfl, tyX12_ok 9 (by decide), fun _ => rfl⟩
set_option maxRecDepth 20000 in
theorem fl_X12_20_10 : FL RX12 20 10 10 := ⟨RX12, TX12, 38, "FieldLineModel$Device", rfl, inG_X12, by decide, Or.inl (gk5 (List.mem_of_getElem? (i := 222) rfl) rfl), Or.inl rfl⟩
set_option maxRecDepth 20000 in
theorem fp_X12_20_10 : FP RX12 20 10 10 (.array .int) true := ⟨RX12, TX12, 38, "FieldLineModel$Device", tyX12, rfl, inG_X12, by decide, Or.inl (gk5 (List.mem_of_getElem? (i := 222) rfl) rfl), Or.inl rfl, tyX12_ok, nmX12, rfl, tyX12_ok 10 (by decide), fun _ => rfl⟩
set_option maxRecDepth 20000 in
theorem fl_X12_23_10 : FL RX12 23 10 12 := ⟨RX12, TX12, 38, "FieldLineModel$Device", rfl, inG_X12, by decide, Or.inl (gk5 (List.mem_of_getElem? (i := 226) rfl) rfl), Or.inl rfl⟩
set_option maxRecDepth 20000 in
theorem fp_X12_23_10 : FP RX12 23 10 12 (.array .int) true := ⟨RX12, TX12, 38, "FieldLineModel$Device", tyX12, rfl, inG_X12, by decide, Or.inl (gk5 (List.mem_of_getElem? (i := 226) rfl) rfl), Or.inl rfl, tyX12_ok, nmX12, rfl, tyX12_ok 12 (by decide), fun _ => rfl⟩
set_option maxRecDepth 20000 in
theorem fl_X12_26_10 : FL RX12 26 10 13 := ⟨RX12, TX12, 38, "FieldLineModel$Device", rfl, inG_X12, by decide, Or.inl (gk5 (List.mem_of_getElem? (i := 228) rfl) rfl), Or.inl rfl⟩
set_option maxRecDepth 20000 in
theorem fp_X12_26_10 : FP RX12 26 10 13 (.array .int) true := ⟨RX12, TX12, 38, "FieldLineModel$Device", tyX12, rfl, inG_X12, by decide, Or.inl (gk5 (List.mem_of_getElem? (i := 228) rfl) rfl), Or.inl rfl, tyX12_ok, nmX12, rfl, tyX12_ok 13 (by decide), fun _ => rfl⟩
set_option maxRecDepth 20000 in
theorem fl_X12_29_10 : FL RX12 29 10 14 := ⟨RX12, TX12, 38, "FieldLineModel$Device", rfl, inG_X12, by decide, Or.inl (gk5 (List.mem_of_getElem? (i := 230) rfl) rfl), Or.inl rfl⟩
set_option maxRecDepth 20000 in
theorem fp_X12_29_10 : FP RX12 29 10 14 (.array .int) true := ⟨RX12, TX12, 38, "FieldLineModel$Device", tyX12, rfl, inG_X12, by decide, Or.inl (gk5 (List.mem_of_getElem? (i := 230) rfl) rfl), Or.inl rfl, tyX12_ok, nmX12, rfl, tyX12_ok 14 (by decide), fun _ => rfl⟩
set_option maxRecDepth 20000 in
theorem fl_X12_32_10 : FL RX12 32 10 15 := ⟨RX12, TX12, 38, "FieldLineModel$Device", rfl, inG_X12, by decide, Or.inl (gk5 (List.mem_of_getElem? (i := 232) rfl) rfl), Or.inl rfl⟩
set_option maxRecDepth 20000 in
theorem fp_X12_32_10 : FP RX12 32 10 15 (.array .int) true := ⟨RX12, TX12, 38, "FieldLineModel$Device", tyX12, rfl, inG_X12, by decide, Or.inl (gk5 (List.mem_of_getElem? (i := 232) rfl) rfl), Or.inl rfl, tyX12_ok, nmX12, rfl, tyX12_ok 15 (by decide), fun _ => rfl⟩
set_option maxRecDepth 20000 in
theorem fl_X12_35_10 : FL RX12 35 10 17 := ⟨RX12, TX12, 38, "FieldLineModel$Device", rfl, inG_X12, by decide, Or.inl (gk5 (List.mem_of_getElem? (i := 236) rfl) rfl), Or.inl rfl⟩
set_option maxRecDepth 20000 in
theorem fp_X12_35_10 : FP RX12 35 10 17 (.array .int) true := ⟨RX12, TX12, 38, "FieldLineModel$Device", tyX12, rfl, inG_X12, by decide, Or.inl (gk5 (List.mem_of_getElem? (i := 236) rfl) rfl), Or.inl rfl, tyX12_ok, nmX12, rfl, tyX12_ok 17 (by decide), fun _ => rfl⟩
set_option maxRecDepth 20000 in
theorem fp_X12_38_10 : FP RX12 38 10 18 (.array .int) true := ⟨RX12, TX12, 38, "FieldLineModel$Device", tyX12, rfl, inG_X12, by decide, Or.inl (gk5 (List.mem_of_getElem? (i := 238) rfl) rfl), Or.inl rfl, tyX12_ok, nmX12, rfl, tyX12_ok 18 (by decide), fun _ => rfl⟩
set_option maxRecDepth 20000 in
theorem fp_X12_41_10 : FP RX12 41 10 19 (.array (.array .int)) true := ⟨RX12, TX12, 38, "FieldLineModel$Device", tyX12, rfl, inG_X12, by decide, Or.inl (gk6 (List.mem_of_getElem? (i := 0) rfl) rfl), Or.inl rfl, tyX12_ok, nmX12, rfl, tyX12_ok 19 (by decide), fun _ => rfl⟩
set_option maxRecDepth 20000 in
theorem fl_X12_44_10 : FL RX12 44 10 21 := ⟨RX12, TX12, 38, "FieldLineModel$Device", rfl, inG_X12, by decide, Or.inl (gk6 (List.mem_of_getElem? (i := 4) rfl) rfl), Or.inl rfl⟩
set_option maxRecDepth 20000 in
theorem fp_X12_44_10 : FP RX12 44 10 21 (.array .int) true := ⟨RX12, TX12, 38, "FieldLineModel$Device", tyX12, rfl, inG_X12, by decide, Or.inl (gk6 (List.mem_of_getElem? (i := 4) rfl) rfl), Or.inl rfl, tyX12_ok, nmX12, rfl, tyX12_ok 21 (by decide), fun _ => rfl⟩
set_option maxRecDepth 20000 in
theorem fl_X12_47_10 : FL RX12 47 10 22 := ⟨RX12, TX12, 38, "FieldLineModel$Device", rfl, inG_X12, by decide, Or.inl (gk6 (List.mem_of_getElem? (i := 6) rfl) rfl), Or.inl rfl⟩
set_option maxRecDepth 20000 in
theorem fp_X12_47_10 : FP RX12 47 10 22 (.array .int) true := ⟨RX12, TX12, 38, "FieldLineModel$Device", tyX12, rfl, inG_X12, by decide, Or.inl (gk6 (List.mem_of_getElem? (i := 6) rfl) rfl), Or.inl rfl, tyX12_ok, nmX12, rfl, tyX12_ok 22 (by decide), fun _ => rfl⟩
set_option maxRecDepth 20000 in
theorem fl_X12_50_10 : FL RX12 50 10 23 := ⟨RX12, TX12, 38, "FieldLineModel$Device", rfl, inG_X12, by decide, Or.inl (gk6 (List.mem_of_getElem? (i := 8) rfl) rfl), Or.inl rfl⟩
set_option maxRecDepth 20000 in
theorem fp_X12_50_10 : FP RX12 50 10 23 (.array (.array .int)) true := ⟨RX12, TX12, 38, "FieldLineModel$Device", tyX12, rfl, inG_X12, by decide, Or.inl (gk6 (List.mem_of_getElem? (i := 8) rfl) rfl), Or.inl rfl, tyX12_ok, nmX12, rfl, tyX12_ok 23 (by decide), fun _ => rfl⟩
set_option maxRecDepth 20000 in
theorem fl_X12_53_10 : FL RX12 53 10 25 := ⟨RX12, TX12, 38, "FieldLineModel$Device", rfl, inG_X12, by decide, Or.inl (gk6 (List.mem_of_getElem? (i := 12) rfl) rfl), Or.inl rfl⟩
set_option maxRecDepth 20000 in
theorem fp_X12_53_10 : FP RX12 53 10 25 (.array .int) true := ⟨RX12, TX12, 38, "FieldLineModel$Device", tyX12, rfl, inG_X12, by decide, Or.inl (gk6 (List.mem_of_getElem? (i := 12) rfl) rfl), Or.inl rfl, tyX12_ok, nmX12, rfl, tyX12_ok 25 (by decide), fun _ => rfl⟩
set_option maxRecDepth 20000 in
theorem fp_X12_56_10 : FP RX12 56 10 26 (.array .int) true := ⟨RX12, TX12, 38, "FieldLineModel$Device", tyX12, rfl, inG_X12, by decide, Or.inl (gk6 (List.mem_of_getElem? (i := 14) rfl) rfl), Or.inl rfl, tyX12_ok, nmX12, rfl, tyX12_ok 26 (by decide), fun _ => rfl⟩
set_option maxRecDepth 20000 in
theorem fp_X12_59_10 : FP RX12 59 10 27 (.array (.array .int)) true := ⟨RX12, TX12, 38, "FieldLineModel$Device", tyX12, rfl, inG_X12, by decide, Or.inl (gk6 (List.mem_of_getElem? (i := 16) rfl) rfl), Or.inl rfl, tyX12_ok, nmX12, rfl, tyX12_ok 27 (by decide), fun _ => rfl⟩
set_option maxRecDepth 20000 in
theorem fp_X12_62_10 : FP RX12 62 10 29 (.array .int) true := ⟨RX12, TX12, 38, "FieldLineModel$Device", tyX12, rfl, inG_X12, by decide, Or.inl (gk6 (List.mem_of_getElem? (i := 19) rfl) rfl), Or.inl rfl, tyX12_ok, nmX12, rfl, tyX12_ok 29 (by decide), fun _ => rfl⟩
set_option maxRecDepth 20000 in
theorem fl_X12_65_10 : FL RX12 65 10 30 := ⟨RX12, TX12, 38, "FieldLineModel$Device", rfl, inG_X12, by decide, Or.inl (gk6 (List.mem_of_getElem? (i := 21) rfl) rfl), Or.inl rfl⟩
set_option maxRecDepth 20000 in
theorem fp_X12_65_10 : FP RX12 65 10 30 (.array .int) true := ⟨RX12, TX12, 38, "FieldLineModel$Device", tyX12, rfl, inG_X12, by decide, Or.inl (gk6 (List.mem_of_getElem? (i := 21) rfl) rfl), Or.inl rfl, tyX12_ok, nmX12, rfl, tyX12_ok 30 (by decide), fun _ => rfl⟩
set_option maxRecDepth 20000 in
theorem fl_X12_68_10 : FL RX12 68 10 32 := ⟨RX12, TX12, 38, "FieldLineModel$Device", rfl, inG_X12, by decide, Or.inl (gk6 (List.mem_of_getElem? (i := 25) rfl) rfl), Or.inl rfl⟩
set_option maxRecDepth 20000 in
theorem fp_X12_68_10 : FP RX12 68 10 32 (.array .int) true := ⟨RX12, TX12, 38, "FieldLineModel$Device", tyX12, rfl, inG_X12, by decide, Or.inl (gk6 (List.mem_of_getElem? (i := 25) rfl) rfl), Or.inl rfl, tyX12_ok, nmX12, rfl, tyX12_ok 32 (by decide), fun _ => rfl⟩
set_option maxRecDepth 20000 in
theorem fp_X12_71_10 : FP RX12 71 10 37 (.array .int) true := ⟨RX12, TX12, 38, "FieldLineModel$Device", tyX12, rfl, inG_X12, by decide, Or.inl (gk6 (List.mem_of_getElem? (i := 31) rfl) rfl), Or.inl rfl, tyX12_ok, nmX12, rfl, tyX12_ok 37 (by decide), fun _ => rfl⟩
set_option maxRecDepth 20000 in
theorem fl_X12_75_10 : FL RX12 75 10 31 := ⟨RX12, TX12, 38, "FieldLineModel$Device", rfl, inG_X12, by decide, Or.inl (gk6 (List.mem_of_getElem? (i := 23) rfl) rfl), Or.inl rfl⟩
set_option maxRecDepth 20000 in
theorem fp_X12_75_10 : FP RX12 75 10 31 (.int) false := ⟨RX12, TX12, 38, "FieldLineModel$Device", tyX12, rfl, inG_X12, by decide, Or.inl (gk6 (List.mem_of_getElem? (i := 23) rfl) rfl), Or.inl rfl, tyX12_ok, nmX12, rfl, tyX12_ok 31 (by decide), fun h => nomatch h⟩
set_option maxRecDepth 20000 in
theorem fl_X12_83_10 : FL RX12 83 10 11 := ⟨RX12, TX12, 38, "FieldLineModel$Device", rfl, inG_X12, by decide, Or.inl (gk5 (List.mem_of_getElem? (i := 224) rfl) rfl), Or.inl rfl⟩
set_option maxRecDepth 20000 in
theorem fl_X12_86_10 : FL RX12 86 10 16 := ⟨RX12, TX12, 38, "FieldLineModel$Device", rfl, inG_X12, by decide, Or.inl (gk5 (List.mem_of_getElem? (i := 234) rfl) rfl), Or.inl rfl⟩
set_option maxRecDepth 20000 in
theorem fl_X12_89_10 : FL RX12 89 10 20 := ⟨RX12, TX12, 38, "FieldLineModel$Device", rfl, inG_X12, by decide, Or.inl (gk6 (List.mem_of_getElem? (i := 2) rfl) rfl), Or.inl rfl⟩
set_option maxRecDepth 20000 in
theorem fl_X12_92_10 : FL RX12 92 10 24 := ⟨RX12, TX12, 38, "FieldLineModel$Device", rfl, inG_X12, by decide, Or.inl (gk6 (List.mem_of_getElem? (i := 10) rfl) rfl), Or.inl rfl⟩
set_option maxRecDepth 20000 in
theorem fl_X13_9_11 : FL RX13 9 11 0 := ⟨RX13, TX13, 4, "FieldLineModel$Row", rfl, inG_X13, by decide, Or.inl (gk5 (List.mem_of_getElem? (i := 192) rfl) rfl), Or.inl rfl⟩
set_option maxRecDepth 20000 in
theorem fp_X13_9_11 : FP RX13 9 11 0 (.array (.array .int)) true := ⟨RX13, TX13, 4, "FieldLineModel$Row", tyX13, rfl, inG_X13, by decide, Or.inl (gk5 (List.mem_of_getElem? (i := 192) rfl) rfl), Or.inl rfl, tyX13_ok, nmX13, rfl, tyX13_ok 0 (by decide), fun _ => rfl⟩
set_option maxRecDepth 20000 in
theorem fl_X13_14_11 : FL RX13 14 11 1 := ⟨RX13, TX13, 4, "FieldLineModel$Row", rfl, inG_X13, by decide, Or.inl (gk5 (List.mem_of_getElem? (i := 194) rfl) rfl), Or.inl rfl⟩
set_option maxRecDepth 20000 in
theorem fp_X13_14_11 : FP RX13 14 11 1 (.array .int) true := ⟨RX13, TX13, 4, "FieldLineModel$Row", tyX13, rfl, inG_X13, by decide, Or.inl (gk5 (List.mem_of_getElem? (i := 194) rfl) rfl), Or.inl rfl, tyX13_ok, nmX13, rfl, tyX13_ok 1 (by decide), fun _ => rfl⟩
set_option maxRecDepth 20000 in
theorem fl_X13_18_11 : FL RX13 18 11 2 := ⟨RX13, TX13, 4, "FieldLineModel$Row", rfl, inG_X13, by decide, Or.inl (gk5 (List.mem_of_getElem? (i := 196) rfl) rfl), Or.inl rfl⟩
set_option maxRecDepth 20000 in
theorem fp_X13_18_11 : FP RX13 18 11 2 (.array (.array .int)) true := ⟨RX13, TX13, 4, "FieldLineModel$Row", tyX13, rfl, inG_X13, by decide, Or.inl (gk5 (List.mem_of_getElem? (i := 196) rfl) rfl), Or.inl rfl, tyX13_ok, nmX13, rfl, tyX13_ok 2 (by decide), fun _ => rfl⟩
set_option maxRecDepth 20000 in
theorem fl_X13_21_11 : FL RX13 21 11 3 := ⟨RX13, TX13, 4, "FieldLineModel$Row", rfl, inG_X13, by decide, Or.inl (gk5 (List.mem_of_getElem? (i := 198) rfl) rfl), Or.inl rfl⟩
set_option maxRecDepth 20000 in
theorem fp_X13_21_11 : FP RX13 21 11 3 (.int) false := ⟨RX13, TX13, 4, "FieldLineModel$Row", tyX13, rfl, inG_X13, by decide, Or.inl (gk5 (List.mem_of_getElem? (i := 198) rfl) rfl), Or.inl rfl, tyX13_ok, nmX13, rfl, tyX13_ok 3 (by decide), fun h => nomatch h⟩
set_option maxRecDepth 20000 in
theorem fl_X14_7_12 : FL RX14 7 12 0 := ⟨RX14, TX14, 5, "FieldLineModel$Station", rfl, inG_X14, by decide, Or.inl (gk5 (List.mem_of_getElem? (i := 155) rfl) rfl), Or.inl rfl⟩
set_option maxRecDepth 20000 in
theorem fp_X14_7_12 : FP RX14 7 12 0 (.array .int) true := ⟨RX14, TX14, 5, "FieldLineModel$Station", tyX14, rfl, inG_X14, by decide, Or.inl (gk5 (List.mem_of_getElem? (i := 155) rfl) rfl), Or.inl rfl, tyX14_ok, nmX14, rfl, tyX14_ok 0 (by decide), fun _ => rfl⟩
set_option maxRecDepth 20000 in
theorem fl_X14_7_10 : FL RX14 7 10 0 := ⟨RX12, TX12, 38, "FieldLineModel$Station", rfl, inG_X12, by decide, Or.inl (gk5 (List.mem_of_getElem? (i := 155) rfl) rfl), Or.inl rfl⟩
set_option maxRecDepth 20000 in
theorem fp_X14_7_10 : FP RX14 7 10 0 (.array .int) true := ⟨RX12, TX12, 38, "FieldLineModel$Station", tyX12, rfl, inG_X12, by decide, Or.inl (gk5 (List.mem_of_getElem? (i := 155) rfl) rfl), Or.inl rfl, tyX12_ok, nmX12, rfl, tyX12_ok 0 (by decide), fun _ => rfl⟩
set_option maxRecDepth 20000 in
theorem fl_X14_13_12 : FL RX14 13 12 2 := ⟨RX14, TX14, 5, "FieldLineModel$Station", rfl, inG_X14, by decide, Or.inl (gk5 (List.mem_of_getElem? (i := 163) rfl) rfl), Or.inl rfl⟩
set_option maxRecDepth 20000 in
theorem fp_X14_13_12 : FP RX14 13 12 2 (.int) false := ⟨RX14, TX14, 5, "FieldLineModel$Station", tyX14, rfl, inG_X14, by decide, Or.inl (gk5 (List.mem_of_getElem? (i := 163) rfl) rfl), Or.inl rfl, tyX14_ok, nmX14, rfl, tyX14_ok 2 (by decide), fun h => nomatch h⟩
set_option maxRecDepth 20000 in
theorem fl_X14_13_10 : FL RX14 13 10 2 := ⟨RX12, TX12, 38, "FieldLineModel$Station", rfl, inG_X12, by decide, Or.inl (gk5 (List.mem_of_getElem? (i := 163) rfl) rfl), Or.inl rfl⟩
set_option maxRecDepth 20000 in
theorem fp_X14_13_10 : FP RX14 13 10 2 (.int) false := ⟨RX12, TX12, 38, "FieldLineModel$Station", tyX12, rfl, inG_X12, by decide, Or.inl (gk5 (List.mem_of_getElem? (i := 163) rfl) rfl), Or.inl rfl, tyX12_ok, nmX12, rfl, tyX12_ok 2 (by decide), fun h => nomatch h⟩
set_option maxRecDepth 20000 in
theorem fl_X14_17_12 : FL RX14 17 12 1 := ⟨RX14, TX14, 5, "FieldLineModel$Station", rfl, inG_X14, by decide, Or.inl (gk5 (List.mem_of_getElem? (i := 159) rfl) rfl), Or.inl rfl⟩
set_option maxRecDepth 20000 in
theorem fp_X14_17_12 : FP RX14 17 12 1 (.int) false := ⟨RX14, TX14, 5, "FieldLineModel$Station", tyX14, rfl, inG_X14, by decide, Or.inl (gk5 (List.mem_of_getElem? (i := 159) rfl) rfl), Or.inl rfl, tyX14_ok, nmX14, rfl, tyX14_ok 1 (by decide), fun h => nomatch h⟩
set_option maxRecDepth 20000 in
theorem fl_X14_17_10 : FL RX14 17 10 1 := ⟨RX12, TX12, 38, "FieldLineModel$Station", rfl, inG_X12, by decide, Or.inl (gk5 (List.mem_of_getElem? (i := 159) rfl) rfl), Or.inl rfl⟩
set_option maxRecDepth 20000 in
theorem fp_X14_17_10 : FP RX14 17 10 1 (.int) false := ⟨RX12, TX12, 38, "FieldLineModel$Station", tyX12, rfl, inG_X12, by decide, Or.inl (gk5 (List.mem_of_getElem? (i := 159) rfl) rfl), Or.inl rfl, tyX12_ok, nmX12, rfl, tyX12_ok 1 (by decide), fun h => nomatch h⟩
set_option maxRecDepth 20000 in
theorem fl_X14_20_12 : FL RX14 20 12 3 := ⟨RX14, TX14, 5, "FieldLineModel$Station", rfl, inG_X14, by decide, Or.inl (gk5 (List.mem_of_getElem? (i := 167) rfl) rfl), Or.inl rfl⟩
set_option maxRecDepth 20000 in
theorem fp_X14_20_12 : FP RX14 20 12 3 (.boolean) false := ⟨RX14, TX14, 5, "FieldLineModel$Station", tyX14, rfl, inG_X14, by decide, Or.inl (gk5 (List.mem_of_getElem? (i := 167) rfl) rfl), Or.inl rfl, tyX14_ok, nmX14, rfl, tyX14_ok 3 (by decide), fun h => nomatch h⟩
set_option maxRecDepth 20000 in
theorem fl_X14_20_10 : FL RX14 20 10 3 := ⟨RX12, TX12, 38, "FieldLineModel$Station", rfl, inG_X12, by decide, Or.inl (gk5 (List.mem_of_getElem? (i := 167) rfl) rfl), Or.inl rfl⟩
set_option maxRecDepth 20000 in
theorem fp_X14_20_10 : FP RX14 20 10 3 (.boolean) false := ⟨RX12, TX12, 38, "FieldLineModel$Station", tyX12, rfl, inG_X12, by decide, Or.inl (gk5 (List.mem_of_getElem? (i := 167) rfl) rfl), Or.inl rfl, tyX12_ok, nmX12, rfl, tyX12_ok 3 (by decide), fun h => nomatch h⟩
set_option maxRecDepth 20000 in
theorem fp_X14_24_12 : FP RX14 24 12 4 (.boolean) false := ⟨RX14, TX14, 5, "FieldLineModel$Station", tyX14, rfl, inG_X14, by decide, Or.inl (gk5 (List.mem_of_getElem? (i := 170) rfl) rfl), Or.inl rfl, tyX14_ok, nmX14, rfl, tyX14_ok 4 (by decide), fun h => nomatch h⟩
set_option maxRecDepth 20000 in
theorem fp_X14_24_10 : FP RX14 24 10 4 (.boolean) false := ⟨RX12, TX12, 38, "FieldLineModel$Station", tyX12, rfl, inG_X12, by decide, Or.inl (gk5 (List.mem_of_getElem? (i := 170) rfl) rfl), Or.inl rfl, tyX12_ok, nmX12, rfl, tyX12_ok 4 (by decide), fun h => nomatch h⟩
abbrev nf_X4 : List Value := [.null, .int 0]
set_option maxRecDepth 20000 in
theorem nc_X11_7 : NC RX11 7 4 nf_X4 := ⟨RX4, TX4, 2, tyX4, rfl, inG_X4, tyX4_ok, (gk1 (List.mem_of_getElem? (i := 31) rfl) rfl), (gk1 (List.mem_of_getElem? (i := 32) rfl) rfl), (gk1 (List.mem_of_getElem? (i := 2) rfl) rfl), by decide +kernel, rfl⟩
abbrev nf_X1 : List Value := [.int 0, .int 0, .int 0, .null, .null, .null, .null, .null, .int 0, .null, .null, .null, .null, .null, .null, .null, .null, .int 0, .int 0, .int 0]
set_option maxRecDepth 20000 in
theorem nc_X11_27 : NC RX11 27 1 nf_X1 := ⟨RX1, TX1, 20, tyX1, rfl, inG_X1, tyX1_ok, (gk1 (List.mem_of_getElem? (i := 53) rfl) rfl), (gk2 (List.mem_of_getElem? (i := 46) rfl) rfl), (gk1 (List.mem_of_getElem? (i := 10) rfl) rfl), by decide +kernel, rfl⟩
abbrev nf_X10 : List Value := [.null, .int 0, .int 0, .int 0, .int 0, .int 0, .int 0, .int 0, .int 0, .int 0, .int 0, .null, .null, .int 0]
set_option maxRecDepth 20000 in
theorem nc_X11_37 : NC RX11 37 8 nf_X10 := ⟨RX10, TX10, 14, tyX10, rfl, inG_X10, tyX10_ok, (gk1 (List.mem_of_getElem? (i := 55) rfl) rfl), (gk1 (List.mem_of_getElem? (i := 56) rfl) rfl), (gk1 (List.mem_of_getElem? (i := 3) rfl) rfl), by decide +kernel, rfl⟩
abbrev nf_X3 : List Value := [.null, .int 0, .int 0, .int 0, .int 0, .int 0, .null, .int 0, .int 0, .int 0, .null, .int 0, .int 0, .int 0, .int 0, .null, .int 0]
set_option maxRecDepth 20000 in
theorem nc_X11_44 : NC RX11 44 3 nf_X3 := ⟨RX3, TX3, 17, tyX3, rfl, inG_X3, tyX3_ok, (gk1 (List.mem_of_getElem? (i := 113) rfl) rfl), (gk1 (List.mem_of_getElem? (i := 114) rfl) rfl), (gk1 (List.mem_of_getElem? (i := 4) rfl) rfl), by decide +kernel, rfl⟩
abbrev nf_X0 : List Value := [.null, .int 0, .int 0, .int 0]
set_option maxRecDepth 20000 in
theorem nc_X1_21 : NC RX1 21 0 nf_X0 := ⟨RX0, TX0, 4, tyX0, rfl, inG_X0, tyX0_ok, (gk2 (List.mem_of_getElem? (i := 51) rfl) rfl), (gk2 (List.mem_of_getElem? (i := 52) rfl) rfl), (gk1 (List.mem_of_getElem? (i := 11) rfl) rfl), by decide +kernel, rfl⟩
abbrev nf_X8 : List Value := [.null, .null, .int 0, .int 0]
set_option maxRecDepth 20000 in
theorem nc_X1_44 : NC RX1 44 6 nf_X8 := ⟨RX8, TX8, 4, tyX8, rfl, inG_X8, tyX8_ok, (gk2 (List.mem_of_getElem? (i := 72) rfl) rfl), (gk2 (List.mem_of_getElem? (i := 73) rfl) rfl), (gk1 (List.mem_of_getElem? (i := 12) rfl) rfl), by decide +kernel, rfl⟩
set_option maxRecDepth 20000 in
theorem nc_X1_59 : NC RX1 59 4 nf_X4 := ⟨RX4, TX4, 2, tyX4, rfl, inG_X4, tyX4_ok, (gk2 (List.mem_of_getElem? (i := 93) rfl) rfl), (gk1 (List.mem_of_getElem? (i := 32) rfl) rfl), (gk1 (List.mem_of_getElem? (i := 2) rfl) rfl), by decide +kernel, rfl⟩
abbrev nf_X9 : List Value := [.null, .int 0, .int 0, .int 0]
set_option maxRecDepth 20000 in
theorem nc_X1_72 : NC RX1 72 7 nf_X9 := ⟨RX9, TX9, 4, tyX9, rfl, inG_X9, tyX9_ok, (gk2 (List.mem_of_getElem? (i := 95) rfl) rfl), (gk1 (List.mem_of_getElem? (i := 120) rfl) rfl), (gk1 (List.mem_of_getElem? (i := 5) rfl) rfl), by decide +kernel, rfl⟩
set_option maxRecDepth 20000 in
theorem nc_X2_9 : NC RX2 9 4 nf_X4 := ⟨RX4, TX4, 2, tyX4, rfl, inG_X4, tyX4_ok, (gk3 (List.mem_of_getElem? (i := 232) rfl) rfl), (gk1 (List.mem_of_getElem? (i := 32) rfl) rfl), (gk1 (List.mem_of_getElem? (i := 2) rfl) rfl), by decide +kernel, rfl⟩
set_option maxRecDepth 20000 in
theorem nc_X3_9 : NC RX3 9 7 nf_X9 := ⟨RX9, TX9, 4, tyX9, rfl, inG_X9, tyX9_ok, (gk1 (List.mem_of_getElem? (i := 119) rfl) rfl), (gk1 (List.mem_of_getElem? (i := 120) rfl) rfl), (gk1 (List.mem_of_getElem? (i := 5) rfl) rfl), by decide +kernel, rfl⟩
abbrev nf_X2 : List Value := [.null, .int 0, .int 0, .int 0, .int 0, .int 0]
set_option maxRecDepth 20000 in
theorem nc_X3_31 : NC RX3 31 2 nf_X2 := ⟨RX2, TX2, 6, tyX2, rfl, inG_X2, tyX2_ok, (gk1 (List.mem_of_getElem? (i := 145) rfl) rfl), (gk3 (List.mem_of_getElem? (i := 227) rfl) rfl), (gk1 (List.mem_of_getElem? (i := 16) rfl) rfl), by decide +kernel, rfl⟩
abbrev nf_X5 : List Value := [.null, .int 0, .int 0, .int 0, .int 0]
set_option maxRecDepth 20000 in
theorem nc_X3_40 : NC RX3 40 5 nf_X5 := ⟨RX5, TX5, 5, tyX5, rfl, inG_X5, tyX5_ok, (gk1 (List.mem_of_getElem? (i := 147) rfl) rfl), (gk4 (List.mem_of_getElem? (i := 29) rfl) rfl), (gk1 (List.mem_of_getElem? (i := 17) rfl) rfl), by decide +kernel, rfl⟩
set_option maxRecDepth 20000 in
theorem nc_X5_9 : NC RX5 9 4 nf_X4 := ⟨RX4, TX4, 2, tyX4, rfl, inG_X4, tyX4_ok, (gk4 (List.mem_of_getElem? (i := 34) rfl) rfl), (gk1 (List.mem_of_getElem? (i := 32) rfl) rfl), (gk1 (List.mem_of_getElem? (i := 2) rfl) rfl), by decide +kernel, rfl⟩
set_option maxRecDepth 20000 in
theorem nc_X8_15 : NC RX8 15 4 nf_X4 := ⟨RX4, TX4, 2, tyX4, rfl, inG_X4, tyX4_ok, (gk2 (List.mem_of_getElem? (i := 78) rfl) rfl), (gk1 (List.mem_of_getElem? (i := 32) rfl) rfl), (gk1 (List.mem_of_getElem? (i := 2) rfl) rfl), by decide +kernel, rfl⟩
set_option maxRecDepth 20000 in
theorem nc_X9_9 : NC RX9 9 4 nf_X4 := ⟨RX4, TX4, 2, tyX4, rfl, inG_X4, tyX4_ok, (gk1 (List.mem_of_getElem? (i := 125) rfl) rfl), (gk1 (List.mem_of_getElem? (i := 32) rfl) rfl), (gk1 (List.mem_of_getElem? (i := 2) rfl) rfl), by decide +kernel, rfl⟩
set_option maxRecDepth 20000 in
theorem nc_X10_9 : NC RX10 9 4 nf_X4 := ⟨RX4, TX4, 2, tyX4, rfl, inG_X4, tyX4_ok, (gk1 (List.mem_of_getElem? (i := 61) rfl) rfl), (gk1 (List.mem_of_getElem? (i := 32) rfl) rfl), (gk1 (List.mem_of_getElem? (i := 2) rfl) rfl), by decide +kernel, rfl⟩
abbrev nf_X11 : List Value := [.null, .null, .null, .null, .null, .int 0, .null, .null, .int 0]
set_option maxRecDepth 20000 in
theorem nc_L_8 : NC RL 8 9 nf_X11 := ⟨RX11, TX11, 9, tyX11, rfl, inG_X11, tyX11_ok, (gk1 (List.mem_of_getElem? (i := 23) rfl) rfl), (gk1 (List.mem_of_getElem? (i := 24) rfl) rfl), (gk1 (List.mem_of_getElem? (i := 1) rfl) rfl), by decide +kernel, rfl⟩
abbrev nf_X15 : List Value := [.int 0, .null, .int 0, .null, .int 0, .null, .null, .int 0, .int 0, .int 0, .int 0, .int 0, .null, .null, .null, .int 0, .int 0, .int 0, .int 0, .int 0, .int 0, .null, .int 0, .int 0, .int 0, .int 0, .int 0, .int 0, .int 0, .int 0, .int 0, .null, .null, .int 0, .null, .int 0, .null, .int 0]
set_option maxRecDepth 20000 in
theorem nc_L_21 : NC RL 21 13 nf_X15 := ⟨RX15, TX15, 38, tyX15, rfl, inG_X15, tyX15_ok, (gk5 (List.mem_of_getElem? (i := 141) rfl) rfl), (gk5 (List.mem_of_getElem? (i := 142) rfl) rfl), (gk1 (List.mem_of_getElem? (i := 6) rfl) rfl), by decide +kernel, rfl⟩
abbrev nf_X12 : List Value := [.null, .int 0, .int 0, .int 0, .int 0, .int 0, .int 0, .int 0, .null, .null, .null, .int 0, .null, .null, .null, .null, .int 0, .null, .null, .null, .int 0, .null, .null, .null, .int 0, .null, .null, .null, .int 0, .null, .null, .int 0, .null, .int 0, .int 0, .int 0, .int 0, .null]
set_option maxRecDepth 20000 in
theorem nc_X15_7 : NC RX15 7 10 nf_X12 := ⟨RX12, TX12, 38, tyX12, rfl, inG_X12, tyX12_ok, (gk5 (List.mem_of_getElem? (i := 147) rfl) rfl), (gk5 (List.mem_of_getElem? (i := 209) rfl) rfl), (gk1 (List.mem_of_getElem? (i := 9) rfl) rfl), by decide +kernel, rfl⟩
abbrev nf_X14 : List Value := [.null, .int 0, .int 0, .int 0, .int 0]
set_option maxRecDepth 20000 in
theorem nc_X15_22 : NC RX15 22 12 nf_X14 := ⟨RX14, TX14, 5, tyX14, rfl, inG_X14, tyX14_ok, (gk5 (List.mem_of_getElem? (i := 149) rfl) rfl), (gk5 (List.mem_of_getElem? (i := 150) rfl) rfl), (gk1 (List.mem_of_getElem? (i := 7) rfl) rfl), by decide +kernel, rfl⟩
abbrev nf_X13 : List Value := [.null, .null, .null, .int 0]
set_option maxRecDepth 20000 in
theorem nc_X15_39 : NC RX15 39 11 nf_X13 := ⟨RX13, TX13, 4, tyX13, rfl, inG_X13, tyX13_ok, (gk5 (List.mem_of_getElem? (i := 184) rfl) rfl), (gk5 (List.mem_of_getElem? (i := 185) rfl) rfl), (gk1 (List.mem_of_getElem? (i := 8) rfl) rfl), by decide +kernel, rfl⟩
set_option maxRecDepth 20000 in
theorem ci_X11_11 : CI RX11 11 mX4_init 1 := ⟨⟨kc_X4_init, rfl, (gk1 (List.mem_of_getElem? (i := 34) rfl) rfl), (gk1 (List.mem_of_getElem? (i := 2) rfl) rfl), rfl, ⟨by decide +kernel, by decide +kernel, by decide +kernel⟩⟩, Or.inl (gk1 (List.mem_of_getElem? (i := 33) rfl) rfl)⟩
set_option maxRecDepth 20000 in
theorem ci_X11_39 : CI RX11 39 mX10_init 0 := ⟨⟨kc_X10_init, rfl, (gk1 (List.mem_of_getElem? (i := 58) rfl) rfl), (gk1 (List.mem_of_getElem? (i := 3) rfl) rfl), rfl, ⟨by decide +kernel, by decide +kernel, by decide +kernel⟩⟩, Or.inl (gk1 (List.mem_of_getElem? (i := 57) rfl) rfl)⟩
set_option maxRecDepth 20000 in
theorem ci_X11_46 : CI RX11 46 mX3_init 0 := ⟨⟨kc_X3_init, rfl, (gk1 (List.mem_of_getElem? (i := 116) rfl) rfl), (gk1 (List.mem_of_getElem? (i := 4) rfl) rfl), rfl, ⟨by decide +kernel, by decide +kernel, by decide +kernel⟩⟩, Or.inl (gk1 (List.mem_of_getElem? (i := 115) rfl) rfl)⟩
set_option maxRecDepth 20000 in
theorem cv_X11_57 : CV RX11 57 mX11_feedNumber 9 1 := ⟨_, rfl, ⟨kc_X11_feedNumber, (gk2 (List.mem_of_getElem? (i := 6) rfl) rfl), (gk1 (List.mem_of_getElem? (i := 1) rfl) rfl), (gw_mem 0 (by decide +kernel) (by decide +kernel)), ⟨by decide +kernel, by decide +kernel, by decide +kernel⟩⟩, Or.inl (gk2 (List.mem_of_getElem? (i := 4) rfl) rfl)⟩
set_option maxRecDepth 20000 in
theorem cv_X11_60 : CV RX11 60 mX4_addWord 4 1 := ⟨_, rfl, ⟨kc_X4_addWord, (gk2 (List.mem_of_getElem? (i := 9) rfl) rfl), (gk1 (List.mem_of_getElem? (i := 2) rfl) rfl), (gk2 (List.mem_of_getElem? (i := 10) rfl) rfl), ⟨by decide +kernel, by decide +kernel, by decide +kernel⟩⟩, Or.inl (gk2 (List.mem_of_getElem? (i := 8) rfl) rfl)⟩
set_option maxRecDepth 20000 in
theorem cv_X11_64 : CV RX11 64 mX4_cut 4 1 := ⟨_, rfl, ⟨kc_X4_cut, (gk2 (List.mem_of_getElem? (i := 18) rfl) rfl), (gk1 (List.mem_of_getElem? (i := 2) rfl) rfl), (gk2 (List.mem_of_getElem? (i := 19) rfl) rfl), ⟨by decide +kernel, by decide +kernel, by decide +kernel⟩⟩, Or.inl (gk2 (List.mem_of_getElem? (i := 17) rfl) rfl)⟩
set_option maxRecDepth 20000 in
theorem cv_X11_67 : CV RX11 67 mX4_sumOf 4 1 := ⟨_, rfl, ⟨kc_X4_sumOf, (gk2 (List.mem_of_getElem? (i := 26) rfl) rfl), (gk1 (List.mem_of_getElem? (i := 2) rfl) rfl), (gk2 (List.mem_of_getElem? (i := 27) rfl) rfl), ⟨by decide +kernel, by decide +kernel, by decide +kernel⟩⟩, Or.inl (gk2 (List.mem_of_getElem? (i := 25) rfl) rfl)⟩
set_option maxRecDepth 20000 in
theorem cs_X11_71 : CS RX11 71 mX11_within 3 := ⟨⟨kc_X11_within, (gk2 (List.mem_of_getElem? (i := 36) rfl) rfl), (gk1 (List.mem_of_getElem? (i := 1) rfl) rfl), ⟨by decide +kernel, by decide +kernel, by decide +kernel⟩⟩, Or.inl (gk2 (List.mem_of_getElem? (i := 35) rfl) rfl)⟩
set_option maxRecDepth 20000 in
theorem cv_X11_75 : CV RX11 75 mX11_isTaken 9 1 := ⟨_, rfl, ⟨kc_X11_isTaken, (gk2 (List.mem_of_getElem? (i := 40) rfl) rfl), (gk1 (List.mem_of_getElem? (i := 1) rfl) rfl), (gw_mem 1 (by decide +kernel) (by decide +kernel)), ⟨by decide +kernel, by decide +kernel, by decide +kernel⟩⟩, Or.inl (gk2 (List.mem_of_getElem? (i := 38) rfl) rfl)⟩
set_option maxRecDepth 20000 in
theorem ci_X11_79 : CI RX11 79 mX1_init 3 := ⟨⟨kc_X1_init, rfl, (gk2 (List.mem_of_getElem? (i := 48) rfl) rfl), (gk1 (List.mem_of_getElem? (i := 10) rfl) rfl), rfl, ⟨by decide +kernel, by decide +kernel, by decide +kernel⟩⟩, Or.inl (gk2 (List.mem_of_getElem? (i := 47) rfl) rfl)⟩
set_option maxRecDepth 20000 in
theorem cv_X11_82 : CV RX11 82 mX11_deviceOf 9 1 := ⟨_, rfl, ⟨kc_X11_deviceOf, (gk2 (List.mem_of_getElem? (i := 44) rfl) rfl), (gk1 (List.mem_of_getElem? (i := 1) rfl) rfl), (gw_mem 2 (by decide +kernel) (by decide +kernel)), ⟨by decide +kernel, by decide +kernel, by decide +kernel⟩⟩, Or.inl (gk2 (List.mem_of_getElem? (i := 42) rfl) rfl)⟩
set_option maxRecDepth 20000 in
theorem cv_X11_89 : CV RX11 89 mX1_bankOfKind 1 1 := ⟨_, rfl, ⟨kc_X1_bankOfKind, (gk2 (List.mem_of_getElem? (i := 188) rfl) rfl), (gk1 (List.mem_of_getElem? (i := 10) rfl) rfl), (gk2 (List.mem_of_getElem? (i := 189) rfl) rfl), ⟨by decide +kernel, by decide +kernel, by decide +kernel⟩⟩, Or.inl (gk2 (List.mem_of_getElem? (i := 187) rfl) rfl)⟩
set_option maxRecDepth 20000 in
theorem cv_X11_93 : CV RX11 93 mX11_bankOf 9 2 := ⟨_, rfl, ⟨kc_X11_bankOf, (gk2 (List.mem_of_getElem? (i := 185) rfl) rfl), (gk1 (List.mem_of_getElem? (i := 1) rfl) rfl), (gw_mem 3 (by decide +kernel) (by decide +kernel)), ⟨by decide +kernel, by decide +kernel, by decide +kernel⟩⟩, Or.inl (gk2 (List.mem_of_getElem? (i := 183) rfl) rfl)⟩
set_option maxRecDepth 20000 in
theorem cv_X11_98 : CV RX11 98 mX0_makeAnew 0 2 := ⟨_, rfl, ⟨kc_X0_makeAnew, (gk2 (List.mem_of_getElem? (i := 193) rfl) rfl), (gk1 (List.mem_of_getElem? (i := 11) rfl) rfl), (gk2 (List.mem_of_getElem? (i := 194) rfl) rfl), ⟨by decide +kernel, by decide +kernel, by decide +kernel⟩⟩, Or.inl (gk2 (List.mem_of_getElem? (i := 192) rfl) rfl)⟩
set_option maxRecDepth 20000 in
theorem cv_X11_104 : CV RX11 104 mX0_has 0 2 := ⟨_, rfl, ⟨kc_X0_has, (gk2 (List.mem_of_getElem? (i := 207) rfl) rfl), (gk1 (List.mem_of_getElem? (i := 11) rfl) rfl), (gk2 (List.mem_of_getElem? (i := 208) rfl) rfl), ⟨by decide +kernel, by decide +kernel, by decide +kernel⟩⟩, Or.inl (gk2 (List.mem_of_getElem? (i := 206) rfl) rfl)⟩
set_option maxRecDepth 20000 in
theorem cv_X11_108 : CV RX11 108 mX0_write 0 2 := ⟨_, rfl, ⟨kc_X0_write, (gk2 (List.mem_of_getElem? (i := 211) rfl) rfl), (gk1 (List.mem_of_getElem? (i := 11) rfl) rfl), (gk2 (List.mem_of_getElem? (i := 212) rfl) rfl), ⟨by decide +kernel, by decide +kernel, by decide +kernel⟩⟩, Or.inl (gk2 (List.mem_of_getElem? (i := 210) rfl) rfl)⟩
set_option maxRecDepth 20000 in
theorem cv_X11_111 : CV RX11 111 mX0_value 0 1 := ⟨_, rfl, ⟨kc_X0_value, (gk2 (List.mem_of_getElem? (i := 219) rfl) rfl), (gk1 (List.mem_of_getElem? (i := 11) rfl) rfl), (gk2 (List.mem_of_getElem? (i := 220) rfl) rfl), ⟨by decide +kernel, by decide +kernel, by decide +kernel⟩⟩, Or.inl (gk2 (List.mem_of_getElem? (i := 218) rfl) rfl)⟩
set_option maxRecDepth 20000 in
theorem cv_X11_114 : CV RX11 114 mX1_addLimit 1 4 := ⟨_, rfl, ⟨kc_X1_addLimit, (gk2 (List.mem_of_getElem? (i := 227) rfl) rfl), (gk1 (List.mem_of_getElem? (i := 10) rfl) rfl), (gk2 (List.mem_of_getElem? (i := 228) rfl) rfl), ⟨by decide +kernel, by decide +kernel, by decide +kernel⟩⟩, Or.inl (gk2 (List.mem_of_getElem? (i := 226) rfl) rfl)⟩
set_option maxRecDepth 20000 in
theorem cv_X11_122 : CV RX11 122 mX8_findOrMake 6 1 := ⟨_, rfl, ⟨kc_X8_findOrMake, (gk2 (List.mem_of_getElem? (i := 235) rfl) rfl), (gk1 (List.mem_of_getElem? (i := 12) rfl) rfl), (gk2 (List.mem_of_getElem? (i := 236) rfl) rfl), ⟨by decide +kernel, by decide +kernel, by decide +kernel⟩⟩, Or.inl (gk2 (List.mem_of_getElem? (i := 234) rfl) rfl)⟩
set_option maxRecDepth 20000 in
theorem cv_X11_128 : CV RX11 128 mX4_becomeZeros 4 1 := ⟨_, rfl, ⟨kc_X4_becomeZeros, (gk3 (List.mem_of_getElem? (i := 4) rfl) rfl), (gk1 (List.mem_of_getElem? (i := 2) rfl) rfl), (gk3 (List.mem_of_getElem? (i := 5) rfl) rfl), ⟨by decide +kernel, by decide +kernel, by decide +kernel⟩⟩, Or.inl (gk3 (List.mem_of_getElem? (i := 3) rfl) rfl)⟩
set_option maxRecDepth 20000 in
theorem cv_X11_131 : CV RX11 131 mX8_find 6 1 := ⟨_, rfl, ⟨kc_X8_find, (gk2 (List.mem_of_getElem? (i := 239) rfl) rfl), (gk1 (List.mem_of_getElem? (i := 12) rfl) rfl), (gk3 (List.mem_of_getElem? (i := 0) rfl) rfl), ⟨by decide +kernel, by decide +kernel, by decide +kernel⟩⟩, Or.inl (gk3 (List.mem_of_getElem? (i := 13) rfl) rfl)⟩
set_option maxRecDepth 20000 in
theorem cv_X11_134 : CV RX11 134 mX4_at 4 1 := ⟨_, rfl, ⟨kc_X4_at, (gk3 (List.mem_of_getElem? (i := 15) rfl) rfl), (gk1 (List.mem_of_getElem? (i := 2) rfl) rfl), (gk3 (List.mem_of_getElem? (i := 16) rfl) rfl), ⟨by decide +kernel, by decide +kernel, by decide +kernel⟩⟩, Or.inl (gk3 (List.mem_of_getElem? (i := 14) rfl) rfl)⟩
set_option maxRecDepth 20000 in
theorem cv_X11_140 : CV RX11 140 mX4_add 4 1 := ⟨_, rfl, ⟨kc_X4_add, (gk3 (List.mem_of_getElem? (i := 27) rfl) rfl), (gk1 (List.mem_of_getElem? (i := 2) rfl) rfl), (gk3 (List.mem_of_getElem? (i := 28) rfl) rfl), ⟨by decide +kernel, by decide +kernel, by decide +kernel⟩⟩, Or.inl (gk3 (List.mem_of_getElem? (i := 26) rfl) rfl)⟩
set_option maxRecDepth 20000 in
theorem cv_X11_146 : CV RX11 146 mX4_become 4 3 := ⟨_, rfl, ⟨kc_X4_become, (gk3 (List.mem_of_getElem? (i := 35) rfl) rfl), (gk1 (List.mem_of_getElem? (i := 2) rfl) rfl), (gk3 (List.mem_of_getElem? (i := 36) rfl) rfl), ⟨by decide +kernel, by decide +kernel, by decide +kernel⟩⟩, Or.inl (gk3 (List.mem_of_getElem? (i := 34) rfl) rfl)⟩
set_option maxRecDepth 20000 in
theorem cv_X11_150 : CV RX11 150 mX4_clear 4 0 := ⟨_, rfl, ⟨kc_X4_clear, (gk3 (List.mem_of_getElem? (i := 43) rfl) rfl), (gk1 (List.mem_of_getElem? (i := 2) rfl) rfl), (gk3 (List.mem_of_getElem? (i := 44) rfl) rfl), ⟨by decide +kernel, by decide +kernel, by decide +kernel⟩⟩, Or.inl (gk3 (List.mem_of_getElem? (i := 42) rfl) rfl)⟩
set_option maxRecDepth 20000 in
theorem cv_X11_153 : CV RX11 153 mX1_addRule 1 4 := ⟨_, rfl, ⟨kc_X1_addRule, (gk3 (List.mem_of_getElem? (i := 51) rfl) rfl), (gk1 (List.mem_of_getElem? (i := 10) rfl) rfl), (gk3 (List.mem_of_getElem? (i := 52) rfl) rfl), ⟨by decide +kernel, by decide +kernel, by decide +kernel⟩⟩, Or.inl (gk3 (List.mem_of_getElem? (i := 50) rfl) rfl)⟩
set_option maxRecDepth 20000 in
theorem cv_X11_159 : CV RX11 159 mX11_tapeIsPdu 9 0 := ⟨_, rfl, ⟨kc_X11_tapeIsPdu, (gk3 (List.mem_of_getElem? (i := 65) rfl) rfl), (gk1 (List.mem_of_getElem? (i := 1) rfl) rfl), (gw_mem 4 (by decide +kernel) (by decide +kernel)), ⟨by decide +kernel, by decide +kernel, by decide +kernel⟩⟩, Or.inl (gk3 (List.mem_of_getElem? (i := 63) rfl) rfl)⟩
set_option maxRecDepth 20000 in
theorem cs_X11_163 : CS RX11 163 mX6_served 3 := ⟨⟨kc_X6_served, (gk3 (List.mem_of_getElem? (i := 68) rfl) rfl), (gk1 (List.mem_of_getElem? (i := 14) rfl) rfl), ⟨by decide +kernel, by decide +kernel, by decide +kernel⟩⟩, Or.inl (gk3 (List.mem_of_getElem? (i := 67) rfl) rfl)⟩
set_option maxRecDepth 20000 in
theorem cv_X11_169 : CV RX11 169 mX4_orNone 4 1 := ⟨_, rfl, ⟨kc_X4_orNone, (gk3 (List.mem_of_getElem? (i := 212) rfl) rfl), (gk1 (List.mem_of_getElem? (i := 2) rfl) rfl), (gk3 (List.mem_of_getElem? (i := 213) rfl) rfl), ⟨by decide +kernel, by decide +kernel, by decide +kernel⟩⟩, Or.inl (gk3 (List.mem_of_getElem? (i := 211) rfl) rfl)⟩
set_option maxRecDepth 20000 in
theorem cv_X11_181 : CV RX11 181 mX3_addRequest 3 2 := ⟨_, rfl, ⟨kc_X3_addRequest, (gk3 (List.mem_of_getElem? (i := 224) rfl) rfl), (gk1 (List.mem_of_getElem? (i := 4) rfl) rfl), (gk3 (List.mem_of_getElem? (i := 225) rfl) rfl), ⟨by decide +kernel, by decide +kernel, by decide +kernel⟩⟩, Or.inl (gk3 (List.mem_of_getElem? (i := 223) rfl) rfl)⟩
set_option maxRecDepth 20000 in
theorem cv_X11_185 : CV RX11 185 mX3_addScan 3 4 := ⟨_, rfl, ⟨kc_X3_addScan, (gk4 (List.mem_of_getElem? (i := 26) rfl) rfl), (gk1 (List.mem_of_getElem? (i := 4) rfl) rfl), (gk4 (List.mem_of_getElem? (i := 27) rfl) rfl), ⟨by decide +kernel, by decide +kernel, by decide +kernel⟩⟩, Or.inl (gk4 (List.mem_of_getElem? (i := 25) rfl) rfl)⟩
set_option maxRecDepth 20000 in
theorem cv_X11_189 : CV RX11 189 mX10_tellHarm 8 2 := ⟨_, rfl, ⟨kc_X10_tellHarm, (gk4 (List.mem_of_getElem? (i := 63) rfl) rfl), (gk1 (List.mem_of_getElem? (i := 3) rfl) rfl), (gk4 (List.mem_of_getElem? (i := 64) rfl) rfl), ⟨by decide +kernel, by decide +kernel, by decide +kernel⟩⟩, Or.inl (gk4 (List.mem_of_getElem? (i := 62) rfl) rfl)⟩
set_option maxRecDepth 20000 in
theorem cv_X11_202 : CV RX11 202 mX11_step 9 0 := ⟨_, rfl, ⟨kc_X11_step, (gk4 (List.mem_of_getElem? (i := 189) rfl) rfl), (gk1 (List.mem_of_getElem? (i := 1) rfl) rfl), (gw_mem 8 (by decide +kernel) (by decide +kernel)), ⟨by decide +kernel, by decide +kernel, by decide +kernel⟩⟩, Or.inl (gk4 (List.mem_of_getElem? (i := 187) rfl) rfl)⟩
set_option maxRecDepth 20000 in
theorem cv_X11_205 : CV RX11 205 mX11_applyRules 9 0 := ⟨_, rfl, ⟨kc_X11_applyRules, (gk4 (List.mem_of_getElem? (i := 193) rfl) rfl), (gk1 (List.mem_of_getElem? (i := 1) rfl) rfl), (gw_mem 9 (by decide +kernel) (by decide +kernel)), ⟨by decide +kernel, by decide +kernel, by decide +kernel⟩⟩, Or.inl (gk4 (List.mem_of_getElem? (i := 191) rfl) rfl)⟩
set_option maxRecDepth 20000 in
theorem cv_X11_208 : CV RX11 208 mX3_runScans 3 1 := ⟨_, rfl, ⟨kc_X3_runScans, (gk4 (List.mem_of_getElem? (i := 218) rfl) rfl), (gk1 (List.mem_of_getElem? (i := 4) rfl) rfl), (gk4 (List.mem_of_getElem? (i := 219) rfl) rfl), ⟨by decide +kernel, by decide +kernel, by decide +kernel⟩⟩, Or.inl (gk4 (List.mem_of_getElem? (i := 217) rfl) rfl)⟩
set_option maxRecDepth 20000 in
theorem cv_X11_217 : CV RX11 217 mX11_beginFrame 9 0 := ⟨_, rfl, ⟨kc_X11_beginFrame, (gk4 (List.mem_of_getElem? (i := 228) rfl) rfl), (gk1 (List.mem_of_getElem? (i := 1) rfl) rfl), (gw_mem 13 (by decide +kernel) (by decide +kernel)), ⟨by decide +kernel, by decide +kernel, by decide +kernel⟩⟩, Or.inl (gk4 (List.mem_of_getElem? (i := 226) rfl) rfl)⟩
set_option maxRecDepth 20000 in
theorem cv_X11_220 : CV RX11 220 mX3_waitOneTick 3 1 := ⟨_, rfl, ⟨kc_X3_waitOneTick, (gk4 (List.mem_of_getElem? (i := 239) rfl) rfl), (gk1 (List.mem_of_getElem? (i := 4) rfl) rfl), (gk5 (List.mem_of_getElem? (i := 0) rfl) rfl), ⟨by decide +kernel, by decide +kernel, by decide +kernel⟩⟩, Or.inl (gk4 (List.mem_of_getElem? (i := 238) rfl) rfl)⟩
set_option maxRecDepth 20000 in
theorem cv_X11_224 : CV RX11 224 mX11_shortenLags 9 0 := ⟨_, rfl, ⟨kc_X11_shortenLags, (gk5 (List.mem_of_getElem? (i := 15) rfl) rfl), (gk1 (List.mem_of_getElem? (i := 1) rfl) rfl), (gw_mem 16 (by decide +kernel) (by decide +kernel)), ⟨by decide +kernel, by decide +kernel, by decide +kernel⟩⟩, Or.inl (gk5 (List.mem_of_getElem? (i := 13) rfl) rfl)⟩
set_option maxRecDepth 20000 in
theorem cv_X11_227 : CV RX11 227 mX10_advance 8 0 := ⟨_, rfl, ⟨kc_X10_advance, (gk5 (List.mem_of_getElem? (i := 18) rfl) rfl), (gk1 (List.mem_of_getElem? (i := 3) rfl) rfl), (gk5 (List.mem_of_getElem? (i := 19) rfl) rfl), ⟨by decide +kernel, by decide +kernel, by decide +kernel⟩⟩, Or.inl (gk5 (List.mem_of_getElem? (i := 17) rfl) rfl)⟩
set_option maxRecDepth 20000 in
theorem cv_X11_233 : CV RX11 233 mX11_spread 9 2 := ⟨_, rfl, ⟨kc_X11_spread, (gk5 (List.mem_of_getElem? (i := 37) rfl) rfl), (gk1 (List.mem_of_getElem? (i := 1) rfl) rfl), (gw_mem 20 (by decide +kernel) (by decide +kernel)), ⟨by decide +kernel, by decide +kernel, by decide +kernel⟩⟩, Or.inl (gk5 (List.mem_of_getElem? (i := 35) rfl) rfl)⟩
set_option maxRecDepth 20000 in
theorem cv_X11_236 : CV RX11 236 mX3_startWaiting 3 0 := ⟨_, rfl, ⟨kc_X3_startWaiting, (gk5 (List.mem_of_getElem? (i := 45) rfl) rfl), (gk1 (List.mem_of_getElem? (i := 4) rfl) rfl), (gk5 (List.mem_of_getElem? (i := 46) rfl) rfl), ⟨by decide +kernel, by decide +kernel, by decide +kernel⟩⟩, Or.inl (gk5 (List.mem_of_getElem? (i := 44) rfl) rfl)⟩
set_option maxRecDepth 20000 in
theorem cv_X11_239 : CV RX11 239 mX11_silence 9 1 := ⟨_, rfl, ⟨kc_X11_silence, (gk5 (List.mem_of_getElem? (i := 50) rfl) rfl), (gk1 (List.mem_of_getElem? (i := 1) rfl) rfl), (gw_mem 21 (by decide +kernel) (by decide +kernel)), ⟨by decide +kernel, by decide +kernel, by decide +kernel⟩⟩, Or.inl (gk5 (List.mem_of_getElem? (i := 48) rfl) rfl)⟩
set_option maxRecDepth 20000 in
theorem cv_X11_242 : CV RX11 242 mX1_applyRules 1 0 := ⟨_, rfl, ⟨kc_X1_applyRules, (gk4 (List.mem_of_getElem? (i := 196) rfl) rfl), (gk1 (List.mem_of_getElem? (i := 10) rfl) rfl), (gk4 (List.mem_of_getElem? (i := 197) rfl) rfl), ⟨by decide +kernel, by decide +kernel, by decide +kernel⟩⟩, Or.inl (gk4 (List.mem_of_getElem? (i := 195) rfl) rfl)⟩
set_option maxRecDepth 20000 in
theorem cv_X11_243 : CV RX11 243 mX3_firstRequest 3 0 := ⟨_, rfl, ⟨kc_X3_firstRequest, (gk4 (List.mem_of_getElem? (i := 96) rfl) rfl), (gk1 (List.mem_of_getElem? (i := 4) rfl) rfl), (gk4 (List.mem_of_getElem? (i := 97) rfl) rfl), ⟨by decide +kernel, by decide +kernel, by decide +kernel⟩⟩, Or.inl (gk4 (List.mem_of_getElem? (i := 95) rfl) rfl)⟩
set_option maxRecDepth 20000 in
theorem cv_X11_259 : CV RX11 259 mX10_startFrame 8 3 := ⟨_, rfl, ⟨kc_X10_startFrame, (gk4 (List.mem_of_getElem? (i := 231) rfl) rfl), (gk1 (List.mem_of_getElem? (i := 3) rfl) rfl), (gk4 (List.mem_of_getElem? (i := 232) rfl) rfl), ⟨by decide +kernel, by decide +kernel, by decide +kernel⟩⟩, Or.inl (gk4 (List.mem_of_getElem? (i := 230) rfl) rfl)⟩
set_option maxRecDepth 20000 in
theorem cv_X11_273 : CV RX11 273 mX9_hear 7 1 := ⟨_, rfl, ⟨kc_X9_hear, (gk5 (List.mem_of_getElem? (i := 40) rfl) rfl), (gk1 (List.mem_of_getElem? (i := 5) rfl) rfl), (gk5 (List.mem_of_getElem? (i := 41) rfl) rfl), ⟨by decide +kernel, by decide +kernel, by decide +kernel⟩⟩, Or.inl (gk5 (List.mem_of_getElem? (i := 39) rfl) rfl)⟩
set_option maxRecDepth 20000 in
theorem cv_X11_279 : CV RX11 279 mX9_frameEndsNow 7 0 := ⟨_, rfl, ⟨kc_X9_frameEndsNow, (gk5 (List.mem_of_getElem? (i := 53) rfl) rfl), (gk1 (List.mem_of_getElem? (i := 5) rfl) rfl), (gk5 (List.mem_of_getElem? (i := 54) rfl) rfl), ⟨by decide +kernel, by decide +kernel, by decide +kernel⟩⟩, Or.inl (gk5 (List.mem_of_getElem? (i := 52) rfl) rfl)⟩
set_option maxRecDepth 20000 in
theorem cv_X11_282 : CV RX11 282 mX3_takeFrame 3 1 := ⟨_, rfl, ⟨kc_X3_takeFrame, (gk5 (List.mem_of_getElem? (i := 57) rfl) rfl), (gk1 (List.mem_of_getElem? (i := 4) rfl) rfl), (gk5 (List.mem_of_getElem? (i := 58) rfl) rfl), ⟨by decide +kernel, by decide +kernel, by decide +kernel⟩⟩, Or.inl (gk5 (List.mem_of_getElem? (i := 56) rfl) rfl)⟩
set_option maxRecDepth 20000 in
theorem cv_X11_286 : CV RX11 286 mX9_forget 7 0 := ⟨_, rfl, ⟨kc_X9_forget, (gk5 (List.mem_of_getElem? (i := 91) rfl) rfl), (gk1 (List.mem_of_getElem? (i := 5) rfl) rfl), (gk5 (List.mem_of_getElem? (i := 92) rfl) rfl), ⟨by decide +kernel, by decide +kernel, by decide +kernel⟩⟩, Or.inl (gk5 (List.mem_of_getElem? (i := 90) rfl) rfl)⟩
set_option maxRecDepth 20000 in
theorem cv_X11_289 : CV RX11 289 mX1_countFrame 1 0 := ⟨_, rfl, ⟨kc_X1_countFrame, (gk5 (List.mem_of_getElem? (i := 96) rfl) rfl), (gk1 (List.mem_of_getElem? (i := 10) rfl) rfl), (gk5 (List.mem_of_getElem? (i := 97) rfl) rfl), ⟨by decide +kernel, by decide +kernel, by decide +kernel⟩⟩, Or.inl (gk5 (List.mem_of_getElem? (i := 95) rfl) rfl)⟩
set_option maxRecDepth 20000 in
theorem cv_X11_292 : CV RX11 292 mX11_takeMessage 9 1 := ⟨_, rfl, ⟨kc_X11_takeMessage, (gk5 (List.mem_of_getElem? (i := 103) rfl) rfl), (gk1 (List.mem_of_getElem? (i := 1) rfl) rfl), (gw_mem 22 (by decide +kernel) (by decide +kernel)), ⟨by decide +kernel, by decide +kernel, by decide +kernel⟩⟩, Or.inl (gk5 (List.mem_of_getElem? (i := 101) rfl) rfl)⟩
set_option maxRecDepth 20000 in
theorem cs_X11_303 : CS RX11 303 mX7_isRestart 1 := ⟨⟨kc_X7_isRestart, (gk5 (List.mem_of_getElem? (i := 106) rfl) rfl), (gk1 (List.mem_of_getElem? (i := 15) rfl) rfl), ⟨by decide +kernel, by decide +kernel, by decide +kernel⟩⟩, Or.inl (gk5 (List.mem_of_getElem? (i := 105) rfl) rfl)⟩
set_option maxRecDepth 20000 in
theorem cs_X11_309 : CS RX11 309 mX6_isForAll 1 := ⟨⟨kc_X6_isForAll, (gk5 (List.mem_of_getElem? (i := 110) rfl) rfl), (gk1 (List.mem_of_getElem? (i := 14) rfl) rfl), ⟨by decide +kernel, by decide +kernel, by decide +kernel⟩⟩, Or.inl (gk5 (List.mem_of_getElem? (i := 109) rfl) rfl)⟩
set_option maxRecDepth 20000 in
theorem cv_X11_312 : CV RX11 312 mX1_keepReply 1 2 := ⟨_, rfl, ⟨kc_X1_keepReply, (gk5 (List.mem_of_getElem? (i := 113) rfl) rfl), (gk1 (List.mem_of_getElem? (i := 10) rfl) rfl), (gk5 (List.mem_of_getElem? (i := 114) rfl) rfl), ⟨by decide +kernel, by decide +kernel, by decide +kernel⟩⟩, Or.inl (gk5 (List.mem_of_getElem? (i := 112) rfl) rfl)⟩
set_option maxRecDepth 20000 in
theorem cv_X11_316 : CV RX11 316 mX3_firstResult 3 0 := ⟨_, rfl, ⟨kc_X3_firstResult, (gk4 (List.mem_of_getElem? (i := 75) rfl) rfl), (gk1 (List.mem_of_getElem? (i := 4) rfl) rfl), (gk4 (List.mem_of_getElem? (i := 76) rfl) rfl), ⟨by decide +kernel, by decide +kernel, by decide +kernel⟩⟩, Or.inl (gk4 (List.mem_of_getElem? (i := 74) rfl) rfl)⟩
set_option maxRecDepth 20000 in
theorem cv_X11_333 : CV RX11 333 mX3_dropResult 3 0 := ⟨_, rfl, ⟨kc_X3_dropResult, (gk4 (List.mem_of_getElem? (i := 83) rfl) rfl), (gk1 (List.mem_of_getElem? (i := 4) rfl) rfl), (gk4 (List.mem_of_getElem? (i := 84) rfl) rfl), ⟨by decide +kernel, by decide +kernel, by decide +kernel⟩⟩, Or.inl (gk4 (List.mem_of_getElem? (i := 82) rfl) rfl)⟩
set_option maxRecDepth 20000 in
theorem cv_X11_348 : CV RX11 348 mX11_firstAttempts 9 0 := ⟨_, rfl, ⟨kc_X11_firstAttempts, (gk4 (List.mem_of_getElem? (i := 93) rfl) rfl), (gk1 (List.mem_of_getElem? (i := 1) rfl) rfl), (gw_mem 6 (by decide +kernel) (by decide +kernel)), ⟨by decide +kernel, by decide +kernel, by decide +kernel⟩⟩, Or.inl (gk4 (List.mem_of_getElem? (i := 91) rfl) rfl)⟩
set_option maxRecDepth 20000 in
theorem cv_X11_375 : CV RX11 375 mX1_counterOf 1 1 := ⟨_, rfl, ⟨kc_X1_counterOf, (gk3 (List.mem_of_getElem? (i := 147) rfl) rfl), (gk1 (List.mem_of_getElem? (i := 10) rfl) rfl), (gk3 (List.mem_of_getElem? (i := 148) rfl) rfl), ⟨by decide +kernel, by decide +kernel, by decide +kernel⟩⟩, Or.inl (gk4 (List.mem_of_getElem? (i := 103) rfl) rfl)⟩
set_option maxRecDepth 20000 in
theorem ci_X1_23 : CI RX1 23 mX0_init 1 := ⟨⟨kc_X0_init, rfl, (gk2 (List.mem_of_getElem? (i := 54) rfl) rfl), (gk1 (List.mem_of_getElem? (i := 11) rfl) rfl), rfl, ⟨by decide +kernel, by decide +kernel, by decide +kernel⟩⟩, Or.inl (gk2 (List.mem_of_getElem? (i := 53) rfl) rfl)⟩
set_option maxRecDepth 20000 in
theorem ci_X1_46 : CI RX1 46 mX8_init 2 := ⟨⟨kc_X8_init, rfl, (gk2 (List.mem_of_getElem? (i := 75) rfl) rfl), (gk1 (List.mem_of_getElem? (i := 12) rfl) rfl), rfl, ⟨by decide +kernel, by decide +kernel, by decide +kernel⟩⟩, Or.inl (gk2 (List.mem_of_getElem? (i := 74) rfl) rfl)⟩
set_option maxRecDepth 20000 in
theorem ci_X1_61 : CI RX1 61 mX4_init 1 := ⟨⟨kc_X4_init, rfl, (gk1 (List.mem_of_getElem? (i := 34) rfl) rfl), (gk1 (List.mem_of_getElem? (i := 2) rfl) rfl), rfl, ⟨by decide +kernel, by decide +kernel, by decide +kernel⟩⟩, Or.inl (gk2 (List.mem_of_getElem? (i := 94) rfl) rfl)⟩
set_option maxRecDepth 20000 in
theorem ci_X1_74 : CI RX1 74 mX9_init 0 := ⟨⟨kc_X9_init, rfl, (gk1 (List.mem_of_getElem? (i := 122) rfl) rfl), (gk1 (List.mem_of_getElem? (i := 5) rfl) rfl), rfl, ⟨by decide +kernel, by decide +kernel, by decide +kernel⟩⟩, Or.inl (gk2 (List.mem_of_getElem? (i := 96) rfl) rfl)⟩
set_option maxRecDepth 20000 in
theorem cv_X1_85 : CV RX1 85 mX0_has 0 2 := ⟨_, rfl, ⟨kc_X0_has, (gk2 (List.mem_of_getElem? (i := 207) rfl) rfl), (gk1 (List.mem_of_getElem? (i := 11) rfl) rfl), (gk2 (List.mem_of_getElem? (i := 208) rfl) rfl), ⟨by decide +kernel, by decide +kernel, by decide +kernel⟩⟩, Or.inl (gk3 (List.mem_of_getElem? (i := 110) rfl) rfl)⟩
set_option maxRecDepth 20000 in
theorem cv_X1_89 : CV RX1 89 mX4_word 4 1 := ⟨_, rfl, ⟨kc_X4_word, (gk3 (List.mem_of_getElem? (i := 80) rfl) rfl), (gk1 (List.mem_of_getElem? (i := 2) rfl) rfl), (gk3 (List.mem_of_getElem? (i := 81) rfl) rfl), ⟨by decide +kernel, by decide +kernel, by decide +kernel⟩⟩, Or.inl (gk3 (List.mem_of_getElem? (i := 111) rfl) rfl)⟩
set_option maxRecDepth 20000 in
theorem cv_X1_93 : CV RX1 93 mX1_mayBeGiven 1 2 := ⟨_, rfl, ⟨kc_X1_mayBeGiven, (gk3 (List.mem_of_getElem? (i := 113) rfl) rfl), (gk1 (List.mem_of_getElem? (i := 10) rfl) rfl), (gk3 (List.mem_of_getElem? (i := 114) rfl) rfl), ⟨by decide +kernel, by decide +kernel, by decide +kernel⟩⟩, Or.inl (gk3 (List.mem_of_getElem? (i := 112) rfl) rfl)⟩
set_option maxRecDepth 20000 in
theorem cv_X1_100 : CV RX1 100 mX9_isGood 7 0 := ⟨_, rfl, ⟨kc_X9_isGood, (gk5 (List.mem_of_getElem? (i := 61) rfl) rfl), (gk1 (List.mem_of_getElem? (i := 5) rfl) rfl), (gk5 (List.mem_of_getElem? (i := 62) rfl) rfl), ⟨by decide +kernel, by decide +kernel, by decide +kernel⟩⟩, Or.inl (gk5 (List.mem_of_getElem? (i := 99) rfl) rfl)⟩
set_option maxRecDepth 20000 in
theorem cv_X1_104 : CV RX1 104 mX1_count 1 1 := ⟨_, rfl, ⟨kc_X1_count, (gk3 (List.mem_of_getElem? (i := 72) rfl) rfl), (gk1 (List.mem_of_getElem? (i := 10) rfl) rfl), (gk3 (List.mem_of_getElem? (i := 73) rfl) rfl), ⟨by decide +kernel, by decide +kernel, by decide +kernel⟩⟩, Or.inl (gk5 (List.mem_of_getElem? (i := 100) rfl) rfl)⟩
set_option maxRecDepth 20000 in
theorem cv_X1_110 : CV RX1 110 mX4_addLatest 4 1 := ⟨_, rfl, ⟨kc_X4_addLatest, (gk3 (List.mem_of_getElem? (i := 193) rfl) rfl), (gk1 (List.mem_of_getElem? (i := 2) rfl) rfl), (gk3 (List.mem_of_getElem? (i := 194) rfl) rfl), ⟨by decide +kernel, by decide +kernel, by decide +kernel⟩⟩, Or.inl (gk4 (List.mem_of_getElem? (i := 216) rfl) rfl)⟩
set_option maxRecDepth 20000 in
theorem cv_X1_116 : CV RX1 116 mX4_at 4 1 := ⟨_, rfl, ⟨kc_X4_at, (gk3 (List.mem_of_getElem? (i := 15) rfl) rfl), (gk1 (List.mem_of_getElem? (i := 2) rfl) rfl), (gk3 (List.mem_of_getElem? (i := 16) rfl) rfl), ⟨by decide +kernel, by decide +kernel, by decide +kernel⟩⟩, Or.inl (gk4 (List.mem_of_getElem? (i := 199) rfl) rfl)⟩
set_option maxRecDepth 20000 in
theorem cv_X1_122 : CV RX1 122 mX4_become 4 3 := ⟨_, rfl, ⟨kc_X4_become, (gk3 (List.mem_of_getElem? (i := 35) rfl) rfl), (gk1 (List.mem_of_getElem? (i := 2) rfl) rfl), (gk3 (List.mem_of_getElem? (i := 36) rfl) rfl), ⟨by decide +kernel, by decide +kernel, by decide +kernel⟩⟩, Or.inl (gk5 (List.mem_of_getElem? (i := 116) rfl) rfl)⟩
set_option maxRecDepth 20000 in
theorem cv_X1_129 : CV RX1 129 mX1_applyOne 1 4 := ⟨_, rfl, ⟨kc_X1_applyOne, (gk4 (List.mem_of_getElem? (i := 202) rfl) rfl), (gk1 (List.mem_of_getElem? (i := 10) rfl) rfl), (gw_mem 10 (by decide +kernel) (by decide +kernel)), ⟨by decide +kernel, by decide +kernel, by decide +kernel⟩⟩, Or.inl (gk4 (List.mem_of_getElem? (i := 200) rfl) rfl)⟩
set_option maxRecDepth 20000 in
theorem cv_X1_133 : CV RX1 133 mX4_add 4 1 := ⟨_, rfl, ⟨kc_X4_add, (gk3 (List.mem_of_getElem? (i := 27) rfl) rfl), (gk1 (List.mem_of_getElem? (i := 2) rfl) rfl), (gk3 (List.mem_of_getElem? (i := 28) rfl) rfl), ⟨by decide +kernel, by decide +kernel, by decide +kernel⟩⟩, Or.inl (gk3 (List.mem_of_getElem? (i := 54) rfl) rfl)⟩
set_option maxRecDepth 20000 in
theorem cv_X1_136 : CV RX1 136 mX0_value 0 1 := ⟨_, rfl, ⟨kc_X0_value, (gk2 (List.mem_of_getElem? (i := 219) rfl) rfl), (gk1 (List.mem_of_getElem? (i := 11) rfl) rfl), (gk2 (List.mem_of_getElem? (i := 220) rfl) rfl), ⟨by decide +kernel, by decide +kernel, by decide +kernel⟩⟩, Or.inl (gk4 (List.mem_of_getElem? (i := 204) rfl) rfl)⟩
set_option maxRecDepth 20000 in
theorem cv_X1_139 : CV RX1 139 mX0_write 0 2 := ⟨_, rfl, ⟨kc_X0_write, (gk2 (List.mem_of_getElem? (i := 211) rfl) rfl), (gk1 (List.mem_of_getElem? (i := 11) rfl) rfl), (gk2 (List.mem_of_getElem? (i := 212) rfl) rfl), ⟨by decide +kernel, by decide +kernel, by decide +kernel⟩⟩, Or.inl (gk4 (List.mem_of_getElem? (i := 205) rfl) rfl)⟩
set_option maxRecDepth 20000 in
theorem cs_X1_142 : CS RX1 142 mX1_nearer 3 := ⟨⟨kc_X1_nearer, (gk4 (List.mem_of_getElem? (i := 207) rfl) rfl), (gk1 (List.mem_of_getElem? (i := 10) rfl) rfl), ⟨by decide +kernel, by decide +kernel, by decide +kernel⟩⟩, Or.inl (gk4 (List.mem_of_getElem? (i := 206) rfl) rfl)⟩
set_option maxRecDepth 20000 in
theorem cv_X1_146 : CV RX1 146 mX1_pour 1 2 := ⟨_, rfl, ⟨kc_X1_pour, (gk4 (List.mem_of_getElem? (i := 213) rfl) rfl), (gk1 (List.mem_of_getElem? (i := 10) rfl) rfl), (gw_mem 11 (by decide +kernel) (by decide +kernel)), ⟨by decide +kernel, by decide +kernel, by decide +kernel⟩⟩, Or.inl (gk4 (List.mem_of_getElem? (i := 211) rfl) rfl)⟩
set_option maxRecDepth 20000 in
theorem cv_X1_158 : CV RX1 158 mX8_find 6 1 := ⟨_, rfl, ⟨kc_X8_find, (gk2 (List.mem_of_getElem? (i := 239) rfl) rfl), (gk1 (List.mem_of_getElem? (i := 12) rfl) rfl), (gk3 (List.mem_of_getElem? (i := 0) rfl) rfl), ⟨by decide +kernel, by decide +kernel, by decide +kernel⟩⟩, Or.inl (gk4 (List.mem_of_getElem? (i := 215) rfl) rfl)⟩
set_option maxRecDepth 20000 in
theorem ci_X2_11 : CI RX2 11 mX4_init 1 := ⟨⟨kc_X4_init, rfl, (gk1 (List.mem_of_getElem? (i := 34) rfl) rfl), (gk1 (List.mem_of_getElem? (i := 2) rfl) rfl), rfl, ⟨by decide +kernel, by decide +kernel, by decide +kernel⟩⟩, Or.inl (gk3 (List.mem_of_getElem? (i := 233) rfl) rfl)⟩
set_option maxRecDepth 20000 in
theorem ci_X3_11 : CI RX3 11 mX9_init 0 := ⟨⟨kc_X9_init, rfl, (gk1 (List.mem_of_getElem? (i := 122) rfl) rfl), (gk1 (List.mem_of_getElem? (i := 5) rfl) rfl), rfl, ⟨by decide +kernel, by decide +kernel, by decide +kernel⟩⟩, Or.inl (gk1 (List.mem_of_getElem? (i := 121) rfl) rfl)⟩
set_option maxRecDepth 20000 in
theorem ci_X3_58 : CI RX3 58 mX2_init 0 := ⟨⟨kc_X2_init, rfl, (gk3 (List.mem_of_getElem? (i := 229) rfl) rfl), (gk1 (List.mem_of_getElem? (i := 16) rfl) rfl), rfl, ⟨by decide +kernel, by decide +kernel, by decide +kernel⟩⟩, Or.inl (gk3 (List.mem_of_getElem? (i := 228) rfl) rfl)⟩
set_option maxRecDepth 20000 in
theorem cv_X3_80 : CV RX3 80 mX4_become 4 3 := ⟨_, rfl, ⟨kc_X4_become, (gk3 (List.mem_of_getElem? (i := 35) rfl) rfl), (gk1 (List.mem_of_getElem? (i := 2) rfl) rfl), (gk3 (List.mem_of_getElem? (i := 36) rfl) rfl), ⟨by decide +kernel, by decide +kernel, by decide +kernel⟩⟩, Or.inl (gk4 (List.mem_of_getElem? (i := 20) rfl) rfl)⟩
set_option maxRecDepth 20000 in
theorem ci_X3_87 : CI RX3 87 mX5_init 4 := ⟨⟨kc_X5_init, rfl, (gk4 (List.mem_of_getElem? (i := 31) rfl) rfl), (gk1 (List.mem_of_getElem? (i := 17) rfl) rfl), rfl, ⟨by decide +kernel, by decide +kernel, by decide +kernel⟩⟩, Or.inl (gk4 (List.mem_of_getElem? (i := 30) rfl) rfl)⟩
set_option maxRecDepth 20000 in
theorem cv_X3_99 : CV RX3 99 mX3_isInRow 3 1 := ⟨_, rfl, ⟨kc_X3_isInRow, (gk4 (List.mem_of_getElem? (i := 223) rfl) rfl), (gk1 (List.mem_of_getElem? (i := 4) rfl) rfl), (gw_mem 12 (by decide +kernel) (by decide +kernel)), ⟨by decide +kernel, by decide +kernel, by decide +kernel⟩⟩, Or.inl (gk4 (List.mem_of_getElem? (i := 221) rfl) rfl)⟩
set_option maxRecDepth 20000 in
theorem cv_X3_105 : CV RX3 105 mX3_addRequest 3 2 := ⟨_, rfl, ⟨kc_X3_addRequest, (gk3 (List.mem_of_getElem? (i := 224) rfl) rfl), (gk1 (List.mem_of_getElem? (i := 4) rfl) rfl), (gk3 (List.mem_of_getElem? (i := 225) rfl) rfl), ⟨by decide +kernel, by decide +kernel, by decide +kernel⟩⟩, Or.inl (gk4 (List.mem_of_getElem? (i := 225) rfl) rfl)⟩
set_option maxRecDepth 20000 in
theorem cv_X3_112 : CV RX3 112 mX3_firstRequest 3 0 := ⟨_, rfl, ⟨kc_X3_firstRequest, (gk4 (List.mem_of_getElem? (i := 96) rfl) rfl), (gk1 (List.mem_of_getElem? (i := 4) rfl) rfl), (gk4 (List.mem_of_getElem? (i := 97) rfl) rfl), ⟨by decide +kernel, by decide +kernel, by decide +kernel⟩⟩, Or.inl (gk5 (List.mem_of_getElem? (i := 2) rfl) rfl)⟩
set_option maxRecDepth 20000 in
theorem cv_X3_116 : CV RX3 116 mX3_finish 3 4 := ⟨_, rfl, ⟨kc_X3_finish, (gk5 (List.mem_of_getElem? (i := 5) rfl) rfl), (gk1 (List.mem_of_getElem? (i := 4) rfl) rfl), (gw_mem 14 (by decide +kernel) (by decide +kernel)), ⟨by decide +kernel, by decide +kernel, by decide +kernel⟩⟩, Or.inl (gk5 (List.mem_of_getElem? (i := 3) rfl) rfl)⟩
set_option maxRecDepth 20000 in
theorem cv_X3_123 : CV RX3 123 mX3_fail 3 2 := ⟨_, rfl, ⟨kc_X3_fail, (gk5 (List.mem_of_getElem? (i := 11) rfl) rfl), (gk1 (List.mem_of_getElem? (i := 4) rfl) rfl), (gw_mem 15 (by decide +kernel) (by decide +kernel)), ⟨by decide +kernel, by decide +kernel, by decide +kernel⟩⟩, Or.inl (gk5 (List.mem_of_getElem? (i := 9) rfl) rfl)⟩
set_option maxRecDepth 20000 in
theorem cv_X3_130 : CV RX3 130 mX9_isGood 7 0 := ⟨_, rfl, ⟨kc_X9_isGood, (gk5 (List.mem_of_getElem? (i := 61) rfl) rfl), (gk1 (List.mem_of_getElem? (i := 5) rfl) rfl), (gk5 (List.mem_of_getElem? (i := 62) rfl) rfl), ⟨by decide +kernel, by decide +kernel, by decide +kernel⟩⟩, Or.inl (gk5 (List.mem_of_getElem? (i := 60) rfl) rfl)⟩
set_option maxRecDepth 20000 in
theorem cv_X3_134 : CV RX3 134 mX4_at 4 1 := ⟨_, rfl, ⟨kc_X4_at, (gk3 (List.mem_of_getElem? (i := 15) rfl) rfl), (gk1 (List.mem_of_getElem? (i := 2) rfl) rfl), (gk3 (List.mem_of_getElem? (i := 16) rfl) rfl), ⟨by decide +kernel, by decide +kernel, by decide +kernel⟩⟩, Or.inl (gk5 (List.mem_of_getElem? (i := 66) rfl) rfl)⟩
set_option maxRecDepth 20000 in
theorem cs_X3_138 : CS RX3 138 mX7_isRefusal 2 := ⟨⟨kc_X7_isRefusal, (gk5 (List.mem_of_getElem? (i := 68) rfl) rfl), (gk1 (List.mem_of_getElem? (i := 15) rfl) rfl), ⟨by decide +kernel, by decide +kernel, by decide +kernel⟩⟩, Or.inl (gk5 (List.mem_of_getElem? (i := 67) rfl) rfl)⟩
set_option maxRecDepth 20000 in
theorem cs_X3_144 : CS RX3 144 mX7_fits 2 := ⟨⟨kc_X7_fits, (gk5 (List.mem_of_getElem? (i := 71) rfl) rfl), (gk1 (List.mem_of_getElem? (i := 15) rfl) rfl), ⟨by decide +kernel, by decide +kernel, by decide +kernel⟩⟩, Or.inl (gk5 (List.mem_of_getElem? (i := 70) rfl) rfl)⟩
set_option maxRecDepth 20000 in
theorem cv_X3_156 : CV RX3 156 mX4_clear 4 0 := ⟨_, rfl, ⟨kc_X4_clear, (gk3 (List.mem_of_getElem? (i := 43) rfl) rfl), (gk1 (List.mem_of_getElem? (i := 2) rfl) rfl), (gk3 (List.mem_of_getElem? (i := 44) rfl) rfl), ⟨by decide +kernel, by decide +kernel, by decide +kernel⟩⟩, Or.inl (gk5 (List.mem_of_getElem? (i := 7) rfl) rfl)⟩
set_option maxRecDepth 20000 in
theorem cv_X3_159 : CV RX3 159 mX4_addPart 4 3 := ⟨_, rfl, ⟨kc_X4_addPart, (gk3 (List.mem_of_getElem? (i := 39) rfl) rfl), (gk1 (List.mem_of_getElem? (i := 2) rfl) rfl), (gk3 (List.mem_of_getElem? (i := 40) rfl) rfl), ⟨by decide +kernel, by decide +kernel, by decide +kernel⟩⟩, Or.inl (gk5 (List.mem_of_getElem? (i := 8) rfl) rfl)⟩
set_option maxRecDepth 20000 in
theorem cv_X4_28 : CV RX4 28 mX4_addPart 4 3 := ⟨_, rfl, ⟨kc_X4_addPart, (gk3 (List.mem_of_getElem? (i := 39) rfl) rfl), (gk1 (List.mem_of_getElem? (i := 2) rfl) rfl), (gk3 (List.mem_of_getElem? (i := 40) rfl) rfl), ⟨by decide +kernel, by decide +kernel, by decide +kernel⟩⟩, Or.inl (gk3 (List.mem_of_getElem? (i := 38) rfl) rfl)⟩
set_option maxRecDepth 20000 in
theorem ci_X5_11 : CI RX5 11 mX4_init 1 := ⟨⟨kc_X4_init, rfl, (gk1 (List.mem_of_getElem? (i := 34) rfl) rfl), (gk1 (List.mem_of_getElem? (i := 2) rfl) rfl), rfl, ⟨by decide +kernel, by decide +kernel, by decide +kernel⟩⟩, Or.inl (gk4 (List.mem_of_getElem? (i := 35) rfl) rfl)⟩
set_option maxRecDepth 20000 in
theorem cv_X5_24 : CV RX5 24 mX4_become 4 3 := ⟨_, rfl, ⟨kc_X4_become, (gk3 (List.mem_of_getElem? (i := 35) rfl) rfl), (gk1 (List.mem_of_getElem? (i := 2) rfl) rfl), (gk3 (List.mem_of_getElem? (i := 36) rfl) rfl), ⟨by decide +kernel, by decide +kernel, by decide +kernel⟩⟩, Or.inl (gk4 (List.mem_of_getElem? (i := 36) rfl) rfl)⟩
set_option maxRecDepth 20000 in
theorem cv_X6_9 : CV RX6 9 mX4_clear 4 0 := ⟨_, rfl, ⟨kc_X4_clear, (gk3 (List.mem_of_getElem? (i := 43) rfl) rfl), (gk1 (List.mem_of_getElem? (i := 2) rfl) rfl), (gk3 (List.mem_of_getElem? (i := 44) rfl) rfl), ⟨by decide +kernel, by decide +kernel, by decide +kernel⟩⟩, Or.inl (gk3 (List.mem_of_getElem? (i := 70) rfl) rfl)⟩
set_option maxRecDepth 20000 in
theorem cv_X6_20 : CV RX6 20 mX1_count 1 1 := ⟨_, rfl, ⟨kc_X1_count, (gk3 (List.mem_of_getElem? (i := 72) rfl) rfl), (gk1 (List.mem_of_getElem? (i := 10) rfl) rfl), (gk3 (List.mem_of_getElem? (i := 73) rfl) rfl), ⟨by decide +kernel, by decide +kernel, by decide +kernel⟩⟩, Or.inl (gk3 (List.mem_of_getElem? (i := 71) rfl) rfl)⟩
set_option maxRecDepth 20000 in
theorem cs_X6_24 : CS RX6 24 mX7_fault 1 := ⟨⟨kc_X7_fault, (gk3 (List.mem_of_getElem? (i := 76) rfl) rfl), (gk1 (List.mem_of_getElem? (i := 15) rfl) rfl), ⟨by decide +kernel, by decide +kernel, by decide +kernel⟩⟩, Or.inl (gk3 (List.mem_of_getElem? (i := 75) rfl) rfl)⟩
set_option maxRecDepth 20000 in
theorem cs_X6_30 : CS RX6 30 mX6_faultHere 2 := ⟨⟨kc_X6_faultHere, (gk3 (List.mem_of_getElem? (i := 100) rfl) rfl), (gk1 (List.mem_of_getElem? (i := 14) rfl) rfl), ⟨by decide +kernel, by decide +kernel, by decide +kernel⟩⟩, Or.inl (gk3 (List.mem_of_getElem? (i := 99) rfl) rfl)⟩
set_option maxRecDepth 20000 in
theorem cv_X6_36 : CV RX6 36 mX4_at 4 1 := ⟨_, rfl, ⟨kc_X4_at, (gk3 (List.mem_of_getElem? (i := 15) rfl) rfl), (gk1 (List.mem_of_getElem? (i := 2) rfl) rfl), (gk3 (List.mem_of_getElem? (i := 16) rfl) rfl), ⟨by decide +kernel, by decide +kernel, by decide +kernel⟩⟩, Or.inl (gk3 (List.mem_of_getElem? (i := 103) rfl) rfl)⟩
set_option maxRecDepth 20000 in
theorem cv_X6_40 : CV RX6 40 mX4_add 4 1 := ⟨_, rfl, ⟨kc_X4_add, (gk3 (List.mem_of_getElem? (i := 27) rfl) rfl), (gk1 (List.mem_of_getElem? (i := 2) rfl) rfl), (gk3 (List.mem_of_getElem? (i := 28) rfl) rfl), ⟨by decide +kernel, by decide +kernel, by decide +kernel⟩⟩, Or.inl (gk3 (List.mem_of_getElem? (i := 134) rfl) rfl)⟩
set_option maxRecDepth 20000 in
theorem cs_X6_43 : CS RX6 43 mX6_isTelling 1 := ⟨⟨kc_X6_isTelling, (gk3 (List.mem_of_getElem? (i := 136) rfl) rfl), (gk1 (List.mem_of_getElem? (i := 14) rfl) rfl), ⟨by decide +kernel, by decide +kernel, by decide +kernel⟩⟩, Or.inl (gk3 (List.mem_of_getElem? (i := 135) rfl) rfl)⟩
set_option maxRecDepth 20000 in
theorem cs_X6_47 : CS RX6 47 mX6_tell 3 := ⟨⟨kc_X6_tell, (gk3 (List.mem_of_getElem? (i := 139) rfl) rfl), (gk1 (List.mem_of_getElem? (i := 14) rfl) rfl), ⟨by decide +kernel, by decide +kernel, by decide +kernel⟩⟩, Or.inl (gk3 (List.mem_of_getElem? (i := 138) rfl) rfl)⟩
set_option maxRecDepth 20000 in
theorem cs_X6_51 : CS RX6 51 mX6_perform 3 := ⟨⟨kc_X6_perform, (gk3 (List.mem_of_getElem? (i := 176) rfl) rfl), (gk1 (List.mem_of_getElem? (i := 14) rfl) rfl), ⟨by decide +kernel, by decide +kernel, by decide +kernel⟩⟩, Or.inl (gk3 (List.mem_of_getElem? (i := 175) rfl) rfl)⟩
set_option maxRecDepth 20000 in
theorem cv_X6_54 : CV RX6 54 mX4_word 4 1 := ⟨_, rfl, ⟨kc_X4_word, (gk3 (List.mem_of_getElem? (i := 80) rfl) rfl), (gk1 (List.mem_of_getElem? (i := 2) rfl) rfl), (gk3 (List.mem_of_getElem? (i := 81) rfl) rfl), ⟨by decide +kernel, by decide +kernel, by decide +kernel⟩⟩, Or.inl (gk3 (List.mem_of_getElem? (i := 102) rfl) rfl)⟩
set_option maxRecDepth 20000 in
theorem cv_X6_61 : CV RX6 61 mX0_has 0 2 := ⟨_, rfl, ⟨kc_X0_has, (gk2 (List.mem_of_getElem? (i := 207) rfl) rfl), (gk1 (List.mem_of_getElem? (i := 11) rfl) rfl), (gk2 (List.mem_of_getElem? (i := 208) rfl) rfl), ⟨by decide +kernel, by decide +kernel, by decide +kernel⟩⟩, Or.inl (gk3 (List.mem_of_getElem? (i := 104) rfl) rfl)⟩
set_option maxRecDepth 20000 in
theorem cv_X6_77 : CV RX6 77 mX1_registersFault 1 4 := ⟨_, rfl, ⟨kc_X1_registersFault, (gk3 (List.mem_of_getElem? (i := 107) rfl) rfl), (gk1 (List.mem_of_getElem? (i := 10) rfl) rfl), (gk3 (List.mem_of_getElem? (i := 108) rfl) rfl), ⟨by decide +kernel, by decide +kernel, by decide +kernel⟩⟩, Or.inl (gk3 (List.mem_of_getElem? (i := 106) rfl) rfl)⟩
set_option maxRecDepth 20000 in
theorem cs_X6_81 : CS RX6 81 mX6_diagnosisFault 1 := ⟨⟨kc_X6_diagnosisFault, (gk3 (List.mem_of_getElem? (i := 117) rfl) rfl), (gk1 (List.mem_of_getElem? (i := 14) rfl) rfl), ⟨by decide +kernel, by decide +kernel, by decide +kernel⟩⟩, Or.inl (gk3 (List.mem_of_getElem? (i := 116) rfl) rfl)⟩
set_option maxRecDepth 20000 in
theorem cs_X6_84 : CS RX6 84 mX6_filesFault 2 := ⟨⟨kc_X6_filesFault, (gk3 (List.mem_of_getElem? (i := 120) rfl) rfl), (gk1 (List.mem_of_getElem? (i := 14) rfl) rfl), ⟨by decide +kernel, by decide +kernel, by decide +kernel⟩⟩, Or.inl (gk3 (List.mem_of_getElem? (i := 119) rfl) rfl)⟩
set_option maxRecDepth 20000 in
theorem cs_X6_87 : CS RX6 87 mX6_maskFault 2 := ⟨⟨kc_X6_maskFault, (gk3 (List.mem_of_getElem? (i := 124) rfl) rfl), (gk1 (List.mem_of_getElem? (i := 14) rfl) rfl), ⟨by decide +kernel, by decide +kernel, by decide +kernel⟩⟩, Or.inl (gk3 (List.mem_of_getElem? (i := 123) rfl) rfl)⟩
set_option maxRecDepth 20000 in
theorem cs_X6_90 : CS RX6 90 mX6_queueFault 2 := ⟨⟨kc_X6_queueFault, (gk3 (List.mem_of_getElem? (i := 132) rfl) rfl), (gk1 (List.mem_of_getElem? (i := 14) rfl) rfl), ⟨by decide +kernel, by decide +kernel, by decide +kernel⟩⟩, Or.inl (gk3 (List.mem_of_getElem? (i := 131) rfl) rfl)⟩
set_option maxRecDepth 20000 in
theorem cv_X6_98 : CV RX6 98 mX8_find 6 1 := ⟨_, rfl, ⟨kc_X8_find, (gk2 (List.mem_of_getElem? (i := 239) rfl) rfl), (gk1 (List.mem_of_getElem? (i := 12) rfl) rfl), (gk3 (List.mem_of_getElem? (i := 0) rfl) rfl), ⟨by decide +kernel, by decide +kernel, by decide +kernel⟩⟩, Or.inl (gk3 (List.mem_of_getElem? (i := 122) rfl) rfl)⟩
set_option maxRecDepth 20000 in
theorem cv_X6_110 : CV RX6 110 mX0_value 0 1 := ⟨_, rfl, ⟨kc_X0_value, (gk2 (List.mem_of_getElem? (i := 219) rfl) rfl), (gk1 (List.mem_of_getElem? (i := 11) rfl) rfl), (gk2 (List.mem_of_getElem? (i := 220) rfl) rfl), ⟨by decide +kernel, by decide +kernel, by decide +kernel⟩⟩, Or.inl (gk3 (List.mem_of_getElem? (i := 126) rfl) rfl)⟩
set_option maxRecDepth 20000 in
theorem cs_X6_113 : CS RX6 113 mX6_masked 3 := ⟨⟨kc_X6_masked, (gk3 (List.mem_of_getElem? (i := 128) rfl) rfl), (gk1 (List.mem_of_getElem? (i := 14) rfl) rfl), ⟨by decide +kernel, by decide +kernel, by decide +kernel⟩⟩, Or.inl (gk3 (List.mem_of_getElem? (i := 127) rfl) rfl)⟩
set_option maxRecDepth 20000 in
theorem cv_X6_117 : CV RX6 117 mX1_mayBeGiven 1 2 := ⟨_, rfl, ⟨kc_X1_mayBeGiven, (gk3 (List.mem_of_getElem? (i := 113) rfl) rfl), (gk1 (List.mem_of_getElem? (i := 10) rfl) rfl), (gk3 (List.mem_of_getElem? (i := 114) rfl) rfl), ⟨by decide +kernel, by decide +kernel, by decide +kernel⟩⟩, Or.inl (gk3 (List.mem_of_getElem? (i := 130) rfl) rfl)⟩
set_option maxRecDepth 20000 in
theorem cs_X6_123 : CS RX6 123 mX6_readBits 3 := ⟨⟨kc_X6_readBits, (gk3 (List.mem_of_getElem? (i := 179) rfl) rfl), (gk1 (List.mem_of_getElem? (i := 14) rfl) rfl), ⟨by decide +kernel, by decide +kernel, by decide +kernel⟩⟩, Or.inl (gk3 (List.mem_of_getElem? (i := 178) rfl) rfl)⟩
set_option maxRecDepth 20000 in
theorem cs_X6_127 : CS RX6 127 mX6_readWords 3 := ⟨⟨kc_X6_readWords, (gk3 (List.mem_of_getElem? (i := 182) rfl) rfl), (gk1 (List.mem_of_getElem? (i := 14) rfl) rfl), ⟨by decide +kernel, by decide +kernel, by decide +kernel⟩⟩, Or.inl (gk3 (List.mem_of_getElem? (i := 181) rfl) rfl)⟩
set_option maxRecDepth 20000 in
theorem cv_X6_130 : CV RX6 130 mX0_write 0 2 := ⟨_, rfl, ⟨kc_X0_write, (gk2 (List.mem_of_getElem? (i := 211) rfl) rfl), (gk1 (List.mem_of_getElem? (i := 11) rfl) rfl), (gk2 (List.mem_of_getElem? (i := 212) rfl) rfl), ⟨by decide +kernel, by decide +kernel, by decide +kernel⟩⟩, Or.inl (gk3 (List.mem_of_getElem? (i := 184) rfl) rfl)⟩
set_option maxRecDepth 20000 in
theorem cv_X6_134 : CV RX6 134 mX4_addPart 4 3 := ⟨_, rfl, ⟨kc_X4_addPart, (gk3 (List.mem_of_getElem? (i := 39) rfl) rfl), (gk1 (List.mem_of_getElem? (i := 2) rfl) rfl), (gk3 (List.mem_of_getElem? (i := 40) rfl) rfl), ⟨by decide +kernel, by decide +kernel, by decide +kernel⟩⟩, Or.inl (gk3 (List.mem_of_getElem? (i := 170) rfl) rfl)⟩
set_option maxRecDepth 20000 in
theorem cs_X6_138 : CS RX6 138 mX6_diagnose 3 := ⟨⟨kc_X6_diagnose, (gk3 (List.mem_of_getElem? (i := 186) rfl) rfl), (gk1 (List.mem_of_getElem? (i := 14) rfl) rfl), ⟨by decide +kernel, by decide +kernel, by decide +kernel⟩⟩, Or.inl (gk3 (List.mem_of_getElem? (i := 185) rfl) rfl)⟩
set_option maxRecDepth 20000 in
theorem cs_X6_141 : CS RX6 141 mX6_writeBits 2 := ⟨⟨kc_X6_writeBits, (gk3 (List.mem_of_getElem? (i := 199) rfl) rfl), (gk1 (List.mem_of_getElem? (i := 14) rfl) rfl), ⟨by decide +kernel, by decide +kernel, by decide +kernel⟩⟩, Or.inl (gk3 (List.mem_of_getElem? (i := 198) rfl) rfl)⟩
set_option maxRecDepth 20000 in
theorem cs_X6_145 : CS RX6 145 mX6_writeWords 5 := ⟨⟨kc_X6_writeWords, (gk3 (List.mem_of_getElem? (i := 202) rfl) rfl), (gk1 (List.mem_of_getElem? (i := 14) rfl) rfl), ⟨by decide +kernel, by decide +kernel, by decide +kernel⟩⟩, Or.inl (gk3 (List.mem_of_getElem? (i := 201) rfl) rfl)⟩
set_option maxRecDepth 20000 in
theorem cs_X6_149 : CS RX6 149 mX6_writeFiles 2 := ⟨⟨kc_X6_writeFiles, (gk3 (List.mem_of_getElem? (i := 205) rfl) rfl), (gk1 (List.mem_of_getElem? (i := 14) rfl) rfl), ⟨by decide +kernel, by decide +kernel, by decide +kernel⟩⟩, Or.inl (gk3 (List.mem_of_getElem? (i := 204) rfl) rfl)⟩
set_option maxRecDepth 20000 in
theorem cv_X6_156 : CV RX6 156 mX0_bits 0 2 := ⟨_, rfl, ⟨kc_X0_bits, (gk3 (List.mem_of_getElem? (i := 142) rfl) rfl), (gk1 (List.mem_of_getElem? (i := 11) rfl) rfl), (gk3 (List.mem_of_getElem? (i := 143) rfl) rfl), ⟨by decide +kernel, by decide +kernel, by decide +kernel⟩⟩, Or.inl (gk3 (List.mem_of_getElem? (i := 141) rfl) rfl)⟩
set_option maxRecDepth 20000 in
theorem cv_X6_160 : CV RX6 160 mX4_addWord 4 1 := ⟨_, rfl, ⟨kc_X4_addWord, (gk2 (List.mem_of_getElem? (i := 9) rfl) rfl), (gk1 (List.mem_of_getElem? (i := 2) rfl) rfl), (gk2 (List.mem_of_getElem? (i := 10) rfl) rfl), ⟨by decide +kernel, by decide +kernel, by decide +kernel⟩⟩, Or.inl (gk3 (List.mem_of_getElem? (i := 145) rfl) rfl)⟩
set_option maxRecDepth 20000 in
theorem cv_X6_163 : CV RX6 163 mX1_counterOf 1 1 := ⟨_, rfl, ⟨kc_X1_counterOf, (gk3 (List.mem_of_getElem? (i := 147) rfl) rfl), (gk1 (List.mem_of_getElem? (i := 10) rfl) rfl), (gk3 (List.mem_of_getElem? (i := 148) rfl) rfl), ⟨by decide +kernel, by decide +kernel, by decide +kernel⟩⟩, Or.inl (gk3 (List.mem_of_getElem? (i := 146) rfl) rfl)⟩
set_option maxRecDepth 20000 in
theorem cs_X6_166 : CS RX6 166 mX6_tellEvents 2 := ⟨⟨kc_X6_tellEvents, (gk3 (List.mem_of_getElem? (i := 151) rfl) rfl), (gk1 (List.mem_of_getElem? (i := 14) rfl) rfl), ⟨by decide +kernel, by decide +kernel, by decide +kernel⟩⟩, Or.inl (gk3 (List.mem_of_getElem? (i := 150) rfl) rfl)⟩
set_option maxRecDepth 20000 in
theorem cs_X6_172 : CS RX6 172 mX6_readFiles 3 := ⟨⟨kc_X6_readFiles, (gk3 (List.mem_of_getElem? (i := 154) rfl) rfl), (gk1 (List.mem_of_getElem? (i := 14) rfl) rfl), ⟨by decide +kernel, by decide +kernel, by decide +kernel⟩⟩, Or.inl (gk3 (List.mem_of_getElem? (i := 153) rfl) rfl)⟩
set_option maxRecDepth 20000 in
theorem cs_X6_175 : CS RX6 175 mX6_tellQueue 2 := ⟨⟨kc_X6_tellQueue, (gk3 (List.mem_of_getElem? (i := 161) rfl) rfl), (gk1 (List.mem_of_getElem? (i := 14) rfl) rfl), ⟨by decide +kernel, by decide +kernel, by decide +kernel⟩⟩, Or.inl (gk3 (List.mem_of_getElem? (i := 160) rfl) rfl)⟩
set_option maxRecDepth 20000 in
theorem cs_X6_179 : CS RX6 179 mX6_tellTexts 3 := ⟨⟨kc_X6_tellTexts, (gk3 (List.mem_of_getElem? (i := 164) rfl) rfl), (gk1 (List.mem_of_getElem? (i := 14) rfl) rfl), ⟨by decide +kernel, by decide +kernel, by decide +kernel⟩⟩, Or.inl (gk3 (List.mem_of_getElem? (i := 163) rfl) rfl)⟩
set_option maxRecDepth 20000 in
theorem cv_X6_183 : CV RX6 183 mX1_clearCounters 1 0 := ⟨_, rfl, ⟨kc_X1_clearCounters, (gk3 (List.mem_of_getElem? (i := 189) rfl) rfl), (gk1 (List.mem_of_getElem? (i := 10) rfl) rfl), (gk3 (List.mem_of_getElem? (i := 190) rfl) rfl), ⟨by decide +kernel, by decide +kernel, by decide +kernel⟩⟩, Or.inl (gk3 (List.mem_of_getElem? (i := 188) rfl) rfl)⟩
set_option maxRecDepth 20000 in
theorem cv_X6_190 : CV RX6 190 mX4_addLatest 4 1 := ⟨_, rfl, ⟨kc_X4_addLatest, (gk3 (List.mem_of_getElem? (i := 193) rfl) rfl), (gk1 (List.mem_of_getElem? (i := 2) rfl) rfl), (gk3 (List.mem_of_getElem? (i := 194) rfl) rfl), ⟨by decide +kernel, by decide +kernel, by decide +kernel⟩⟩, Or.inl (gk3 (List.mem_of_getElem? (i := 192) rfl) rfl)⟩
set_option maxRecDepth 20000 in
theorem cs_X6_201 : CS RX6 201 mX11_within 3 := ⟨⟨kc_X11_within, (gk2 (List.mem_of_getElem? (i := 36) rfl) rfl), (gk1 (List.mem_of_getElem? (i := 1) rfl) rfl), ⟨by decide +kernel, by decide +kernel, by decide +kernel⟩⟩, Or.inr ⟨"FieldLine", (nw_mem 724 (by decide +kernel) (by decide +kernel))⟩⟩
set_option maxRecDepth 20000 in
theorem cv_X6_205 : CV RX6 205 mX4_cut 4 1 := ⟨_, rfl, ⟨kc_X4_cut, (gk2 (List.mem_of_getElem? (i := 18) rfl) rfl), (gk1 (List.mem_of_getElem? (i := 2) rfl) rfl), (gk2 (List.mem_of_getElem? (i := 19) rfl) rfl), ⟨by decide +kernel, by decide +kernel, by decide +kernel⟩⟩, Or.inl (gk3 (List.mem_of_getElem? (i := 197) rfl) rfl)⟩
set_option maxRecDepth 20000 in
theorem cv_X6_208 : CV RX6 208 mX4_change 4 2 := ⟨_, rfl, ⟨kc_X4_change, (gk3 (List.mem_of_getElem? (i := 157) rfl) rfl), (gk1 (List.mem_of_getElem? (i := 2) rfl) rfl), (gk3 (List.mem_of_getElem? (i := 158) rfl) rfl), ⟨by decide +kernel, by decide +kernel, by decide +kernel⟩⟩, Or.inl (gk3 (List.mem_of_getElem? (i := 156) rfl) rfl)⟩
set_option maxRecDepth 20000 in
theorem cv_X6_211 : CV RX6 211 mX8_leastKey 6 2 := ⟨_, rfl, ⟨kc_X8_leastKey, (gk3 (List.mem_of_getElem? (i := 167) rfl) rfl), (gk1 (List.mem_of_getElem? (i := 12) rfl) rfl), (gk3 (List.mem_of_getElem? (i := 168) rfl) rfl), ⟨by decide +kernel, by decide +kernel, by decide +kernel⟩⟩, Or.inl (gk3 (List.mem_of_getElem? (i := 166) rfl) rfl)⟩
set_option maxRecDepth 20000 in
theorem cv_X6_214 : CV RX6 214 mX8_greatestKey 6 0 := ⟨_, rfl, ⟨kc_X8_greatestKey, (gk3 (List.mem_of_getElem? (i := 172) rfl) rfl), (gk1 (List.mem_of_getElem? (i := 12) rfl) rfl), (gk3 (List.mem_of_getElem? (i := 173) rfl) rfl), ⟨by decide +kernel, by decide +kernel, by decide +kernel⟩⟩, Or.inl (gk3 (List.mem_of_getElem? (i := 171) rfl) rfl)⟩
set_option maxRecDepth 20000 in
theorem cv_X7_15 : CV RX7 15 mX4_at 4 1 := ⟨_, rfl, ⟨kc_X4_at, (gk3 (List.mem_of_getElem? (i := 15) rfl) rfl), (gk1 (List.mem_of_getElem? (i := 2) rfl) rfl), (gk3 (List.mem_of_getElem? (i := 16) rfl) rfl), ⟨by decide +kernel, by decide +kernel, by decide +kernel⟩⟩, Or.inl (gk3 (List.mem_of_getElem? (i := 78) rfl) rfl)⟩
set_option maxRecDepth 20000 in
theorem cv_X7_19 : CV RX7 19 mX4_word 4 1 := ⟨_, rfl, ⟨kc_X4_word, (gk3 (List.mem_of_getElem? (i := 80) rfl) rfl), (gk1 (List.mem_of_getElem? (i := 2) rfl) rfl), (gk3 (List.mem_of_getElem? (i := 81) rfl) rfl), ⟨by decide +kernel, by decide +kernel, by decide +kernel⟩⟩, Or.inl (gk3 (List.mem_of_getElem? (i := 79) rfl) rfl)⟩
set_option maxRecDepth 20000 in
theorem cs_X7_22 : CS RX7 22 mX11_within 3 := ⟨⟨kc_X11_within, (gk2 (List.mem_of_getElem? (i := 36) rfl) rfl), (gk1 (List.mem_of_getElem? (i := 1) rfl) rfl), ⟨by decide +kernel, by decide +kernel, by decide +kernel⟩⟩, Or.inr ⟨"FieldLine", (nw_mem 611 (by decide +kernel) (by decide +kernel))⟩⟩
set_option maxRecDepth 20000 in
theorem cs_X7_26 : CS RX7 26 mX7_codeUnless 1 := ⟨⟨kc_X7_codeUnless, (gk3 (List.mem_of_getElem? (i := 85) rfl) rfl), (gk1 (List.mem_of_getElem? (i := 15) rfl) rfl), ⟨by decide +kernel, by decide +kernel, by decide +kernel⟩⟩, Or.inl (gk3 (List.mem_of_getElem? (i := 84) rfl) rfl)⟩
set_option maxRecDepth 20000 in
theorem cs_X7_32 : CS RX7 32 mX7_diagnosisFault 1 := ⟨⟨kc_X7_diagnosisFault, (gk3 (List.mem_of_getElem? (i := 88) rfl) rfl), (gk1 (List.mem_of_getElem? (i := 15) rfl) rfl), ⟨by decide +kernel, by decide +kernel, by decide +kernel⟩⟩, Or.inl (gk3 (List.mem_of_getElem? (i := 87) rfl) rfl)⟩
set_option maxRecDepth 20000 in
theorem cs_X7_36 : CS RX7 36 mX7_areReadParts 1 := ⟨⟨kc_X7_areReadParts, (gk3 (List.mem_of_getElem? (i := 91) rfl) rfl), (gk1 (List.mem_of_getElem? (i := 15) rfl) rfl), ⟨by decide +kernel, by decide +kernel, by decide +kernel⟩⟩, Or.inl (gk3 (List.mem_of_getElem? (i := 90) rfl) rfl)⟩
set_option maxRecDepth 20000 in
theorem cs_X7_40 : CS RX7 40 mX7_areWriteParts 1 := ⟨⟨kc_X7_areWriteParts, (gk3 (List.mem_of_getElem? (i := 94) rfl) rfl), (gk1 (List.mem_of_getElem? (i := 15) rfl) rfl), ⟨by decide +kernel, by decide +kernel, by decide +kernel⟩⟩, Or.inl (gk3 (List.mem_of_getElem? (i := 93) rfl) rfl)⟩
set_option maxRecDepth 20000 in
theorem cs_X7_43 : CS RX7 43 mX7_textsFault 1 := ⟨⟨kc_X7_textsFault, (gk3 (List.mem_of_getElem? (i := 97) rfl) rfl), (gk1 (List.mem_of_getElem? (i := 15) rfl) rfl), ⟨by decide +kernel, by decide +kernel, by decide +kernel⟩⟩, Or.inl (gk3 (List.mem_of_getElem? (i := 96) rfl) rfl)⟩
set_option maxRecDepth 20000 in
theorem cs_X7_47 : CS RX7 47 mX7_fault 1 := ⟨⟨kc_X7_fault, (gk3 (List.mem_of_getElem? (i := 76) rfl) rfl), (gk1 (List.mem_of_getElem? (i := 15) rfl) rfl), ⟨by decide +kernel, by decide +kernel, by decide +kernel⟩⟩, Or.inl (gk5 (List.mem_of_getElem? (i := 73) rfl) rfl)⟩
set_option maxRecDepth 20000 in
theorem cs_X7_50 : CS RX7 50 mX7_diagnosisFits 2 := ⟨⟨kc_X7_diagnosisFits, (gk5 (List.mem_of_getElem? (i := 75) rfl) rfl), (gk1 (List.mem_of_getElem? (i := 15) rfl) rfl), ⟨by decide +kernel, by decide +kernel, by decide +kernel⟩⟩, Or.inl (gk5 (List.mem_of_getElem? (i := 74) rfl) rfl)⟩
set_option maxRecDepth 20000 in
theorem cv_X7_54 : CV RX7 54 mX4_beginsAs 4 2 := ⟨_, rfl, ⟨kc_X4_beginsAs, (gk5 (List.mem_of_getElem? (i := 81) rfl) rfl), (gk1 (List.mem_of_getElem? (i := 2) rfl) rfl), (gk5 (List.mem_of_getElem? (i := 82) rfl) rfl), ⟨by decide +kernel, by decide +kernel, by decide +kernel⟩⟩, Or.inl (gk5 (List.mem_of_getElem? (i := 80) rfl) rfl)⟩
set_option maxRecDepth 20000 in
theorem cs_X7_58 : CS RX7 58 mX7_partsFit 2 := ⟨⟨kc_X7_partsFit, (gk5 (List.mem_of_getElem? (i := 85) rfl) rfl), (gk1 (List.mem_of_getElem? (i := 15) rfl) rfl), ⟨by decide +kernel, by decide +kernel, by decide +kernel⟩⟩, Or.inl (gk5 (List.mem_of_getElem? (i := 84) rfl) rfl)⟩
set_option maxRecDepth 20000 in
theorem cs_X7_61 : CS RX7 61 mX7_textsEnd 1 := ⟨⟨kc_X7_textsEnd, (gk5 (List.mem_of_getElem? (i := 88) rfl) rfl), (gk1 (List.mem_of_getElem? (i := 15) rfl) rfl), ⟨by decide +kernel, by decide +kernel, by decide +kernel⟩⟩, Or.inl (gk5 (List.mem_of_getElem? (i := 87) rfl) rfl)⟩
set_option maxRecDepth 20000 in
theorem cs_X7_64 : CS RX7 64 mX7_isSame 2 := ⟨⟨kc_X7_isSame, (gk5 (List.mem_of_getElem? (i := 78) rfl) rfl), (gk1 (List.mem_of_getElem? (i := 15) rfl) rfl), ⟨by decide +kernel, by decide +kernel, by decide +kernel⟩⟩, Or.inl (gk5 (List.mem_of_getElem? (i := 77) rfl) rfl)⟩
set_option maxRecDepth 20000 in
theorem cv_X8_28 : CV RX8 28 mX8_find 6 1 := ⟨_, rfl, ⟨kc_X8_find, (gk2 (List.mem_of_getElem? (i := 239) rfl) rfl), (gk1 (List.mem_of_getElem? (i := 12) rfl) rfl), (gk3 (List.mem_of_getElem? (i := 0) rfl) rfl), ⟨by decide +kernel, by decide +kernel, by decide +kernel⟩⟩, Or.inl (gk2 (List.mem_of_getElem? (i := 238) rfl) rfl)⟩
set_option maxRecDepth 20000 in
theorem ci_X8_32 : CI RX8 32 mX4_init 1 := ⟨⟨kc_X4_init, rfl, (gk1 (List.mem_of_getElem? (i := 34) rfl) rfl), (gk1 (List.mem_of_getElem? (i := 2) rfl) rfl), rfl, ⟨by decide +kernel, by decide +kernel, by decide +kernel⟩⟩, Or.inl (gk3 (List.mem_of_getElem? (i := 2) rfl) rfl)⟩
set_option maxRecDepth 20000 in
theorem ci_X9_11 : CI RX9 11 mX4_init 1 := ⟨⟨kc_X4_init, rfl, (gk1 (List.mem_of_getElem? (i := 34) rfl) rfl), (gk1 (List.mem_of_getElem? (i := 2) rfl) rfl), rfl, ⟨by decide +kernel, by decide +kernel, by decide +kernel⟩⟩, Or.inl (gk1 (List.mem_of_getElem? (i := 126) rfl) rfl)⟩
set_option maxRecDepth 20000 in
theorem cv_X9_34 : CV RX9 34 mX4_add 4 1 := ⟨_, rfl, ⟨kc_X4_add, (gk3 (List.mem_of_getElem? (i := 27) rfl) rfl), (gk1 (List.mem_of_getElem? (i := 2) rfl) rfl), (gk3 (List.mem_of_getElem? (i := 28) rfl) rfl), ⟨by decide +kernel, by decide +kernel, by decide +kernel⟩⟩, Or.inl (gk5 (List.mem_of_getElem? (i := 43) rfl) rfl)⟩
set_option maxRecDepth 20000 in
theorem cv_X9_37 : CV RX9 37 mX4_sumOf 4 1 := ⟨_, rfl, ⟨kc_X4_sumOf, (gk2 (List.mem_of_getElem? (i := 26) rfl) rfl), (gk1 (List.mem_of_getElem? (i := 2) rfl) rfl), (gk2 (List.mem_of_getElem? (i := 27) rfl) rfl), ⟨by decide +kernel, by decide +kernel, by decide +kernel⟩⟩, Or.inl (gk5 (List.mem_of_getElem? (i := 64) rfl) rfl)⟩
set_option maxRecDepth 20000 in
theorem cv_X9_41 : CV RX9 41 mX4_at 4 1 := ⟨_, rfl, ⟨kc_X4_at, (gk3 (List.mem_of_getElem? (i := 15) rfl) rfl), (gk1 (List.mem_of_getElem? (i := 2) rfl) rfl), (gk3 (List.mem_of_getElem? (i := 16) rfl) rfl), ⟨by decide +kernel, by decide +kernel, by decide +kernel⟩⟩, Or.inl (gk5 (List.mem_of_getElem? (i := 65) rfl) rfl)⟩
set_option maxRecDepth 20000 in
theorem cv_X9_44 : CV RX9 44 mX4_clear 4 0 := ⟨_, rfl, ⟨kc_X4_clear, (gk3 (List.mem_of_getElem? (i := 43) rfl) rfl), (gk1 (List.mem_of_getElem? (i := 2) rfl) rfl), (gk3 (List.mem_of_getElem? (i := 44) rfl) rfl), ⟨by decide +kernel, by decide +kernel, by decide +kernel⟩⟩, Or.inl (gk5 (List.mem_of_getElem? (i := 94) rfl) rfl)⟩
set_option maxRecDepth 20000 in
theorem ci_X10_11 : CI RX10 11 mX4_init 1 := ⟨⟨kc_X4_init, rfl, (gk1 (List.mem_of_getElem? (i := 34) rfl) rfl), (gk1 (List.mem_of_getElem? (i := 2) rfl) rfl), rfl, ⟨by decide +kernel, by decide +kernel, by decide +kernel⟩⟩, Or.inl (gk1 (List.mem_of_getElem? (i := 62) rfl) rfl)⟩
set_option maxRecDepth 20000 in
theorem cv_X10_34 : CV RX10 34 mX4_clear 4 0 := ⟨_, rfl, ⟨kc_X4_clear, (gk3 (List.mem_of_getElem? (i := 43) rfl) rfl), (gk1 (List.mem_of_getElem? (i := 2) rfl) rfl), (gk3 (List.mem_of_getElem? (i := 44) rfl) rfl), ⟨by decide +kernel, by decide +kernel, by decide +kernel⟩⟩, Or.inl (gk4 (List.mem_of_getElem? (i := 234) rfl) rfl)⟩
set_option maxRecDepth 20000 in
theorem cv_X10_37 : CV RX10 37 mX4_add 4 1 := ⟨_, rfl, ⟨kc_X4_add, (gk3 (List.mem_of_getElem? (i := 27) rfl) rfl), (gk1 (List.mem_of_getElem? (i := 2) rfl) rfl), (gk3 (List.mem_of_getElem? (i := 28) rfl) rfl), ⟨by decide +kernel, by decide +kernel, by decide +kernel⟩⟩, Or.inl (gk4 (List.mem_of_getElem? (i := 235) rfl) rfl)⟩
set_option maxRecDepth 20000 in
theorem cv_X10_43 : CV RX10 43 mX4_addPart 4 3 := ⟨_, rfl, ⟨kc_X4_addPart, (gk3 (List.mem_of_getElem? (i := 39) rfl) rfl), (gk1 (List.mem_of_getElem? (i := 2) rfl) rfl), (gk3 (List.mem_of_getElem? (i := 40) rfl) rfl), ⟨by decide +kernel, by decide +kernel, by decide +kernel⟩⟩, Or.inl (gk4 (List.mem_of_getElem? (i := 236) rfl) rfl)⟩
set_option maxRecDepth 20000 in
theorem cv_X10_47 : CV RX10 47 mX4_sumOf 4 1 := ⟨_, rfl, ⟨kc_X4_sumOf, (gk2 (List.mem_of_getElem? (i := 26) rfl) rfl), (gk1 (List.mem_of_getElem? (i := 2) rfl) rfl), (gk2 (List.mem_of_getElem? (i := 27) rfl) rfl), ⟨by decide +kernel, by decide +kernel, by decide +kernel⟩⟩, Or.inl (gk4 (List.mem_of_getElem? (i := 237) rfl) rfl)⟩
set_option maxRecDepth 20000 in
theorem cv_X10_63 : CV RX10 63 mX10_beginByte 8 0 := ⟨_, rfl, ⟨kc_X10_beginByte, (gk5 (List.mem_of_getElem? (i := 23) rfl) rfl), (gk1 (List.mem_of_getElem? (i := 3) rfl) rfl), (gw_mem 17 (by decide +kernel) (by decide +kernel)), ⟨by decide +kernel, by decide +kernel, by decide +kernel⟩⟩, Or.inl (gk5 (List.mem_of_getElem? (i := 21) rfl) rfl)⟩
set_option maxRecDepth 20000 in
theorem cv_X10_66 : CV RX10 66 mX10_finishByte 8 0 := ⟨_, rfl, ⟨kc_X10_finishByte, (gk5 (List.mem_of_getElem? (i := 32) rfl) rfl), (gk1 (List.mem_of_getElem? (i := 3) rfl) rfl), (gw_mem 19 (by decide +kernel) (by decide +kernel)), ⟨by decide +kernel, by decide +kernel, by decide +kernel⟩⟩, Or.inl (gk5 (List.mem_of_getElem? (i := 30) rfl) rfl)⟩
set_option maxRecDepth 20000 in
theorem cv_X10_72 : CV RX10 72 mX10_takeHarm 8 0 := ⟨_, rfl, ⟨kc_X10_takeHarm, (gk5 (List.mem_of_getElem? (i := 27) rfl) rfl), (gk1 (List.mem_of_getElem? (i := 3) rfl) rfl), (gw_mem 18 (by decide +kernel) (by decide +kernel)), ⟨by decide +kernel, by decide +kernel, by decide +kernel⟩⟩, Or.inl (gk5 (List.mem_of_getElem? (i := 25) rfl) rfl)⟩
set_option maxRecDepth 20000 in
theorem cv_X10_85 : CV RX10 85 mX4_at 4 1 := ⟨_, rfl, ⟨kc_X4_at, (gk3 (List.mem_of_getElem? (i := 15) rfl) rfl), (gk1 (List.mem_of_getElem? (i := 2) rfl) rfl), (gk3 (List.mem_of_getElem? (i := 16) rfl) rfl), ⟨by decide +kernel, by decide +kernel, by decide +kernel⟩⟩, Or.inl (gk5 (List.mem_of_getElem? (i := 34) rfl) rfl)⟩
set_option maxRecDepth 20000 in
theorem cv_X10_94 : CV RX10 94 mX10_indexOfHarm 8 1 := ⟨_, rfl, ⟨kc_X10_indexOfHarm, (gk4 (List.mem_of_getElem? (i := 68) rfl) rfl), (gk1 (List.mem_of_getElem? (i := 3) rfl) rfl), (gw_mem 5 (by decide +kernel) (by decide +kernel)), ⟨by decide +kernel, by decide +kernel, by decide +kernel⟩⟩, Or.inl (gk4 (List.mem_of_getElem? (i := 66) rfl) rfl)⟩
set_option maxRecDepth 20000 in
theorem cv_L_7 : CV RL 7 mX11_tick 9 1 := ⟨_, rfl, ⟨kc_X11_tick, (gk4 (List.mem_of_getElem? (i := 117) rfl) rfl), (gk1 (List.mem_of_getElem? (i := 1) rfl) rfl), (gk4 (List.mem_of_getElem? (i := 118) rfl) rfl), ⟨by decide +kernel, by decide +kernel, by decide +kernel⟩⟩, Or.inl (gk4 (List.mem_of_getElem? (i := 116) rfl) rfl)⟩
set_option maxRecDepth 20000 in
theorem cv_L_15 : CV RL 15 mX11_data 9 1 := ⟨_, rfl, ⟨kc_X11_data, (gk5 (List.mem_of_getElem? (i := 122) rfl) rfl), (gk1 (List.mem_of_getElem? (i := 1) rfl) rfl), (gk5 (List.mem_of_getElem? (i := 123) rfl) rfl), ⟨by decide +kernel, by decide +kernel, by decide +kernel⟩⟩, Or.inl (gk5 (List.mem_of_getElem? (i := 121) rfl) rfl)⟩
set_option maxRecDepth 20000 in
theorem ci_L_20 : CI RL 20 mX11_init 0 := ⟨⟨kc_X11_init, rfl, (gk1 (List.mem_of_getElem? (i := 26) rfl) rfl), (gk1 (List.mem_of_getElem? (i := 1) rfl) rfl), rfl, ⟨by decide +kernel, by decide +kernel, by decide +kernel⟩⟩, Or.inl (gk1 (List.mem_of_getElem? (i := 25) rfl) rfl)⟩
set_option maxRecDepth 20000 in
theorem ci_L_23 : CI RL 23 mX15_init 0 := ⟨⟨kc_X15_init, rfl, (gk5 (List.mem_of_getElem? (i := 144) rfl) rfl), (gk1 (List.mem_of_getElem? (i := 6) rfl) rfl), rfl, ⟨by decide +kernel, by decide +kernel, by decide +kernel⟩⟩, Or.inl (gk5 (List.mem_of_getElem? (i := 143) rfl) rfl)⟩
set_option maxRecDepth 20000 in
theorem cv_L_24 : CV RL 24 mX11_feed 9 5 := ⟨_, rfl, ⟨kc_X11_feed, (gk2 (List.mem_of_getElem? (i := 1) rfl) rfl), (gk1 (List.mem_of_getElem? (i := 1) rfl) rfl), (gk2 (List.mem_of_getElem? (i := 2) rfl) rfl), ⟨by decide +kernel, by decide +kernel, by decide +kernel⟩⟩, Or.inl (gk2 (List.mem_of_getElem? (i := 0) rfl) rfl)⟩
set_option maxRecDepth 20000 in
theorem cv_L_28 : CV RL 28 mX15_feed 13 5 := ⟨_, rfl, ⟨kc_X15_feed, (gk6 (List.mem_of_getElem? (i := 225) rfl) rfl), (gk1 (List.mem_of_getElem? (i := 6) rfl) rfl), (gk6 (List.mem_of_getElem? (i := 226) rfl) rfl), ⟨by decide +kernel, by decide +kernel, by decide +kernel⟩⟩, Or.inl (gk6 (List.mem_of_getElem? (i := 224) rfl) rfl)⟩
set_option maxRecDepth 20000 in
theorem cv_L_29 : CV RL 29 mX11_end 9 1 := ⟨_, rfl, ⟨kc_X11_end, (gk2 (List.mem_of_getElem? (i := 14) rfl) rfl), (gk1 (List.mem_of_getElem? (i := 1) rfl) rfl), (gk2 (List.mem_of_getElem? (i := 15) rfl) rfl), ⟨by decide +kernel, by decide +kernel, by decide +kernel⟩⟩, Or.inl (gk2 (List.mem_of_getElem? (i := 13) rfl) rfl)⟩
set_option maxRecDepth 20000 in
theorem cv_L_32 : CV RL 32 mX15_end 13 1 := ⟨_, rfl, ⟨kc_X15_end, (gk6 (List.mem_of_getElem? (i := 229) rfl) rfl), (gk1 (List.mem_of_getElem? (i := 6) rfl) rfl), (gk6 (List.mem_of_getElem? (i := 230) rfl) rfl), ⟨by decide +kernel, by decide +kernel, by decide +kernel⟩⟩, Or.inl (gk6 (List.mem_of_getElem? (i := 228) rfl) rfl)⟩
set_option maxRecDepth 20000 in
theorem cv_L_33 : CV RL 33 mX11_sum 9 0 := ⟨_, rfl, ⟨kc_X11_sum, (gk2 (List.mem_of_getElem? (i := 22) rfl) rfl), (gk1 (List.mem_of_getElem? (i := 1) rfl) rfl), (gk2 (List.mem_of_getElem? (i := 23) rfl) rfl), ⟨by decide +kernel, by decide +kernel, by decide +kernel⟩⟩, Or.inl (gk2 (List.mem_of_getElem? (i := 21) rfl) rfl)⟩
set_option maxRecDepth 20000 in
theorem cv_L_37 : CV RL 37 mX15_sum 13 0 := ⟨_, rfl, ⟨kc_X15_sum, (gk6 (List.mem_of_getElem? (i := 236) rfl) rfl), (gk1 (List.mem_of_getElem? (i := 6) rfl) rfl), (gk6 (List.mem_of_getElem? (i := 237) rfl) rfl), ⟨by decide +kernel, by decide +kernel, by decide +kernel⟩⟩, Or.inl (gk6 (List.mem_of_getElem? (i := 235) rfl) rfl)⟩
set_option maxRecDepth 20000 in
theorem cv_L_38 : CV RL 38 mX11_device 9 2 := ⟨_, rfl, ⟨kc_X11_device, (gk2 (List.mem_of_getElem? (i := 32) rfl) rfl), (gk1 (List.mem_of_getElem? (i := 1) rfl) rfl), (gk2 (List.mem_of_getElem? (i := 33) rfl) rfl), ⟨by decide +kernel, by decide +kernel, by decide +kernel⟩⟩, Or.inl (gk2 (List.mem_of_getElem? (i := 31) rfl) rfl)⟩
set_option maxRecDepth 20000 in
theorem cv_L_42 : CV RL 42 mX15_device 13 2 := ⟨_, rfl, ⟨kc_X15_device, (gk7 (List.mem_of_getElem? (i := 5) rfl) rfl), (gk1 (List.mem_of_getElem? (i := 6) rfl) rfl), (gk7 (List.mem_of_getElem? (i := 6) rfl) rfl), ⟨by decide +kernel, by decide +kernel, by decide +kernel⟩⟩, Or.inl (gk7 (List.mem_of_getElem? (i := 4) rfl) rfl)⟩
set_option maxRecDepth 20000 in
theorem cv_L_43 : CV RL 43 mX11_bank 9 4 := ⟨_, rfl, ⟨kc_X11_bank, (gk2 (List.mem_of_getElem? (i := 180) rfl) rfl), (gk1 (List.mem_of_getElem? (i := 1) rfl) rfl), (gk2 (List.mem_of_getElem? (i := 181) rfl) rfl), ⟨by decide +kernel, by decide +kernel, by decide +kernel⟩⟩, Or.inl (gk2 (List.mem_of_getElem? (i := 179) rfl) rfl)⟩
set_option maxRecDepth 20000 in
theorem cv_L_47 : CV RL 47 mX15_bank 13 4 := ⟨_, rfl, ⟨kc_X15_bank, (gk7 (List.mem_of_getElem? (i := 9) rfl) rfl), (gk1 (List.mem_of_getElem? (i := 6) rfl) rfl), (gk7 (List.mem_of_getElem? (i := 10) rfl) rfl), ⟨by decide +kernel, by decide +kernel, by decide +kernel⟩⟩, Or.inl (gk7 (List.mem_of_getElem? (i := 8) rfl) rfl)⟩
set_option maxRecDepth 20000 in
theorem cv_L_48 : CV RL 48 mX11_put 9 4 := ⟨_, rfl, ⟨kc_X11_put, (gk2 (List.mem_of_getElem? (i := 203) rfl) rfl), (gk1 (List.mem_of_getElem? (i := 1) rfl) rfl), (gk2 (List.mem_of_getElem? (i := 204) rfl) rfl), ⟨by decide +kernel, by decide +kernel, by decide +kernel⟩⟩, Or.inl (gk2 (List.mem_of_getElem? (i := 202) rfl) rfl)⟩
set_option maxRecDepth 20000 in
theorem cv_L_51 : CV RL 51 mX15_put 13 4 := ⟨_, rfl, ⟨kc_X15_put, (gk7 (List.mem_of_getElem? (i := 18) rfl) rfl), (gk1 (List.mem_of_getElem? (i := 6) rfl) rfl), (gk7 (List.mem_of_getElem? (i := 19) rfl) rfl), ⟨by decide +kernel, by decide +kernel, by decide +kernel⟩⟩, Or.inl (gk7 (List.mem_of_getElem? (i := 17) rfl) rfl)⟩
set_option maxRecDepth 20000 in
theorem cv_L_52 : CV RL 52 mX11_get 9 3 := ⟨_, rfl, ⟨kc_X11_get, (gk2 (List.mem_of_getElem? (i := 215) rfl) rfl), (gk1 (List.mem_of_getElem? (i := 1) rfl) rfl), (gk2 (List.mem_of_getElem? (i := 216) rfl) rfl), ⟨by decide +kernel, by decide +kernel, by decide +kernel⟩⟩, Or.inl (gk2 (List.mem_of_getElem? (i := 214) rfl) rfl)⟩
set_option maxRecDepth 20000 in
theorem cv_L_56 : CV RL 56 mX15_get 13 3 := ⟨_, rfl, ⟨kc_X15_get, (gk7 (List.mem_of_getElem? (i := 35) rfl) rfl), (gk1 (List.mem_of_getElem? (i := 6) rfl) rfl), (gk7 (List.mem_of_getElem? (i := 36) rfl) rfl), ⟨by decide +kernel, by decide +kernel, by decide +kernel⟩⟩, Or.inl (gk7 (List.mem_of_getElem? (i := 34) rfl) rfl)⟩
set_option maxRecDepth 20000 in
theorem cv_L_57 : CV RL 57 mX11_limit 9 5 := ⟨_, rfl, ⟨kc_X11_limit, (gk2 (List.mem_of_getElem? (i := 223) rfl) rfl), (gk1 (List.mem_of_getElem? (i := 1) rfl) rfl), (gk2 (List.mem_of_getElem? (i := 224) rfl) rfl), ⟨by decide +kernel, by decide +kernel, by decide +kernel⟩⟩, Or.inl (gk2 (List.mem_of_getElem? (i := 222) rfl) rfl)⟩
set_option maxRecDepth 20000 in
theorem cv_L_61 : CV RL 61 mX15_limit 13 5 := ⟨_, rfl, ⟨kc_X15_limit, (gk7 (List.mem_of_getElem? (i := 43) rfl) rfl), (gk1 (List.mem_of_getElem? (i := 6) rfl) rfl), (gk7 (List.mem_of_getElem? (i := 44) rfl) rfl), ⟨by decide +kernel, by decide +kernel, by decide +kernel⟩⟩, Or.inl (gk7 (List.mem_of_getElem? (i := 42) rfl) rfl)⟩
set_option maxRecDepth 20000 in
theorem cv_L_62 : CV RL 62 mX11_file 9 3 := ⟨_, rfl, ⟨kc_X11_file, (gk2 (List.mem_of_getElem? (i := 231) rfl) rfl), (gk1 (List.mem_of_getElem? (i := 1) rfl) rfl), (gk2 (List.mem_of_getElem? (i := 232) rfl) rfl), ⟨by decide +kernel, by decide +kernel, by decide +kernel⟩⟩, Or.inl (gk2 (List.mem_of_getElem? (i := 230) rfl) rfl)⟩
set_option maxRecDepth 20000 in
theorem cv_L_66 : CV RL 66 mX15_file 13 3 := ⟨_, rfl, ⟨kc_X15_file, (gk7 (List.mem_of_getElem? (i := 47) rfl) rfl), (gk1 (List.mem_of_getElem? (i := 6) rfl) rfl), (gk7 (List.mem_of_getElem? (i := 48) rfl) rfl), ⟨by decide +kernel, by decide +kernel, by decide +kernel⟩⟩, Or.inl (gk7 (List.mem_of_getElem? (i := 46) rfl) rfl)⟩
set_option maxRecDepth 20000 in
theorem cv_L_67 : CV RL 67 mX11_record 9 3 := ⟨_, rfl, ⟨kc_X11_record, (gk3 (List.mem_of_getElem? (i := 10) rfl) rfl), (gk1 (List.mem_of_getElem? (i := 1) rfl) rfl), (gk3 (List.mem_of_getElem? (i := 11) rfl) rfl), ⟨by decide +kernel, by decide +kernel, by decide +kernel⟩⟩, Or.inl (gk3 (List.mem_of_getElem? (i := 9) rfl) rfl)⟩
set_option maxRecDepth 20000 in
theorem cv_L_70 : CV RL 70 mX15_record 13 3 := ⟨_, rfl, ⟨kc_X15_record, (gk7 (List.mem_of_getElem? (i := 55) rfl) rfl), (gk1 (List.mem_of_getElem? (i := 6) rfl) rfl), (gk7 (List.mem_of_getElem? (i := 56) rfl) rfl), ⟨by decide +kernel, by decide +kernel, by decide +kernel⟩⟩, Or.inl (gk7 (List.mem_of_getElem? (i := 54) rfl) rfl)⟩
set_option maxRecDepth 20000 in
theorem cv_L_71 : CV RL 71 mX11_queue 9 2 := ⟨_, rfl, ⟨kc_X11_queue, (gk3 (List.mem_of_getElem? (i := 19) rfl) rfl), (gk1 (List.mem_of_getElem? (i := 1) rfl) rfl), (gk3 (List.mem_of_getElem? (i := 20) rfl) rfl), ⟨by decide +kernel, by decide +kernel, by decide +kernel⟩⟩, Or.inl (gk3 (List.mem_of_getElem? (i := 18) rfl) rfl)⟩
set_option maxRecDepth 20000 in
theorem cv_L_75 : CV RL 75 mX15_queue 13 2 := ⟨_, rfl, ⟨kc_X15_queue, (gk7 (List.mem_of_getElem? (i := 59) rfl) rfl), (gk1 (List.mem_of_getElem? (i := 6) rfl) rfl), (gk7 (List.mem_of_getElem? (i := 60) rfl) rfl), ⟨by decide +kernel, by decide +kernel, by decide +kernel⟩⟩, Or.inl (gk7 (List.mem_of_getElem? (i := 58) rfl) rfl)⟩
set_option maxRecDepth 20000 in
theorem cv_L_76 : CV RL 76 mX11_push 9 3 := ⟨_, rfl, ⟨kc_X11_push, (gk3 (List.mem_of_getElem? (i := 23) rfl) rfl), (gk1 (List.mem_of_getElem? (i := 1) rfl) rfl), (gk3 (List.mem_of_getElem? (i := 24) rfl) rfl), ⟨by decide +kernel, by decide +kernel, by decide +kernel⟩⟩, Or.inl (gk3 (List.mem_of_getElem? (i := 22) rfl) rfl)⟩
set_option maxRecDepth 20000 in
theorem cv_L_79 : CV RL 79 mX15_push 13 3 := ⟨_, rfl, ⟨kc_X15_push, (gk7 (List.mem_of_getElem? (i := 67) rfl) rfl), (gk1 (List.mem_of_getElem? (i := 6) rfl) rfl), (gk7 (List.mem_of_getElem? (i := 68) rfl) rfl), ⟨by decide +kernel, by decide +kernel, by decide +kernel⟩⟩, Or.inl (gk7 (List.mem_of_getElem? (i := 66) rfl) rfl)⟩
set_option maxRecDepth 20000 in
theorem cv_L_80 : CV RL 80 mX11_name 9 2 := ⟨_, rfl, ⟨kc_X11_name, (gk3 (List.mem_of_getElem? (i := 31) rfl) rfl), (gk1 (List.mem_of_getElem? (i := 1) rfl) rfl), (gk3 (List.mem_of_getElem? (i := 32) rfl) rfl), ⟨by decide +kernel, by decide +kernel, by decide +kernel⟩⟩, Or.inl (gk3 (List.mem_of_getElem? (i := 30) rfl) rfl)⟩
set_option maxRecDepth 20000 in
theorem cv_L_83 : CV RL 83 mX15_name 13 2 := ⟨_, rfl, ⟨kc_X15_name, (gk7 (List.mem_of_getElem? (i := 75) rfl) rfl), (gk1 (List.mem_of_getElem? (i := 6) rfl) rfl), (gk7 (List.mem_of_getElem? (i := 76) rfl) rfl), ⟨by decide +kernel, by decide +kernel, by decide +kernel⟩⟩, Or.inl (gk7 (List.mem_of_getElem? (i := 74) rfl) rfl)⟩
set_option maxRecDepth 20000 in
theorem cv_L_84 : CV RL 84 mX11_rule 9 5 := ⟨_, rfl, ⟨kc_X11_rule, (gk3 (List.mem_of_getElem? (i := 47) rfl) rfl), (gk1 (List.mem_of_getElem? (i := 1) rfl) rfl), (gk3 (List.mem_of_getElem? (i := 48) rfl) rfl), ⟨by decide +kernel, by decide +kernel, by decide +kernel⟩⟩, Or.inl (gk3 (List.mem_of_getElem? (i := 46) rfl) rfl)⟩
set_option maxRecDepth 20000 in
theorem cv_L_87 : CV RL 87 mX15_rule 13 5 := ⟨_, rfl, ⟨kc_X15_rule, (gk7 (List.mem_of_getElem? (i := 83) rfl) rfl), (gk1 (List.mem_of_getElem? (i := 6) rfl) rfl), (gk7 (List.mem_of_getElem? (i := 84) rfl) rfl), ⟨by decide +kernel, by decide +kernel, by decide +kernel⟩⟩, Or.inl (gk7 (List.mem_of_getElem? (i := 82) rfl) rfl)⟩
set_option maxRecDepth 20000 in
theorem cv_L_88 : CV RL 88 mX11_busy 9 2 := ⟨_, rfl, ⟨kc_X11_busy, (gk3 (List.mem_of_getElem? (i := 56) rfl) rfl), (gk1 (List.mem_of_getElem? (i := 1) rfl) rfl), (gk3 (List.mem_of_getElem? (i := 57) rfl) rfl), ⟨by decide +kernel, by decide +kernel, by decide +kernel⟩⟩, Or.inl (gk3 (List.mem_of_getElem? (i := 55) rfl) rfl)⟩
set_option maxRecDepth 20000 in
theorem cv_L_91 : CV RL 91 mX15_busy 13 2 := ⟨_, rfl, ⟨kc_X15_busy, (gk7 (List.mem_of_getElem? (i := 87) rfl) rfl), (gk1 (List.mem_of_getElem? (i := 6) rfl) rfl), (gk7 (List.mem_of_getElem? (i := 88) rfl) rfl), ⟨by decide +kernel, by decide +kernel, by decide +kernel⟩⟩, Or.inl (gk7 (List.mem_of_getElem? (i := 86) rfl) rfl)⟩
set_option maxRecDepth 20000 in
theorem cv_L_92 : CV RL 92 mX11_serve 9 1 := ⟨_, rfl, ⟨kc_X11_serve, (gk3 (List.mem_of_getElem? (i := 60) rfl) rfl), (gk1 (List.mem_of_getElem? (i := 1) rfl) rfl), (gk3 (List.mem_of_getElem? (i := 61) rfl) rfl), ⟨by decide +kernel, by decide +kernel, by decide +kernel⟩⟩, Or.inl (gk3 (List.mem_of_getElem? (i := 59) rfl) rfl)⟩
set_option maxRecDepth 20000 in
theorem cv_L_95 : CV RL 95 mX15_serve_ 13 1 := ⟨_, rfl, ⟨kc_X15_serve_, (gk7 (List.mem_of_getElem? (i := 91) rfl) rfl), (gk1 (List.mem_of_getElem? (i := 6) rfl) rfl), (gk7 (List.mem_of_getElem? (i := 92) rfl) rfl), ⟨by decide +kernel, by decide +kernel, by decide +kernel⟩⟩, Or.inl (gk7 (List.mem_of_getElem? (i := 90) rfl) rfl)⟩
set_option maxRecDepth 20000 in
theorem cv_L_96 : CV RL 96 mX11_answer 9 1 := ⟨_, rfl, ⟨kc_X11_answer, (gk3 (List.mem_of_getElem? (i := 208) rfl) rfl), (gk1 (List.mem_of_getElem? (i := 1) rfl) rfl), (gk3 (List.mem_of_getElem? (i := 209) rfl) rfl), ⟨by decide +kernel, by decide +kernel, by decide +kernel⟩⟩, Or.inl (gk3 (List.mem_of_getElem? (i := 207) rfl) rfl)⟩
set_option maxRecDepth 20000 in
theorem cv_L_99 : CV RL 99 mX15_answer 13 1 := ⟨_, rfl, ⟨kc_X15_answer, (gk7 (List.mem_of_getElem? (i := 177) rfl) rfl), (gk1 (List.mem_of_getElem? (i := 6) rfl) rfl), (gk7 (List.mem_of_getElem? (i := 178) rfl) rfl), ⟨by decide +kernel, by decide +kernel, by decide +kernel⟩⟩, Or.inl (gk7 (List.mem_of_getElem? (i := 176) rfl) rfl)⟩
set_option maxRecDepth 20000 in
theorem cv_L_100 : CV RL 100 mX11_settings 9 3 := ⟨_, rfl, ⟨kc_X11_settings, (gk3 (List.mem_of_getElem? (i := 216) rfl) rfl), (gk1 (List.mem_of_getElem? (i := 1) rfl) rfl), (gk3 (List.mem_of_getElem? (i := 217) rfl) rfl), ⟨by decide +kernel, by decide +kernel, by decide +kernel⟩⟩, Or.inl (gk3 (List.mem_of_getElem? (i := 215) rfl) rfl)⟩
set_option maxRecDepth 20000 in
theorem cv_L_103 : CV RL 103 mX15_settings 13 3 := ⟨_, rfl, ⟨kc_X15_settings, (gk7 (List.mem_of_getElem? (i := 181) rfl) rfl), (gk1 (List.mem_of_getElem? (i := 6) rfl) rfl), (gk7 (List.mem_of_getElem? (i := 182) rfl) rfl), ⟨by decide +kernel, by decide +kernel, by decide +kernel⟩⟩, Or.inl (gk7 (List.mem_of_getElem? (i := 180) rfl) rfl)⟩
set_option maxRecDepth 20000 in
theorem cv_L_104 : CV RL 104 mX11_request 9 1 := ⟨_, rfl, ⟨kc_X11_request, (gk3 (List.mem_of_getElem? (i := 220) rfl) rfl), (gk1 (List.mem_of_getElem? (i := 1) rfl) rfl), (gk3 (List.mem_of_getElem? (i := 221) rfl) rfl), ⟨by decide +kernel, by decide +kernel, by decide +kernel⟩⟩, Or.inl (gk3 (List.mem_of_getElem? (i := 219) rfl) rfl)⟩
set_option maxRecDepth 20000 in
theorem cv_L_107 : CV RL 107 mX15_request 13 1 := ⟨_, rfl, ⟨kc_X15_request, (gk7 (List.mem_of_getElem? (i := 185) rfl) rfl), (gk1 (List.mem_of_getElem? (i := 6) rfl) rfl), (gk7 (List.mem_of_getElem? (i := 186) rfl) rfl), ⟨by decide +kernel, by decide +kernel, by decide +kernel⟩⟩, Or.inl (gk7 (List.mem_of_getElem? (i := 184) rfl) rfl)⟩
set_option maxRecDepth 20000 in
theorem cv_L_108 : CV RL 108 mX11_scan 9 2 := ⟨_, rfl, ⟨kc_X11_scan, (gk4 (List.mem_of_getElem? (i := 22) rfl) rfl), (gk1 (List.mem_of_getElem? (i := 1) rfl) rfl), (gk4 (List.mem_of_getElem? (i := 23) rfl) rfl), ⟨by decide +kernel, by decide +kernel, by decide +kernel⟩⟩, Or.inl (gk4 (List.mem_of_getElem? (i := 21) rfl) rfl)⟩
set_option maxRecDepth 20000 in
theorem cv_L_111 : CV RL 111 mX15_scan_ 13 2 := ⟨_, rfl, ⟨kc_X15_scan_, (gk7 (List.mem_of_getElem? (i := 197) rfl) rfl), (gk1 (List.mem_of_getElem? (i := 6) rfl) rfl), (gk7 (List.mem_of_getElem? (i := 198) rfl) rfl), ⟨by decide +kernel, by decide +kernel, by decide +kernel⟩⟩, Or.inl (gk7 (List.mem_of_getElem? (i := 196) rfl) rfl)⟩
set_option maxRecDepth 20000 in
theorem cv_L_112 : CV RL 112 mX11_harm 9 2 := ⟨_, rfl, ⟨kc_X11_harm, (gk4 (List.mem_of_getElem? (i := 59) rfl) rfl), (gk1 (List.mem_of_getElem? (i := 1) rfl) rfl), (gk4 (List.mem_of_getElem? (i := 60) rfl) rfl), ⟨by decide +kernel, by decide +kernel, by decide +kernel⟩⟩, Or.inl (gk4 (List.mem_of_getElem? (i := 58) rfl) rfl)⟩
set_option maxRecDepth 20000 in
theorem cv_L_115 : CV RL 115 mX15_harm 13 2 := ⟨_, rfl, ⟨kc_X15_harm, (gk7 (List.mem_of_getElem? (i := 201) rfl) rfl), (gk1 (List.mem_of_getElem? (i := 6) rfl) rfl), (gk7 (List.mem_of_getElem? (i := 202) rfl) rfl), ⟨by decide +kernel, by decide +kernel, by decide +kernel⟩⟩, Or.inl (gk7 (List.mem_of_getElem? (i := 200) rfl) rfl)⟩
set_option maxRecDepth 20000 in
theorem cv_L_121 : CV RL 121 mX15_tick 13 1 := ⟨_, rfl, ⟨kc_X15_tick, (gk7 (List.mem_of_getElem? (i := 205) rfl) rfl), (gk1 (List.mem_of_getElem? (i := 6) rfl) rfl), (gk7 (List.mem_of_getElem? (i := 206) rfl) rfl), ⟨by decide +kernel, by decide +kernel, by decide +kernel⟩⟩, Or.inl (gk7 (List.mem_of_getElem? (i := 204) rfl) rfl)⟩
set_option maxRecDepth 20000 in
theorem cv_L_122 : CV RL 122 mX15_thrown 13 0 := ⟨_, rfl, ⟨kc_X15_thrown, (gk6 (List.mem_of_getElem? (i := 221) rfl) rfl), (gk1 (List.mem_of_getElem? (i := 6) rfl) rfl), (gk6 (List.mem_of_getElem? (i := 222) rfl) rfl), ⟨by decide +kernel, by decide +kernel, by decide +kernel⟩⟩, Or.inl (gk6 (List.mem_of_getElem? (i := 220) rfl) rfl)⟩
set_option maxRecDepth 20000 in
theorem cv_L_125 : CV RL 125 mX11_result 9 1 := ⟨_, rfl, ⟨kc_X11_result, (gk4 (List.mem_of_getElem? (i := 71) rfl) rfl), (gk1 (List.mem_of_getElem? (i := 1) rfl) rfl), (gk4 (List.mem_of_getElem? (i := 72) rfl) rfl), ⟨by decide +kernel, by decide +kernel, by decide +kernel⟩⟩, Or.inl (gk4 (List.mem_of_getElem? (i := 70) rfl) rfl)⟩
set_option maxRecDepth 20000 in
theorem cv_L_128 : CV RL 128 mX15_result 13 1 := ⟨_, rfl, ⟨kc_X15_result, (gk8 (List.mem_of_getElem? (i := 78) rfl) rfl), (gk1 (List.mem_of_getElem? (i := 6) rfl) rfl), (gk8 (List.mem_of_getElem? (i := 79) rfl) rfl), ⟨by decide +kernel, by decide +kernel, by decide +kernel⟩⟩, Or.inl (gk8 (List.mem_of_getElem? (i := 77) rfl) rfl)⟩
set_option maxRecDepth 20000 in
theorem cv_L_131 : CV RL 131 mX15_data 13 1 := ⟨_, rfl, ⟨kc_X15_data, (gk8 (List.mem_of_getElem? (i := 82) rfl) rfl), (gk1 (List.mem_of_getElem? (i := 6) rfl) rfl), (gk8 (List.mem_of_getElem? (i := 83) rfl) rfl), ⟨by decide +kernel, by decide +kernel, by decide +kernel⟩⟩, Or.inl (gk8 (List.mem_of_getElem? (i := 81) rfl) rfl)⟩
set_option maxRecDepth 20000 in
theorem cv_L_132 : CV RL 132 mX11_take 9 0 := ⟨_, rfl, ⟨kc_X11_take, (gk4 (List.mem_of_getElem? (i := 79) rfl) rfl), (gk1 (List.mem_of_getElem? (i := 1) rfl) rfl), (gk4 (List.mem_of_getElem? (i := 80) rfl) rfl), ⟨by decide +kernel, by decide +kernel, by decide +kernel⟩⟩, Or.inl (gk4 (List.mem_of_getElem? (i := 78) rfl) rfl)⟩
set_option maxRecDepth 20000 in
theorem cv_L_136 : CV RL 136 mX15_take 13 0 := ⟨_, rfl, ⟨kc_X15_take, (gk8 (List.mem_of_getElem? (i := 86) rfl) rfl), (gk1 (List.mem_of_getElem? (i := 6) rfl) rfl), (gk8 (List.mem_of_getElem? (i := 87) rfl) rfl), ⟨by decide +kernel, by decide +kernel, by decide +kernel⟩⟩, Or.inl (gk8 (List.mem_of_getElem? (i := 85) rfl) rfl)⟩
set_option maxRecDepth 20000 in
theorem cv_L_137 : CV RL 137 mX11_state 9 1 := ⟨_, rfl, ⟨kc_X11_state, (gk4 (List.mem_of_getElem? (i := 87) rfl) rfl), (gk1 (List.mem_of_getElem? (i := 1) rfl) rfl), (gk4 (List.mem_of_getElem? (i := 88) rfl) rfl), ⟨by decide +kernel, by decide +kernel, by decide +kernel⟩⟩, Or.inl (gk4 (List.mem_of_getElem? (i := 86) rfl) rfl)⟩
set_option maxRecDepth 20000 in
theorem cv_L_140 : CV RL 140 mX15_state 13 1 := ⟨_, rfl, ⟨kc_X15_state, (gk8 (List.mem_of_getElem? (i := 90) rfl) rfl), (gk1 (List.mem_of_getElem? (i := 6) rfl) rfl), (gk8 (List.mem_of_getElem? (i := 91) rfl) rfl), ⟨by decide +kernel, by decide +kernel, by decide +kernel⟩⟩, Or.inl (gk8 (List.mem_of_getElem? (i := 89) rfl) rfl)⟩
set_option maxRecDepth 20000 in
theorem cv_L_141 : CV RL 141 mX11_counter 9 2 := ⟨_, rfl, ⟨kc_X11_counter, (gk4 (List.mem_of_getElem? (i := 100) rfl) rfl), (gk1 (List.mem_of_getElem? (i := 1) rfl) rfl), (gk4 (List.mem_of_getElem? (i := 101) rfl) rfl), ⟨by decide +kernel, by decide +kernel, by decide +kernel⟩⟩, Or.inl (gk4 (List.mem_of_getElem? (i := 99) rfl) rfl)⟩
set_option maxRecDepth 20000 in
theorem cv_L_144 : CV RL 144 mX15_counter 13 2 := ⟨_, rfl, ⟨kc_X15_counter, (gk8 (List.mem_of_getElem? (i := 94) rfl) rfl), (gk1 (List.mem_of_getElem? (i := 6) rfl) rfl), (gk8 (List.mem_of_getElem? (i := 95) rfl) rfl), ⟨by decide +kernel, by decide +kernel, by decide +kernel⟩⟩, Or.inl (gk8 (List.mem_of_getElem? (i := 93) rfl) rfl)⟩
set_option maxRecDepth 20000 in
theorem cv_L_145 : CV RL 145 mX11_event 9 2 := ⟨_, rfl, ⟨kc_X11_event, (gk4 (List.mem_of_getElem? (i := 105) rfl) rfl), (gk1 (List.mem_of_getElem? (i := 1) rfl) rfl), (gk4 (List.mem_of_getElem? (i := 106) rfl) rfl), ⟨by decide +kernel, by decide +kernel, by decide +kernel⟩⟩, Or.inl (gk4 (List.mem_of_getElem? (i := 104) rfl) rfl)⟩
set_option maxRecDepth 20000 in
theorem cv_L_148 : CV RL 148 mX15_event 13 2 := ⟨_, rfl, ⟨kc_X15_event, (gk8 (List.mem_of_getElem? (i := 98) rfl) rfl), (gk1 (List.mem_of_getElem? (i := 6) rfl) rfl), (gk8 (List.mem_of_getElem? (i := 99) rfl) rfl), ⟨by decide +kernel, by decide +kernel, by decide +kernel⟩⟩, Or.inl (gk8 (List.mem_of_getElem? (i := 97) rfl) rfl)⟩
set_option maxRecDepth 20000 in
theorem cv_L_149 : CV RL 149 mX11_sent 9 1 := ⟨_, rfl, ⟨kc_X11_sent, (gk4 (List.mem_of_getElem? (i := 109) rfl) rfl), (gk1 (List.mem_of_getElem? (i := 1) rfl) rfl), (gk4 (List.mem_of_getElem? (i := 110) rfl) rfl), ⟨by decide +kernel, by decide +kernel, by decide +kernel⟩⟩, Or.inl (gk4 (List.mem_of_getElem? (i := 108) rfl) rfl)⟩
set_option maxRecDepth 20000 in
theorem cv_L_152 : CV RL 152 mX15_sent 13 1 := ⟨_, rfl, ⟨kc_X15_sent, (gk8 (List.mem_of_getElem? (i := 102) rfl) rfl), (gk1 (List.mem_of_getElem? (i := 6) rfl) rfl), (gk8 (List.mem_of_getElem? (i := 103) rfl) rfl), ⟨by decide +kernel, by decide +kernel, by decide +kernel⟩⟩, Or.inl (gk8 (List.mem_of_getElem? (i := 101) rfl) rfl)⟩
set_option maxRecDepth 20000 in
theorem ci_X15_24 : CI RX15 24 mX14_init 0 := ⟨⟨kc_X14_init, rfl, (gk5 (List.mem_of_getElem? (i := 152) rfl) rfl), (gk1 (List.mem_of_getElem? (i := 7) rfl) rfl), rfl, ⟨by decide +kernel, by decide +kernel, by decide +kernel⟩⟩, Or.inr ⟨"FieldLineModel", (nw_mem 1159 (by decide +kernel) (by decide +kernel))⟩⟩
set_option maxRecDepth 20000 in
theorem ci_X15_41 : CI RX15 41 mX13_init 2 := ⟨⟨kc_X13_init, rfl, (gk5 (List.mem_of_getElem? (i := 187) rfl) rfl), (gk1 (List.mem_of_getElem? (i := 8) rfl) rfl), rfl, ⟨by decide +kernel, by decide +kernel, by decide +kernel⟩⟩, Or.inl (gk5 (List.mem_of_getElem? (i := 186) rfl) rfl)⟩
set_option maxRecDepth 20000 in
theorem ci_X15_72 : CI RX15 72 mX12_init 0 := ⟨⟨kc_X12_init, rfl, (gk5 (List.mem_of_getElem? (i := 211) rfl) rfl), (gk1 (List.mem_of_getElem? (i := 9) rfl) rfl), rfl, ⟨by decide +kernel, by decide +kernel, by decide +kernel⟩⟩, Or.inr ⟨"FieldLineModel", (nw_mem 1218 (by decide +kernel) (by decide +kernel))⟩⟩
set_option maxRecDepth 20000 in
theorem cs_X15_81 : CS RX15 81 mX15_in 3 := ⟨⟨kc_X15_in, (gk6 (List.mem_of_getElem? (i := 233) rfl) rfl), (gk1 (List.mem_of_getElem? (i := 6) rfl) rfl), ⟨by decide +kernel, by decide +kernel, by decide +kernel⟩⟩, Or.inl (gk6 (List.mem_of_getElem? (i := 232) rfl) rfl)⟩
set_option maxRecDepth 20000 in
theorem cs_X15_85 : CS RX15 85 mX15_two 2 := ⟨⟨kc_X15_two, (gk7 (List.mem_of_getElem? (i := 113) rfl) rfl), (gk1 (List.mem_of_getElem? (i := 6) rfl) rfl), ⟨by decide +kernel, by decide +kernel, by decide +kernel⟩⟩, Or.inl (gk7 (List.mem_of_getElem? (i := 112) rfl) rfl)⟩
set_option maxRecDepth 20000 in
theorem cv_X15_92 : CV RX15 92 mX15_says 13 1 := ⟨_, rfl, ⟨kc_X15_says, (gk7 (List.mem_of_getElem? (i := 138) rfl) rfl), (gk1 (List.mem_of_getElem? (i := 6) rfl) rfl), (gw_mem 26 (by decide +kernel) (by decide +kernel)), ⟨by decide +kernel, by decide +kernel, by decide +kernel⟩⟩, Or.inl (gk7 (List.mem_of_getElem? (i := 136) rfl) rfl)⟩
set_option maxRecDepth 20000 in
theorem cs_X15_96 : CS RX15 96 mX15_isTold 1 := ⟨⟨kc_X15_isTold, (gk7 (List.mem_of_getElem? (i := 107) rfl) rfl), (gk1 (List.mem_of_getElem? (i := 6) rfl) rfl), ⟨by decide +kernel, by decide +kernel, by decide +kernel⟩⟩, Or.inl (gk7 (List.mem_of_getElem? (i := 106) rfl) rfl)⟩
set_option maxRecDepth 20000 in
theorem cs_X15_100 : CS RX15 100 mX15_refusal8 2 := ⟨⟨kc_X15_refusal8, (gk7 (List.mem_of_getElem? (i := 110) rfl) rfl), (gk1 (List.mem_of_getElem? (i := 6) rfl) rfl), ⟨by decide +kernel, by decide +kernel, by decide +kernel⟩⟩, Or.inl (gk7 (List.mem_of_getElem? (i := 109) rfl) rfl)⟩
set_option maxRecDepth 20000 in
theorem cs_X15_103 : CS RX15 103 mX15_isShaped 2 := ⟨⟨kc_X15_isShaped, (gk7 (List.mem_of_getElem? (i := 117) rfl) rfl), (gk1 (List.mem_of_getElem? (i := 6) rfl) rfl), ⟨by decide +kernel, by decide +kernel, by decide +kernel⟩⟩, Or.inl (gk7 (List.mem_of_getElem? (i := 116) rfl) rfl)⟩
set_option maxRecDepth 20000 in
theorem cv_X15_107 : CV RX15 107 mX12_has 10 3 := ⟨_, rfl, ⟨kc_X12_has, (gk7 (List.mem_of_getElem? (i := 120) rfl) rfl), (gk1 (List.mem_of_getElem? (i := 9) rfl) rfl), (gk7 (List.mem_of_getElem? (i := 121) rfl) rfl), ⟨by decide +kernel, by decide +kernel, by decide +kernel⟩⟩, Or.inl (gk7 (List.mem_of_getElem? (i := 119) rfl) rfl)⟩
set_option maxRecDepth 20000 in
theorem cv_X15_111 : CV RX15 111 mX12_may 10 2 := ⟨_, rfl, ⟨kc_X12_may, (gk7 (List.mem_of_getElem? (i := 124) rfl) rfl), (gk1 (List.mem_of_getElem? (i := 9) rfl) rfl), (gk7 (List.mem_of_getElem? (i := 125) rfl) rfl), ⟨by decide +kernel, by decide +kernel, by decide +kernel⟩⟩, Or.inl (gk7 (List.mem_of_getElem? (i := 123) rfl) rfl)⟩
set_option maxRecDepth 20000 in
theorem cs_X15_115 : CS RX15 115 mX15_mays 5 := ⟨⟨kc_X15_mays, (gk7 (List.mem_of_getElem? (i := 128) rfl) rfl), (gk1 (List.mem_of_getElem? (i := 6) rfl) rfl), ⟨by decide +kernel, by decide +kernel, by decide +kernel⟩⟩, Or.inl (gk7 (List.mem_of_getElem? (i := 127) rfl) rfl)⟩
set_option maxRecDepth 20000 in
theorem cs_X15_119 : CS RX15 119 mX15_parts 3 := ⟨⟨kc_X15_parts, (gk7 (List.mem_of_getElem? (i := 131) rfl) rfl), (gk1 (List.mem_of_getElem? (i := 6) rfl) rfl), ⟨by decide +kernel, by decide +kernel, by decide +kernel⟩⟩, Or.inl (gk7 (List.mem_of_getElem? (i := 130) rfl) rfl)⟩
set_option maxRecDepth 20000 in
theorem cs_X15_123 : CS RX15 123 mX15_masked 2 := ⟨⟨kc_X15_masked, (gk7 (List.mem_of_getElem? (i := 134) rfl) rfl), (gk1 (List.mem_of_getElem? (i := 6) rfl) rfl), ⟨by decide +kernel, by decide +kernel, by decide +kernel⟩⟩, Or.inl (gk7 (List.mem_of_getElem? (i := 133) rfl) rfl)⟩
set_option maxRecDepth 20000 in
theorem cv_X15_127 : CV RX15 127 mX12_queueOf 10 1 := ⟨_, rfl, ⟨kc_X12_queueOf, (gk7 (List.mem_of_getElem? (i := 63) rfl) rfl), (gk1 (List.mem_of_getElem? (i := 9) rfl) rfl), (gk7 (List.mem_of_getElem? (i := 64) rfl) rfl), ⟨by decide +kernel, by decide +kernel, by decide +kernel⟩⟩, Or.inl (gk7 (List.mem_of_getElem? (i := 62) rfl) rfl)⟩
set_option maxRecDepth 20000 in
theorem cv_X15_134 : CV RX15 134 mX12_textOf 10 1 := ⟨_, rfl, ⟨kc_X12_textOf, (gk7 (List.mem_of_getElem? (i := 79) rfl) rfl), (gk1 (List.mem_of_getElem? (i := 9) rfl) rfl), (gk7 (List.mem_of_getElem? (i := 80) rfl) rfl), ⟨by decide +kernel, by decide +kernel, by decide +kernel⟩⟩, Or.inl (gk7 (List.mem_of_getElem? (i := 78) rfl) rfl)⟩
set_option maxRecDepth 20000 in
theorem cv_X15_137 : CV RX15 137 mX12_get 10 2 := ⟨_, rfl, ⟨kc_X12_get, (gk7 (List.mem_of_getElem? (i := 39) rfl) rfl), (gk1 (List.mem_of_getElem? (i := 9) rfl) rfl), (gk7 (List.mem_of_getElem? (i := 40) rfl) rfl), ⟨by decide +kernel, by decide +kernel, by decide +kernel⟩⟩, Or.inl (gk7 (List.mem_of_getElem? (i := 38) rfl) rfl)⟩
set_option maxRecDepth 20000 in
theorem cv_X15_141 : CV RX15 141 mX12_fileOf 10 1 := ⟨_, rfl, ⟨kc_X12_fileOf, (gk7 (List.mem_of_getElem? (i := 51) rfl) rfl), (gk1 (List.mem_of_getElem? (i := 9) rfl) rfl), (gk7 (List.mem_of_getElem? (i := 52) rfl) rfl), ⟨by decide +kernel, by decide +kernel, by decide +kernel⟩⟩, Or.inl (gk7 (List.mem_of_getElem? (i := 50) rfl) rfl)⟩
set_option maxRecDepth 20000 in
theorem cv_X15_150 : CV RX15 150 mX12_counts 10 1 := ⟨_, rfl, ⟨kc_X12_counts, (gk7 (List.mem_of_getElem? (i := 99) rfl) rfl), (gk1 (List.mem_of_getElem? (i := 9) rfl) rfl), (gk7 (List.mem_of_getElem? (i := 100) rfl) rfl), ⟨by decide +kernel, by decide +kernel, by decide +kernel⟩⟩, Or.inl (gk7 (List.mem_of_getElem? (i := 98) rfl) rfl)⟩
set_option maxRecDepth 20000 in
theorem cs_X15_153 : CS RX15 153 mX15_refusal 3 := ⟨⟨kc_X15_refusal, (gk7 (List.mem_of_getElem? (i := 104) rfl) rfl), (gk1 (List.mem_of_getElem? (i := 6) rfl) rfl), ⟨by decide +kernel, by decide +kernel, by decide +kernel⟩⟩, Or.inl (gk7 (List.mem_of_getElem? (i := 103) rfl) rfl)⟩
set_option maxRecDepth 20000 in
theorem cv_X15_156 : CV RX15 156 mX15_bits 13 4 := ⟨_, rfl, ⟨kc_X15_bits, (gk7 (List.mem_of_getElem? (i := 142) rfl) rfl), (gk1 (List.mem_of_getElem? (i := 6) rfl) rfl), (gw_mem 27 (by decide +kernel) (by decide +kernel)), ⟨by decide +kernel, by decide +kernel, by decide +kernel⟩⟩, Or.inl (gk7 (List.mem_of_getElem? (i := 140) rfl) rfl)⟩
set_option maxRecDepth 20000 in
theorem cv_X15_160 : CV RX15 160 mX15_values 13 5 := ⟨_, rfl, ⟨kc_X15_values, (gk7 (List.mem_of_getElem? (i := 146) rfl) rfl), (gk1 (List.mem_of_getElem? (i := 6) rfl) rfl), (gw_mem 28 (by decide +kernel) (by decide +kernel)), ⟨by decide +kernel, by decide +kernel, by decide +kernel⟩⟩, Or.inl (gk7 (List.mem_of_getElem? (i := 144) rfl) rfl)⟩
set_option maxRecDepth 20000 in
theorem cv_X15_164 : CV RX15 164 mX12_put 10 3 := ⟨_, rfl, ⟨kc_X12_put, (gk7 (List.mem_of_getElem? (i := 30) rfl) rfl), (gk1 (List.mem_of_getElem? (i := 9) rfl) rfl), (gk7 (List.mem_of_getElem? (i := 31) rfl) rfl), ⟨by decide +kernel, by decide +kernel, by decide +kernel⟩⟩, Or.inl (gk7 (List.mem_of_getElem? (i := 29) rfl) rfl)⟩
set_option maxRecDepth 20000 in
theorem cv_X15_168 : CV RX15 168 mX15_same 13 2 := ⟨_, rfl, ⟨kc_X15_same, (gk7 (List.mem_of_getElem? (i := 154) rfl) rfl), (gk1 (List.mem_of_getElem? (i := 6) rfl) rfl), (gw_mem 30 (by decide +kernel) (by decide +kernel)), ⟨by decide +kernel, by decide +kernel, by decide +kernel⟩⟩, Or.inl (gk7 (List.mem_of_getElem? (i := 152) rfl) rfl)⟩
set_option maxRecDepth 20000 in
theorem cv_X15_179 : CV RX15 179 mX15_tests 13 3 := ⟨_, rfl, ⟨kc_X15_tests, (gk7 (List.mem_of_getElem? (i := 158) rfl) rfl), (gk1 (List.mem_of_getElem? (i := 6) rfl) rfl), (gw_mem 31 (by decide +kernel) (by decide +kernel)), ⟨by decide +kernel, by decide +kernel, by decide +kernel⟩⟩, Or.inl (gk7 (List.mem_of_getElem? (i := 156) rfl) rfl)⟩
set_option maxRecDepth 20000 in
theorem cv_X15_183 : CV RX15 183 mX15_saysTwo 13 1 := ⟨_, rfl, ⟨kc_X15_saysTwo, (gk7 (List.mem_of_getElem? (i := 150) rfl) rfl), (gk1 (List.mem_of_getElem? (i := 6) rfl) rfl), (gw_mem 29 (by decide +kernel) (by decide +kernel)), ⟨by decide +kernel, by decide +kernel, by decide +kernel⟩⟩, Or.inl (gk7 (List.mem_of_getElem? (i := 148) rfl) rfl)⟩
set_option maxRecDepth 20000 in
theorem cv_X15_198 : CV RX15 198 mX15_reads 13 3 := ⟨_, rfl, ⟨kc_X15_reads, (gk7 (List.mem_of_getElem? (i := 166) rfl) rfl), (gk1 (List.mem_of_getElem? (i := 6) rfl) rfl), (gw_mem 32 (by decide +kernel) (by decide +kernel)), ⟨by decide +kernel, by decide +kernel, by decide +kernel⟩⟩, Or.inl (gk7 (List.mem_of_getElem? (i := 164) rfl) rfl)⟩
set_option maxRecDepth 20000 in
theorem cs_X15_201 : CS RX15 201 mX15_writes 3 := ⟨⟨kc_X15_writes, (gk7 (List.mem_of_getElem? (i := 169) rfl) rfl), (gk1 (List.mem_of_getElem? (i := 6) rfl) rfl), ⟨by decide +kernel, by decide +kernel, by decide +kernel⟩⟩, Or.inl (gk7 (List.mem_of_getElem? (i := 168) rfl) rfl)⟩
set_option maxRecDepth 20000 in
theorem cv_X15_207 : CV RX15 207 mX15_names 13 3 := ⟨_, rfl, ⟨kc_X15_names, (gk7 (List.mem_of_getElem? (i := 173) rfl) rfl), (gk1 (List.mem_of_getElem? (i := 6) rfl) rfl), (gw_mem 33 (by decide +kernel) (by decide +kernel)), ⟨by decide +kernel, by decide +kernel, by decide +kernel⟩⟩, Or.inl (gk7 (List.mem_of_getElem? (i := 171) rfl) rfl)⟩
set_option maxRecDepth 20000 in
theorem cv_X15_215 : CV RX15 215 mX12_tells 10 1 := ⟨_, rfl, ⟨kc_X12_tells, (gk7 (List.mem_of_getElem? (i := 161) rfl) rfl), (gk1 (List.mem_of_getElem? (i := 9) rfl) rfl), (gk7 (List.mem_of_getElem? (i := 162) rfl) rfl), ⟨by decide +kernel, by decide +kernel, by decide +kernel⟩⟩, Or.inl (gk7 (List.mem_of_getElem? (i := 160) rfl) rfl)⟩
set_option maxRecDepth 20000 in
theorem cv_X15_254 : CV RX15 254 mX15_serve 13 3 := ⟨_, rfl, ⟨kc_X15_serve, (gk7 (List.mem_of_getElem? (i := 96) rfl) rfl), (gk1 (List.mem_of_getElem? (i := 6) rfl) rfl), (gw_mem 25 (by decide +kernel) (by decide +kernel)), ⟨by decide +kernel, by decide +kernel, by decide +kernel⟩⟩, Or.inl (gk7 (List.mem_of_getElem? (i := 94) rfl) rfl)⟩
set_option maxRecDepth 20000 in
theorem cs_X15_269 : CS RX15 269 mX15_isRefusal 2 := ⟨⟨kc_X15_isRefusal, (gk8 (List.mem_of_getElem? (i := 45) rfl) rfl), (gk1 (List.mem_of_getElem? (i := 6) rfl) rfl), ⟨by decide +kernel, by decide +kernel, by decide +kernel⟩⟩, Or.inl (gk8 (List.mem_of_getElem? (i := 44) rfl) rfl)⟩
set_option maxRecDepth 20000 in
theorem cs_X15_278 : CS RX15 278 mX15_obeys_ 5 := ⟨⟨kc_X15_obeys_, (gk7 (List.mem_of_getElem? (i := 216) rfl) rfl), (gk1 (List.mem_of_getElem? (i := 6) rfl) rfl), ⟨by decide +kernel, by decide +kernel, by decide +kernel⟩⟩, Or.inl (gk7 (List.mem_of_getElem? (i := 215) rfl) rfl)⟩
set_option maxRecDepth 20000 in
theorem cv_X15_285 : CV RX15 285 mX12_comesInto 10 2 := ⟨_, rfl, ⟨kc_X12_comesInto, (gk7 (List.mem_of_getElem? (i := 71) rfl) rfl), (gk1 (List.mem_of_getElem? (i := 9) rfl) rfl), (gk7 (List.mem_of_getElem? (i := 72) rfl) rfl), ⟨by decide +kernel, by decide +kernel, by decide +kernel⟩⟩, Or.inl (gk7 (List.mem_of_getElem? (i := 70) rfl) rfl)⟩
set_option maxRecDepth 20000 in
theorem cv_X15_288 : CV RX15 288 mX13_adds 11 3 := ⟨_, rfl, ⟨kc_X13_adds, (gk7 (List.mem_of_getElem? (i := 193) rfl) rfl), (gk1 (List.mem_of_getElem? (i := 8) rfl) rfl), (gk7 (List.mem_of_getElem? (i := 194) rfl) rfl), ⟨by decide +kernel, by decide +kernel, by decide +kernel⟩⟩, Or.inl (gk7 (List.mem_of_getElem? (i := 192) rfl) rfl)⟩
set_option maxRecDepth 20000 in
theorem cv_X15_303 : CV RX15 303 mX13_goes 11 0 := ⟨_, rfl, ⟨kc_X13_goes, (gk8 (List.mem_of_getElem? (i := 0) rfl) rfl), (gk1 (List.mem_of_getElem? (i := 8) rfl) rfl), (gk8 (List.mem_of_getElem? (i := 1) rfl) rfl), ⟨by decide +kernel, by decide +kernel, by decide +kernel⟩⟩, Or.inl (gk7 (List.mem_of_getElem? (i := 239) rfl) rfl)⟩
set_option maxRecDepth 20000 in
theorem cv_X15_309 : CV RX15 309 mX15_through 13 4 := ⟨_, rfl, ⟨kc_X15_through, (gk7 (List.mem_of_getElem? (i := 237) rfl) rfl), (gk1 (List.mem_of_getElem? (i := 6) rfl) rfl), (gw_mem 40 (by decide +kernel) (by decide +kernel)), ⟨by decide +kernel, by decide +kernel, by decide +kernel⟩⟩, Or.inl (gk7 (List.mem_of_getElem? (i := 235) rfl) rfl)⟩
set_option maxRecDepth 20000 in
theorem cv_X15_316 : CV RX15 316 mX14_isGood 12 0 := ⟨_, rfl, ⟨kc_X14_isGood, (gk8 (List.mem_of_getElem? (i := 38) rfl) rfl), (gk1 (List.mem_of_getElem? (i := 7) rfl) rfl), (gk8 (List.mem_of_getElem? (i := 39) rfl) rfl), ⟨by decide +kernel, by decide +kernel, by decide +kernel⟩⟩, Or.inl (gk8 (List.mem_of_getElem? (i := 37) rfl) rfl)⟩
set_option maxRecDepth 20000 in
theorem cv_X15_317 : CV RX15 317 mX15_fails 13 1 := ⟨_, rfl, ⟨kc_X15_fails, (gk8 (List.mem_of_getElem? (i := 5) rfl) rfl), (gk1 (List.mem_of_getElem? (i := 6) rfl) rfl), (gw_mem 41 (by decide +kernel) (by decide +kernel)), ⟨by decide +kernel, by decide +kernel, by decide +kernel⟩⟩, Or.inl (gk8 (List.mem_of_getElem? (i := 3) rfl) rfl)⟩
set_option maxRecDepth 20000 in
theorem cs_X15_326 : CS RX15 326 mX15_doesFit 4 := ⟨⟨kc_X15_doesFit, (gk8 (List.mem_of_getElem? (i := 48) rfl) rfl), (gk1 (List.mem_of_getElem? (i := 6) rfl) rfl), ⟨by decide +kernel, by decide +kernel, by decide +kernel⟩⟩, Or.inl (gk8 (List.mem_of_getElem? (i := 47) rfl) rfl)⟩
set_option maxRecDepth 20000 in
theorem cs_X15_330 : CS RX15 330 mX15_isBegun 3 := ⟨⟨kc_X15_isBegun, (gk8 (List.mem_of_getElem? (i := 51) rfl) rfl), (gk1 (List.mem_of_getElem? (i := 6) rfl) rfl), ⟨by decide +kernel, by decide +kernel, by decide +kernel⟩⟩, Or.inl (gk8 (List.mem_of_getElem? (i := 50) rfl) rfl)⟩
set_option maxRecDepth 20000 in
theorem cs_X15_334 : CS RX15 334 mX15_doPartsFit 4 := ⟨⟨kc_X15_doPartsFit, (gk8 (List.mem_of_getElem? (i := 54) rfl) rfl), (gk1 (List.mem_of_getElem? (i := 6) rfl) rfl), ⟨by decide +kernel, by decide +kernel, by decide +kernel⟩⟩, Or.inl (gk8 (List.mem_of_getElem? (i := 53) rfl) rfl)⟩
set_option maxRecDepth 20000 in
theorem cs_X15_337 : CS RX15 337 mX15_doNamesFit 2 := ⟨⟨kc_X15_doNamesFit, (gk8 (List.mem_of_getElem? (i := 57) rfl) rfl), (gk1 (List.mem_of_getElem? (i := 6) rfl) rfl), ⟨by decide +kernel, by decide +kernel, by decide +kernel⟩⟩, Or.inl (gk8 (List.mem_of_getElem? (i := 56) rfl) rfl)⟩
set_option maxRecDepth 20000 in
theorem cs_X15_343 : CS RX15 343 mX15_sumOf 2 := ⟨⟨kc_X15_sumOf, (gk7 (List.mem_of_getElem? (i := 0) rfl) rfl), (gk1 (List.mem_of_getElem? (i := 6) rfl) rfl), ⟨by decide +kernel, by decide +kernel, by decide +kernel⟩⟩, Or.inl (gk6 (List.mem_of_getElem? (i := 239) rfl) rfl)⟩
set_option maxRecDepth 20000 in
theorem cv_X15_358 : CV RX15 358 mX15_sends 13 4 := ⟨_, rfl, ⟨kc_X15_sends, (gk7 (List.mem_of_getElem? (i := 233) rfl) rfl), (gk1 (List.mem_of_getElem? (i := 6) rfl) rfl), (gw_mem 39 (by decide +kernel) (by decide +kernel)), ⟨by decide +kernel, by decide +kernel, by decide +kernel⟩⟩, Or.inl (gk7 (List.mem_of_getElem? (i := 231) rfl) rfl)⟩
set_option maxRecDepth 20000 in
theorem cv_X15_365 : CV RX15 365 mX15_isInRow 13 1 := ⟨_, rfl, ⟨kc_X15_isInRow, (gk7 (List.mem_of_getElem? (i := 225) rfl) rfl), (gk1 (List.mem_of_getElem? (i := 6) rfl) rfl), (gw_mem 37 (by decide +kernel) (by decide +kernel)), ⟨by decide +kernel, by decide +kernel, by decide +kernel⟩⟩, Or.inl (gk7 (List.mem_of_getElem? (i := 223) rfl) rfl)⟩
set_option maxRecDepth 20000 in
theorem cv_X15_368 : CV RX15 368 mX15_newRequest 13 3 := ⟨_, rfl, ⟨kc_X15_newRequest, (gk7 (List.mem_of_getElem? (i := 190) rfl) rfl), (gk1 (List.mem_of_getElem? (i := 6) rfl) rfl), (gw_mem 34 (by decide +kernel) (by decide +kernel)), ⟨by decide +kernel, by decide +kernel, by decide +kernel⟩⟩, Or.inl (gk7 (List.mem_of_getElem? (i := 188) rfl) rfl)⟩
set_option maxRecDepth 20000 in
theorem cv_X15_378 : CV RX15 378 mX15_takeHarm 13 1 := ⟨_, rfl, ⟨kc_X15_takeHarm, (gk8 (List.mem_of_getElem? (i := 13) rfl) rfl), (gk1 (List.mem_of_getElem? (i := 6) rfl) rfl), (gw_mem 43 (by decide +kernel) (by decide +kernel)), ⟨by decide +kernel, by decide +kernel, by decide +kernel⟩⟩, Or.inl (gk8 (List.mem_of_getElem? (i := 11) rfl) rfl)⟩
set_option maxRecDepth 20000 in
theorem cv_X15_390 : CV RX15 390 mX14_hears 12 1 := ⟨_, rfl, ⟨kc_X14_hears, (gk8 (List.mem_of_getElem? (i := 16) rfl) rfl), (gk1 (List.mem_of_getElem? (i := 7) rfl) rfl), (gk8 (List.mem_of_getElem? (i := 17) rfl) rfl), ⟨by decide +kernel, by decide +kernel, by decide +kernel⟩⟩, Or.inl (gk8 (List.mem_of_getElem? (i := 15) rfl) rfl)⟩
set_option maxRecDepth 20000 in
theorem cv_X15_397 : CV RX15 397 mX15_endsSending 13 0 := ⟨_, rfl, ⟨kc_X15_endsSending, (gk8 (List.mem_of_getElem? (i := 27) rfl) rfl), (gk1 (List.mem_of_getElem? (i := 6) rfl) rfl), (gw_mem 44 (by decide +kernel) (by decide +kernel)), ⟨by decide +kernel, by decide +kernel, by decide +kernel⟩⟩, Or.inl (gk8 (List.mem_of_getElem? (i := 25) rfl) rfl)⟩
set_option maxRecDepth 20000 in
theorem cs_X15_403 : CS RX15 403 mX15_obeys 1 := ⟨⟨kc_X15_obeys, (gk7 (List.mem_of_getElem? (i := 213) rfl) rfl), (gk1 (List.mem_of_getElem? (i := 6) rfl) rfl), ⟨by decide +kernel, by decide +kernel, by decide +kernel⟩⟩, Or.inl (gk7 (List.mem_of_getElem? (i := 212) rfl) rfl)⟩
set_option maxRecDepth 20000 in
theorem cv_X15_406 : CV RX15 406 mX15_scan 13 1 := ⟨_, rfl, ⟨kc_X15_scan, (gk7 (List.mem_of_getElem? (i := 221) rfl) rfl), (gk1 (List.mem_of_getElem? (i := 6) rfl) rfl), (gw_mem 36 (by decide +kernel) (by decide +kernel)), ⟨by decide +kernel, by decide +kernel, by decide +kernel⟩⟩, Or.inl (gk7 (List.mem_of_getElem? (i := 219) rfl) rfl)⟩
set_option maxRecDepth 20000 in
theorem cv_X15_409 : CV RX15 409 mX15_begins 13 0 := ⟨_, rfl, ⟨kc_X15_begins, (gk7 (List.mem_of_getElem? (i := 229) rfl) rfl), (gk1 (List.mem_of_getElem? (i := 6) rfl) rfl), (gw_mem 38 (by decide +kernel) (by decide +kernel)), ⟨by decide +kernel, by decide +kernel, by decide +kernel⟩⟩, Or.inl (gk7 (List.mem_of_getElem? (i := 227) rfl) rfl)⟩
set_option maxRecDepth 20000 in
theorem cv_X15_412 : CV RX15 412 mX15_sendsOn 13 0 := ⟨_, rfl, ⟨kc_X15_sendsOn, (gk8 (List.mem_of_getElem? (i := 9) rfl) rfl), (gk1 (List.mem_of_getElem? (i := 6) rfl) rfl), (gw_mem 42 (by decide +kernel) (by decide +kernel)), ⟨by decide +kernel, by decide +kernel, by decide +kernel⟩⟩, Or.inl (gk8 (List.mem_of_getElem? (i := 7) rfl) rfl)⟩
set_option maxRecDepth 20000 in
theorem cv_X15_415 : CV RX15 415 mX15_silence 13 1 := ⟨_, rfl, ⟨kc_X15_silence, (gk8 (List.mem_of_getElem? (i := 31) rfl) rfl), (gk1 (List.mem_of_getElem? (i := 6) rfl) rfl), (gw_mem 45 (by decide +kernel) (by decide +kernel)), ⟨by decide +kernel, by decide +kernel, by decide +kernel⟩⟩, Or.inl (gk8 (List.mem_of_getElem? (i := 29) rfl) rfl)⟩
set_option maxRecDepth 20000 in
theorem cv_X15_421 : CV RX15 421 mX15_looksMaster 13 0 := ⟨_, rfl, ⟨kc_X15_looksMaster, (gk8 (List.mem_of_getElem? (i := 35) rfl) rfl), (gk1 (List.mem_of_getElem? (i := 6) rfl) rfl), (gw_mem 46 (by decide +kernel) (by decide +kernel)), ⟨by decide +kernel, by decide +kernel, by decide +kernel⟩⟩, Or.inl (gk8 (List.mem_of_getElem? (i := 33) rfl) rfl)⟩
set_option maxRecDepth 20000 in
theorem cv_X15_424 : CV RX15 424 mX14_empties 12 0 := ⟨_, rfl, ⟨kc_X14_empties, (gk8 (List.mem_of_getElem? (i := 60) rfl) rfl), (gk1 (List.mem_of_getElem? (i := 7) rfl) rfl), (gk8 (List.mem_of_getElem? (i := 61) rfl) rfl), ⟨by decide +kernel, by decide +kernel, by decide +kernel⟩⟩, Or.inl (gk8 (List.mem_of_getElem? (i := 59) rfl) rfl)⟩
set_option maxRecDepth 20000 in
theorem cv_X15_428 : CV RX15 428 mX15_looks 13 1 := ⟨_, rfl, ⟨kc_X15_looks, (gk8 (List.mem_of_getElem? (i := 67) rfl) rfl), (gk1 (List.mem_of_getElem? (i := 6) rfl) rfl), (gw_mem 47 (by decide +kernel) (by decide +kernel)), ⟨by decide +kernel, by decide +kernel, by decide +kernel⟩⟩, Or.inl (gk8 (List.mem_of_getElem? (i := 65) rfl) rfl)⟩
set_option maxRecDepth 20000 in
theorem cv_X15_435 : CV RX15 435 mX15_isDevice 13 1 := ⟨_, rfl, ⟨kc_X15_isDevice, (gk7 (List.mem_of_getElem? (i := 14) rfl) rfl), (gk1 (List.mem_of_getElem? (i := 6) rfl) rfl), (gw_mem 23 (by decide +kernel) (by decide +kernel)), ⟨by decide +kernel, by decide +kernel, by decide +kernel⟩⟩, Or.inl (gk7 (List.mem_of_getElem? (i := 12) rfl) rfl)⟩
set_option maxRecDepth 20000 in
theorem cv_X15_441 : CV RX15 441 mX12_place 10 2 := ⟨_, rfl, ⟨kc_X12_place, (gk7 (List.mem_of_getElem? (i := 26) rfl) rfl), (gk1 (List.mem_of_getElem? (i := 9) rfl) rfl), (gk7 (List.mem_of_getElem? (i := 27) rfl) rfl), ⟨by decide +kernel, by decide +kernel, by decide +kernel⟩⟩, Or.inl (gk7 (List.mem_of_getElem? (i := 25) rfl) rfl)⟩
set_option maxRecDepth 20000 in
theorem cv_X15_444 : CV RX15 444 mX15_isPlace 13 3 := ⟨_, rfl, ⟨kc_X15_isPlace, (gk7 (List.mem_of_getElem? (i := 23) rfl) rfl), (gk1 (List.mem_of_getElem? (i := 6) rfl) rfl), (gw_mem 24 (by decide +kernel) (by decide +kernel)), ⟨by decide +kernel, by decide +kernel, by decide +kernel⟩⟩, Or.inl (gk7 (List.mem_of_getElem? (i := 21) rfl) rfl)⟩
set_option maxRecDepth 20000 in
theorem cv_X15_477 : CV RX15 477 mX15_oneTick 13 0 := ⟨_, rfl, ⟨kc_X15_oneTick, (gk7 (List.mem_of_getElem? (i := 210) rfl) rfl), (gk1 (List.mem_of_getElem? (i := 6) rfl) rfl), (gw_mem 35 (by decide +kernel) (by decide +kernel)), ⟨by decide +kernel, by decide +kernel, by decide +kernel⟩⟩, Or.inl (gk7 (List.mem_of_getElem? (i := 208) rfl) rfl)⟩
set_option maxRecDepth 20000 in
theorem ci_X12_3 : CI RX12 3 mX14_init 0 := ⟨⟨kc_X14_init, rfl, (gk5 (List.mem_of_getElem? (i := 152) rfl) rfl), (gk1 (List.mem_of_getElem? (i := 7) rfl) rfl), rfl, ⟨by decide +kernel, by decide +kernel, by decide +kernel⟩⟩, Or.inr ⟨"FieldLineModel", (nw_mem 1221 (by decide +kernel) (by decide +kernel))⟩⟩
set_option maxRecDepth 20000 in
theorem cv_X12_79 : CV RX12 79 mX12_place 10 2 := ⟨_, rfl, ⟨kc_X12_place, (gk7 (List.mem_of_getElem? (i := 26) rfl) rfl), (gk1 (List.mem_of_getElem? (i := 9) rfl) rfl), (gk7 (List.mem_of_getElem? (i := 27) rfl) rfl), ⟨by decide +kernel, by decide +kernel, by decide +kernel⟩⟩, Or.inl (gk7 (List.mem_of_getElem? (i := 33) rfl) rfl)⟩
set_option maxRecDepth 20000 in
theorem cs_X14_27 : CS RX14 27 mX15_sumOf 2 := ⟨⟨kc_X15_sumOf, (gk7 (List.mem_of_getElem? (i := 0) rfl) rfl), (gk1 (List.mem_of_getElem? (i := 6) rfl) rfl), ⟨by decide +kernel, by decide +kernel, by decide +kernel⟩⟩, Or.inr ⟨"FieldLineModel", (nw_mem 1771 (by decide +kernel) (by decide +kernel))⟩⟩
set_option maxRecDepth 20000 in
theorem oi_X11_1 : Cond.methodLink RX11 1 objectInit ∈ gw := (gk1 (List.mem_of_getElem? (i := 28) rfl) rfl)
set_option maxRecDepth 20000 in
theorem mi_X11_336 : Cond.methodLink RX11 336 Lib.Math.min.name ∈ gw := (gk4 (List.mem_of_getElem? (i := 90) rfl) rfl)
set_option maxRecDepth 20000 in
theorem oi_X0_3 : Cond.methodLink RX0 3 objectInit ∈ gw := (gk2 (List.mem_of_getElem? (i := 56) rfl) rfl)
set_option maxRecDepth 20000 in
theorem mi_X0_25 : Cond.methodLink RX0 25 Lib.Math.min.name ∈ gw := (gk2 (List.mem_of_getElem? (i := 196) rfl) rfl)
set_option maxRecDepth 20000 in
theorem ma_X0_31 : Cond.methodLink RX0 31 Lib.Math.max.name ∈ gw := (gk2 (List.mem_of_getElem? (i := 199) rfl) rfl)
set_option maxRecDepth 20000 in
theorem oi_X1_3 : Cond.methodLink RX1 3 objectInit ∈ gw := (gk2 (List.mem_of_getElem? (i := 50) rfl) rfl)
set_option maxRecDepth 20000 in
theorem mi_X1_149 : Cond.methodLink RX1 149 Lib.Math.min.name ∈ gw := (gk4 (List.mem_of_getElem? (i := 209) rfl) rfl)
set_option maxRecDepth 20000 in
theorem ma_X1_155 : Cond.methodLink RX1 155 Lib.Math.max.name ∈ gw := (gk4 (List.mem_of_getElem? (i := 210) rfl) rfl)
set_option maxRecDepth 20000 in
theorem oi_X2_3 : Cond.methodLink RX2 3 objectInit ∈ gw := (gk3 (List.mem_of_getElem? (i := 231) rfl) rfl)
set_option maxRecDepth 20000 in
theorem oi_X3_3 : Cond.methodLink RX3 3 objectInit ∈ gw := (gk1 (List.mem_of_getElem? (i := 118) rfl) rfl)
set_option maxRecDepth 20000 in
theorem oi_X4_3 : Cond.methodLink RX4 3 objectInit ∈ gw := (gk1 (List.mem_of_getElem? (i := 36) rfl) rfl)
set_option maxRecDepth 20000 in
theorem mi_X4_19 : Cond.methodLink RX4 19 Lib.Math.min.name ∈ gw := (gk3 (List.mem_of_getElem? (i := 7) rfl) rfl)
set_option maxRecDepth 20000 in
theorem ma_X4_25 : Cond.methodLink RX4 25 Lib.Math.max.name ∈ gw := (gk3 (List.mem_of_getElem? (i := 8) rfl) rfl)
set_option maxRecDepth 20000 in
theorem oi_X5_3 : Cond.methodLink RX5 3 objectInit ∈ gw := (gk4 (List.mem_of_getElem? (i := 33) rfl) rfl)
set_option maxRecDepth 20000 in
theorem oi_X8_3 : Cond.methodLink RX8 3 objectInit ∈ gw := (gk2 (List.mem_of_getElem? (i := 77) rfl) rfl)
set_option maxRecDepth 20000 in
theorem oi_X9_3 : Cond.methodLink RX9 3 objectInit ∈ gw := (gk1 (List.mem_of_getElem? (i := 124) rfl) rfl)
set_option maxRecDepth 20000 in
theorem oi_X10_3 : Cond.methodLink RX10 3 objectInit ∈ gw := (gk1 (List.mem_of_getElem? (i := 60) rfl) rfl)
set_option maxRecDepth 20000 in
theorem ma_X10_76 : Cond.methodLink RX10 76 Lib.Math.max.name ∈ gw := (gk5 (List.mem_of_getElem? (i := 29) rfl) rfl)
set_option maxRecDepth 20000 in
theorem oi_X15_1 : Cond.methodLink RX15 1 objectInit ∈ gw := (gk5 (List.mem_of_getElem? (i := 146) rfl) rfl)
set_option maxRecDepth 20000 in
theorem ma_X15_227 : Cond.methodLink RX15 227 Lib.Math.max.name ∈ gw := (gk7 (List.mem_of_getElem? (i := 175) rfl) rfl)
set_option maxRecDepth 20000 in
theorem mi_X15_282 : Cond.methodLink RX15 282 Lib.Math.min.name ∈ gw := (gk7 (List.mem_of_getElem? (i := 218) rfl) rfl)
set_option maxRecDepth 20000 in
theorem oi_X13_1 : Cond.methodLink RX13 1 objectInit ∈ gw := (gk5 (List.mem_of_getElem? (i := 189) rfl) rfl)
set_option maxRecDepth 20000 in
theorem oi_X14_1 : Cond.methodLink RX14 1 objectInit ∈ gw := (gk5 (List.mem_of_getElem? (i := 154) rfl) rfl)
set_option maxRecDepth 20000 in
theorem cn_X11_63 : Cond.constant RX11 63 65535 ∈ gw := (gk2 (List.mem_of_getElem? (i := 12) rfl) rfl)
set_option maxRecDepth 20000 in
theorem cn_X11_97 : Cond.constant RX11 97 65536 ∈ gw := (gk2 (List.mem_of_getElem? (i := 191) rfl) rfl)
set_option maxRecDepth 20000 in
theorem cn_X1_33 : Cond.constant RX1 33 65535 ∈ gw := (gk2 (List.mem_of_getElem? (i := 71) rfl) rfl)
set_option maxRecDepth 20000 in
theorem cn_X4_32 : Cond.constant RX4 32 65535 ∈ gw := (gk2 (List.mem_of_getElem? (i := 29) rfl) rfl)
set_option maxRecDepth 20000 in
theorem cn_X4_33 : Cond.constant RX4 33 40961 ∈ gw := (gk2 (List.mem_of_getElem? (i := 30) rfl) rfl)
set_option maxRecDepth 20000 in
theorem cn_X6_76 : Cond.constant RX6 76 65280 ∈ gw := (gk3 (List.mem_of_getElem? (i := 105) rfl) rfl)
set_option maxRecDepth 20000 in
theorem cn_X7_46 : Cond.constant RX7 46 65280 ∈ gw := (gk5 (List.mem_of_getElem? (i := 108) rfl) rfl)
set_option maxRecDepth 20000 in
theorem cn_X15_76 : Cond.constant RX15 76 65535 ∈ gw := (gk7 (List.mem_of_getElem? (i := 2) rfl) rfl)
set_option maxRecDepth 20000 in
theorem cn_X15_77 : Cond.constant RX15 77 40961 ∈ gw := (gk7 (List.mem_of_getElem? (i := 3) rfl) rfl)
set_option maxRecDepth 20000 in
theorem cn_X15_110 : Cond.constant RX15 110 65280 ∈ gw := (gk7 (List.mem_of_getElem? (i := 115) rfl) rfl)
set_option maxRecDepth 20000 in
theorem cn_X15_281 : Cond.constant RX15 281 65536 ∈ gw := (gk7 (List.mem_of_getElem? (i := 16) rfl) rfl)
set_option maxRecDepth 20000 in
theorem cn_X12_74 : Cond.constant RX12 74 65536 ∈ gw := (gk7 (List.mem_of_getElem? (i := 102) rfl) rfl)
set_option maxRecDepth 20000 in
theorem cl_X11_7 : Cond.classLink RX11 7 "FieldLine$Row" ∈ gw := (gk1 (List.mem_of_getElem? (i := 31) rfl) rfl)
set_option maxRecDepth 20000 in
theorem cl_X11_27 : Cond.classLink RX11 27 "FieldLine$Device" ∈ gw := (gk1 (List.mem_of_getElem? (i := 53) rfl) rfl)
set_option maxRecDepth 20000 in
theorem cl_X11_37 : Cond.classLink RX11 37 "FieldLine$Wire" ∈ gw := (gk1 (List.mem_of_getElem? (i := 55) rfl) rfl)
set_option maxRecDepth 20000 in
theorem cl_X11_44 : Cond.classLink RX11 44 "FieldLine$Master" ∈ gw := (gk1 (List.mem_of_getElem? (i := 113) rfl) rfl)
set_option maxRecDepth 20000 in
theorem cl_X11_192 : Cond.classLink RX11 192 "java/lang/IllegalArgumentException" ∈ gw := (gk4 (List.mem_of_getElem? (i := 120) rfl) rfl)
set_option maxRecDepth 20000 in
theorem cl_X11_328 : Cond.classLink RX11 328 "java/lang/IndexOutOfBoundsException" ∈ gw := (gk5 (List.mem_of_getElem? (i := 125) rfl) rfl)
set_option maxRecDepth 20000 in
theorem cl_X1_21 : Cond.classLink RX1 21 "FieldLine$Bank" ∈ gw := (gk2 (List.mem_of_getElem? (i := 51) rfl) rfl)
set_option maxRecDepth 20000 in
theorem cl_X1_44 : Cond.classLink RX1 44 "FieldLine$Shelf" ∈ gw := (gk2 (List.mem_of_getElem? (i := 72) rfl) rfl)
set_option maxRecDepth 20000 in
theorem cl_X1_59 : Cond.classLink RX1 59 "FieldLine$Row" ∈ gw := (gk2 (List.mem_of_getElem? (i := 93) rfl) rfl)
set_option maxRecDepth 20000 in
theorem cl_X1_72 : Cond.classLink RX1 72 "FieldLine$Station" ∈ gw := (gk2 (List.mem_of_getElem? (i := 95) rfl) rfl)
set_option maxRecDepth 20000 in
theorem cl_X2_9 : Cond.classLink RX2 9 "FieldLine$Row" ∈ gw := (gk3 (List.mem_of_getElem? (i := 232) rfl) rfl)
set_option maxRecDepth 20000 in
theorem cl_X3_9 : Cond.classLink RX3 9 "FieldLine$Station" ∈ gw := (gk1 (List.mem_of_getElem? (i := 119) rfl) rfl)
set_option maxRecDepth 20000 in
theorem cl_X3_31 : Cond.classLink RX3 31 "FieldLine$Job" ∈ gw := (gk1 (List.mem_of_getElem? (i := 145) rfl) rfl)
set_option maxRecDepth 20000 in
theorem cl_X3_40 : Cond.classLink RX3 40 "FieldLine$Scan" ∈ gw := (gk1 (List.mem_of_getElem? (i := 147) rfl) rfl)
set_option maxRecDepth 20000 in
theorem cl_X5_9 : Cond.classLink RX5 9 "FieldLine$Row" ∈ gw := (gk4 (List.mem_of_getElem? (i := 34) rfl) rfl)
set_option maxRecDepth 20000 in
theorem cl_X8_15 : Cond.classLink RX8 15 "FieldLine$Row" ∈ gw := (gk2 (List.mem_of_getElem? (i := 78) rfl) rfl)
set_option maxRecDepth 20000 in
theorem cl_X9_9 : Cond.classLink RX9 9 "FieldLine$Row" ∈ gw := (gk1 (List.mem_of_getElem? (i := 125) rfl) rfl)
set_option maxRecDepth 20000 in
theorem cl_X10_9 : Cond.classLink RX10 9 "FieldLine$Row" ∈ gw := (gk1 (List.mem_of_getElem? (i := 61) rfl) rfl)
set_option maxRecDepth 20000 in
theorem cl_L_8 : Cond.classLink RL 8 "FieldLine" ∈ gw := (gk1 (List.mem_of_getElem? (i := 23) rfl) rfl)
set_option maxRecDepth 20000 in
theorem cl_L_13 : Cond.classLink RL 13 "java/lang/IllegalArgumentException" ∈ gw := (gk4 (List.mem_of_getElem? (i := 115) rfl) rfl)
set_option maxRecDepth 20000 in
theorem cl_L_18 : Cond.classLink RL 18 "java/lang/IndexOutOfBoundsException" ∈ gw := (gk5 (List.mem_of_getElem? (i := 120) rfl) rfl)
set_option maxRecDepth 20000 in
theorem cl_L_21 : Cond.classLink RL 21 "FieldLineModel" ∈ gw := (gk5 (List.mem_of_getElem? (i := 141) rfl) rfl)
set_option maxRecDepth 20000 in
theorem cl_X15_7 : Cond.classLink RX15 7 "FieldLineModel$Device" ∈ gw := (gk5 (List.mem_of_getElem? (i := 147) rfl) rfl)
set_option maxRecDepth 20000 in
theorem cl_X15_22 : Cond.classLink RX15 22 "FieldLineModel$Station" ∈ gw := (gk5 (List.mem_of_getElem? (i := 149) rfl) rfl)
set_option maxRecDepth 20000 in
theorem cl_X15_39 : Cond.classLink RX15 39 "FieldLineModel$Row" ∈ gw := (gk5 (List.mem_of_getElem? (i := 184) rfl) rfl)
set_option maxRecDepth 20000 in
theorem cl_X12_9 : Cond.classLink RX12 9 "[[I" ∈ gw := (gk5 (List.mem_of_getElem? (i := 214) rfl) rfl)
set_option maxRecDepth 20000 in
theorem cl_X13_7 : Cond.classLink RX13 7 "[[I" ∈ gw := (gk5 (List.mem_of_getElem? (i := 190) rfl) rfl)
set_option maxRecDepth 20000 in
theorem ao_FieldLine_Device : Cond.arrayOver (.object "FieldLine$Device") ∈ ow := ow_mem 102 (by decide +kernel) (by decide +kernel)
set_option maxRecDepth 20000 in
theorem ao_FieldLine_Job : Cond.arrayOver (.object "FieldLine$Job") ∈ ow := ow_mem 194 (by decide +kernel) (by decide +kernel)
set_option maxRecDepth 20000 in
theorem ao_FieldLine_Scan : Cond.arrayOver (.object "FieldLine$Scan") ∈ ow := ow_mem 196 (by decide +kernel) (by decide +kernel)
set_option maxRecDepth 20000 in
theorem ao_FieldLine_Row : Cond.arrayOver (.object "FieldLine$Row") ∈ ow := ow_mem 367 (by decide +kernel) (by decide +kernel)
set_option maxRecDepth 20000 in
theorem ao_FieldLineModel_Device : Cond.arrayOver (.object "FieldLineModel$Device") ∈ ow := ow_mem 1156 (by decide +kernel) (by decide +kernel)
