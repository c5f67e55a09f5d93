set_option maxRecDepth 20000 in
theorem m0 {w : Cond} (h : w ∈ k2_sels lw_privs) : w ∈ lw_tbl := List.mem_append_left _ h
set_option maxRecDepth 20000 in
theorem m1 {w : Cond} (h : w ∈ tables_1_1) : w ∈ lw_tbl := List.mem_append_right _ (show w ∈ tables_1_1 ++ (tables_1_2 ++ (tables_1_3 ++ (tables_1_4 ++ tables_1_5))) from List.mem_append_left _ h)
set_option maxRecDepth 20000 in
theorem m2 {w : Cond} (h : w ∈ tables_1_2) : w ∈ lw_tbl := List.mem_append_right _ (show w ∈ tables_1_1 ++ (tables_1_2 ++ (tables_1_3 ++ (tables_1_4 ++ tables_1_5))) from List.mem_append_right _ (List.mem_append_left _ h))
set_option maxRecDepth 20000 in
theorem m3 {w : Cond} (h : w ∈ tables_1_3) : w ∈ lw_tbl := List.mem_append_right _ (show w ∈ tables_1_1 ++ (tables_1_2 ++ (tables_1_3 ++ (tables_1_4 ++ tables_1_5))) from List.mem_append_right _ (List.mem_append_right _ (List.mem_append_left _ h)))
set_option maxRecDepth 20000 in
theorem m4 {w : Cond} (h : w ∈ tables_1_4) : w ∈ lw_tbl := List.mem_append_right _ (show w ∈ tables_1_1 ++ (tables_1_2 ++ (tables_1_3 ++ (tables_1_4 ++ tables_1_5))) from List.mem_append_right _ (List.mem_append_right _ (List.mem_append_right _ (List.mem_append_left _ h))))
set_option maxRecDepth 20000 in
theorem m5 {w : Cond} (h : w ∈ tables_1_5) : w ∈ lw_tbl := List.mem_append_right _ (show w ∈ tables_1_1 ++ (tables_1_2 ++ (tables_1_3 ++ (tables_1_4 ++ tables_1_5))) from List.mem_append_right _ (List.mem_append_right _ (List.mem_append_right _ (List.mem_append_right _ (h)))))
set_option maxRecDepth 20000 in
def lw_g : List Cond := lw_tbl.filter goodWord
set_option maxRecDepth 20000 in
theorem gm {w : Cond} (h : w ∈ lw_tbl) (g : goodWord w = true) : w ∈ lw_g := List.mem_filter.mpr ⟨h, g⟩
set_option maxRecDepth 20000 in
theorem q0 : (Cond.selects RX4 yX4_found yX4_found) ∈ lw_g := gm (m0 (List.mem_of_getElem? (i := 0) rfl)) rfl
set_option maxRecDepth 20000 in
theorem q1 : (Cond.selects RX4 yX4_isVisitor yX4_isVisitor) ∈ lw_g := gm (m0 (List.mem_of_getElem? (i := 1) rfl)) rfl
set_option maxRecDepth 20000 in
theorem q2 : (Cond.selects RX4 yX4_waitFor yX4_waitFor) ∈ lw_g := gm (m0 (List.mem_of_getElem? (i := 2) rfl)) rfl
set_option maxRecDepth 20000 in
theorem q3 : (Cond.selects RX4 yX4_isGranted yX4_isGranted) ∈ lw_g := gm (m0 (List.mem_of_getElem? (i := 3) rfl)) rfl
set_option maxRecDepth 20000 in
theorem q4 : (Cond.selects RX4 yX4_forLongestRoad yX4_forLongestRoad) ∈ lw_g := gm (m0 (List.mem_of_getElem? (i := 4) rfl)) rfl
set_option maxRecDepth 20000 in
theorem q5 : (Cond.selects RX4 yX4_tryTrait yX4_tryTrait) ∈ lw_g := gm (m0 (List.mem_of_getElem? (i := 5) rfl)) rfl
set_option maxRecDepth 20000 in
theorem q6 : (Cond.selects RX4 yX4_isUpWithout yX4_isUpWithout) ∈ lw_g := gm (m0 (List.mem_of_getElem? (i := 6) rfl)) rfl
set_option maxRecDepth 20000 in
theorem q7 : (Cond.selects RX4 yX4_toldBy yX4_toldBy) ∈ lw_g := gm (m0 (List.mem_of_getElem? (i := 7) rfl)) rfl
set_option maxRecDepth 20000 in
theorem q8 : (Cond.selects RX4 yX4_findingsInAll yX4_findingsInAll) ∈ lw_g := gm (m0 (List.mem_of_getElem? (i := 8) rfl)) rfl
set_option maxRecDepth 20000 in
theorem q9 : (Cond.selects RX5 yX5_no yX5_no) ∈ lw_g := gm (m0 (List.mem_of_getElem? (i := 9) rfl)) rfl
set_option maxRecDepth 20000 in
theorem q10 : (Cond.selects RX5 yX5_spanOf yX5_spanOf) ∈ lw_g := gm (m0 (List.mem_of_getElem? (i := 10) rfl)) rfl
set_option maxRecDepth 20000 in
theorem q11 : (Cond.selects RX5 yX5_get yX5_get) ∈ lw_g := gm (m0 (List.mem_of_getElem? (i := 11) rfl)) rfl
set_option maxRecDepth 20000 in
theorem q12 : (Cond.selects RX5 yX5_adds yX5_adds) ∈ lw_g := gm (m0 (List.mem_of_getElem? (i := 12) rfl)) rfl
set_option maxRecDepth 20000 in
theorem q13 : (Cond.selects RX5 yX5_puts yX5_puts) ∈ lw_g := gm (m0 (List.mem_of_getElem? (i := 13) rfl)) rfl
set_option maxRecDepth 20000 in
theorem q14 : (Cond.selects RX5 yX5_isVisitor yX5_isVisitor) ∈ lw_g := gm (m0 (List.mem_of_getElem? (i := 14) rfl)) rfl
set_option maxRecDepth 20000 in
theorem q15 : (Cond.selects RX5 yX5_raisesOf yX5_raisesOf) ∈ lw_g := gm (m0 (List.mem_of_getElem? (i := 15) rfl)) rfl
set_option maxRecDepth 20000 in
theorem q16 : (Cond.selects RX5 yX5_movesOf yX5_movesOf) ∈ lw_g := gm (m0 (List.mem_of_getElem? (i := 16) rfl)) rfl
set_option maxRecDepth 20000 in
theorem q17 : (Cond.selects RX5 yX5_standsNow yX5_standsNow) ∈ lw_g := gm (m0 (List.mem_of_getElem? (i := 17) rfl)) rfl
set_option maxRecDepth 20000 in
theorem q18 : (Cond.selects RX5 yX5_comes yX5_comes) ∈ lw_g := gm (m0 (List.mem_of_getElem? (i := 18) rfl)) rfl
set_option maxRecDepth 20000 in
theorem q19 : (Cond.selects RX5 yX5_getsAt yX5_getsAt) ∈ lw_g := gm (m0 (List.mem_of_getElem? (i := 19) rfl)) rfl
set_option maxRecDepth 20000 in
theorem q20 : (Cond.selects RX5 yX5_goes yX5_goes) ∈ lw_g := gm (m0 (List.mem_of_getElem? (i := 20) rfl)) rfl
set_option maxRecDepth 20000 in
theorem q21 : (Cond.selects RX5 yX5_day yX5_day) ∈ lw_g := gm (m0 (List.mem_of_getElem? (i := 21) rfl)) rfl
set_option maxRecDepth 20000 in
theorem q22 : (Cond.selects RX5 yX5_isDue yX5_isDue) ∈ lw_g := gm (m0 (List.mem_of_getElem? (i := 22) rfl)) rfl
set_option maxRecDepth 20000 in
theorem q23 : (Cond.selects RX5 yX5_slides yX5_slides) ∈ lw_g := gm (m0 (List.mem_of_getElem? (i := 23) rfl)) rfl
set_option maxRecDepth 20000 in
theorem q24 : (Cond.selects RX5 yX5_roadNow yX5_roadNow) ∈ lw_g := gm (m0 (List.mem_of_getElem? (i := 24) rfl)) rfl
set_option maxRecDepth 20000 in
theorem q25 : (Cond.selects RX5 yX5_sands yX5_sands) ∈ lw_g := gm (m0 (List.mem_of_getElem? (i := 25) rfl)) rfl
set_option maxRecDepth 20000 in
theorem q26 : (Cond.selects RX5 yX5_setOf yX5_setOf) ∈ lw_g := gm (m0 (List.mem_of_getElem? (i := 26) rfl)) rfl
set_option maxRecDepth 20000 in
theorem q27 : (Cond.selects RX5 yX5_highest yX5_highest) ∈ lw_g := gm (m0 (List.mem_of_getElem? (i := 27) rfl)) rfl
set_option maxRecDepth 20000 in
theorem q28 : (Cond.selects RX5 yX5_builds yX5_builds) ∈ lw_g := gm (m0 (List.mem_of_getElem? (i := 28) rfl)) rfl
set_option maxRecDepth 20000 in
theorem q29 : (Cond.selects RX5 yX5_thenAt yX5_thenAt) ∈ lw_g := gm (m0 (List.mem_of_getElem? (i := 29) rfl)) rfl
set_option maxRecDepth 20000 in
theorem q30 : (Cond.selects RX5 yX5_setsAside yX5_setsAside) ∈ lw_g := gm (m0 (List.mem_of_getElem? (i := 30) rfl)) rfl
set_option maxRecDepth 20000 in
theorem q31 : (Cond.selects RX5 yX5_laysBack yX5_laysBack) ∈ lw_g := gm (m0 (List.mem_of_getElem? (i := 31) rfl)) rfl
set_option maxRecDepth 20000 in
theorem q32 : (Cond.selects RX5 yX5_firstBy yX5_firstBy) ∈ lw_g := gm (m0 (List.mem_of_getElem? (i := 32) rfl)) rfl
set_option maxRecDepth 20000 in
theorem q33 : (Cond.selects RX5 yX5_isSo yX5_isSo) ∈ lw_g := gm (m0 (List.mem_of_getElem? (i := 33) rfl)) rfl
set_option maxRecDepth 20000 in
theorem q34 : (Cond.selects RX5 yX5_longestBy yX5_longestBy) ∈ lw_g := gm (m0 (List.mem_of_getElem? (i := 34) rfl)) rfl
set_option maxRecDepth 20000 in
theorem q35 : (Cond.selects RX5 yX5_thenOf yX5_thenOf) ∈ lw_g := gm (m0 (List.mem_of_getElem? (i := 35) rfl)) rfl
set_option maxRecDepth 20000 in
theorem q36 : (Cond.selects RX5 yX5_standsWithout yX5_standsWithout) ∈ lw_g := gm (m0 (List.mem_of_getElem? (i := 36) rfl)) rfl
set_option maxRecDepth 20000 in
theorem q37 : (Cond.selects RX5 yX5_wrongTold yX5_wrongTold) ∈ lw_g := gm (m0 (List.mem_of_getElem? (i := 37) rfl)) rfl
set_option maxRecDepth 20000 in
theorem q38 : (Cond.selects RX5 yX5_wrongSheet yX5_wrongSheet) ∈ lw_g := gm (m0 (List.mem_of_getElem? (i := 38) rfl)) rfl
set_option maxRecDepth 20000 in
theorem q39 : (Cond.selects RX5 yX5_allThatFit yX5_allThatFit) ∈ lw_g := gm (m0 (List.mem_of_getElem? (i := 39) rfl)) rfl
set_option maxRecDepth 20000 in
theorem q40 : (Cond.selects RX5 yX5_fitsAs yX5_fitsAs) ∈ lw_g := gm (m0 (List.mem_of_getElem? (i := 40) rfl)) rfl
set_option maxRecDepth 20000 in
theorem q41 : (Cond.selects RX5 yX5_told yX5_told) ∈ lw_g := gm (m0 (List.mem_of_getElem? (i := 41) rfl)) rfl
set_option maxRecDepth 20000 in
theorem q42 : (Cond.selects RX5 yX5_draw yX5_draw) ∈ lw_g := gm (m0 (List.mem_of_getElem? (i := 42) rfl)) rfl
set_option maxRecDepth 20000 in
theorem q43 : (Cond.selects RX5 yX5_nextToken yX5_nextToken) ∈ lw_g := gm (m0 (List.mem_of_getElem? (i := 43) rfl)) rfl
set_option maxRecDepth 20000 in
theorem q44 : (Cond.selects RX5 yX5_readsItem yX5_readsItem) ∈ lw_g := gm (m0 (List.mem_of_getElem? (i := 44) rfl)) rfl
set_option maxRecDepth 20000 in
theorem q45 : (Cond.selects RX5 yX5_wordOf yX5_wordOf) ∈ lw_g := gm (m0 (List.mem_of_getElem? (i := 45) rfl)) rfl
set_option maxRecDepth 20000 in
theorem q46 : (Cond.selects RX5 yX5_readsVisitor yX5_readsVisitor) ∈ lw_g := gm (m0 (List.mem_of_getElem? (i := 46) rfl)) rfl
set_option maxRecDepth 20000 in
theorem q47 : (Cond.selects RX5 yX5_takesNumber yX5_takesNumber) ∈ lw_g := gm (m0 (List.mem_of_getElem? (i := 47) rfl)) rfl
set_option maxRecDepth 20000 in
theorem q48 : (Cond.initialized RL) ∈ lw_g := gm (m1 (List.mem_of_getElem? (i := 0) rfl)) rfl
set_option maxRecDepth 20000 in
theorem q49 : (Cond.initialized RX4) ∈ lw_g := gm (m1 (List.mem_of_getElem? (i := 1) rfl)) rfl
set_option maxRecDepth 20000 in
theorem q50 : (Cond.initialized RX0) ∈ lw_g := gm (m1 (List.mem_of_getElem? (i := 2) rfl)) rfl
set_option maxRecDepth 20000 in
theorem q51 : (Cond.initialized RX3) ∈ lw_g := gm (m1 (List.mem_of_getElem? (i := 3) rfl)) rfl
set_option maxRecDepth 20000 in
theorem q52 : (Cond.initialized RX2) ∈ lw_g := gm (m1 (List.mem_of_getElem? (i := 4) rfl)) rfl
set_option maxRecDepth 20000 in
theorem q53 : (Cond.initialized RX1) ∈ lw_g := gm (m1 (List.mem_of_getElem? (i := 5) rfl)) rfl
set_option maxRecDepth 20000 in
theorem q54 : (Cond.initialized RX5) ∈ lw_g := gm (m1 (List.mem_of_getElem? (i := 6) rfl)) rfl
set_option maxRecDepth 20000 in
theorem q55 : (Cond.initialized RJ9) ∈ lw_g := gm (m1 (List.mem_of_getElem? (i := 7) rfl)) rfl
set_option maxRecDepth 20000 in
theorem q56 : (Cond.initialized RJ10) ∈ lw_g := gm (m1 (List.mem_of_getElem? (i := 8) rfl)) rfl
set_option maxRecDepth 20000 in
theorem q57 : (Cond.initialized RJ6) ∈ lw_g := gm (m1 (List.mem_of_getElem? (i := 9) rfl)) rfl
set_option maxRecDepth 20000 in
theorem q58 : (Cond.initialized RJ0) ∈ lw_g := gm (m1 (List.mem_of_getElem? (i := 10) rfl)) rfl
set_option maxRecDepth 20000 in
theorem q59 : (Cond.initialized RJ1) ∈ lw_g := gm (m1 (List.mem_of_getElem? (i := 11) rfl)) rfl
set_option maxRecDepth 20000 in
theorem q60 : (Cond.initialized RJ3) ∈ lw_g := gm (m1 (List.mem_of_getElem? (i := 12) rfl)) rfl
set_option maxRecDepth 20000 in
theorem q61 : (Cond.initialized RJ2) ∈ lw_g := gm (m1 (List.mem_of_getElem? (i := 13) rfl)) rfl
set_option maxRecDepth 20000 in
theorem q62 : (Cond.classLink RL (7 : Nat) "SandLedger") ∈ lw_g := gm (m1 (List.mem_of_getElem? (i := 14) rfl)) rfl
set_option maxRecDepth 20000 in
theorem q63 : (Cond.instantiable RX4 (8 : Nat)) ∈ lw_g := gm (m1 (List.mem_of_getElem? (i := 15) rfl)) rfl
set_option maxRecDepth 20000 in
theorem q64 : (Cond.methodLink RL (9 : Nat) yX4_init) ∈ lw_g := gm (m1 (List.mem_of_getElem? (i := 16) rfl)) rfl
set_option maxRecDepth 20000 in
theorem q65 : (Cond.instanceMethod yX4_init) ∈ lw_g := gm (m1 (List.mem_of_getElem? (i := 17) rfl)) rfl
set_option maxRecDepth 20000 in
theorem q66 : (Cond.code yX4_init cX4_init (2 : Nat) (Option.none : Option FieldType)) ∈ lw_g := gm (m1 (List.mem_of_getElem? (i := 18) rfl)) rfl
set_option maxRecDepth 20000 in
theorem q67 : (Cond.methodLink RX4 (1 : Nat) objectInit) ∈ lw_g := gm (m1 (List.mem_of_getElem? (i := 19) rfl)) rfl
set_option maxRecDepth 20000 in
theorem q68 : (Cond.instanceMethod objectInit) ∈ lw_g := gm (m1 (List.mem_of_getElem? (i := 20) rfl)) rfl
set_option maxRecDepth 20000 in
theorem q69 : (Cond.code objectInit object_method_1_code (1 : Nat) (Option.none : Option FieldType)) ∈ lw_g := gm (m1 (List.mem_of_getElem? (i := 21) rfl)) rfl
set_option maxRecDepth 20000 in
theorem q70 : (Cond.classLink RX4 (7 : Nat) "SandLedger$Pit") ∈ lw_g := gm (m1 (List.mem_of_getElem? (i := 22) rfl)) rfl
set_option maxRecDepth 20000 in
theorem q71 : (Cond.instantiable RX0 (7 : Nat)) ∈ lw_g := gm (m1 (List.mem_of_getElem? (i := 23) rfl)) rfl
set_option maxRecDepth 20000 in
theorem q72 : (Cond.methodLink RX4 (9 : Nat) yX0_init) ∈ lw_g := gm (m1 (List.mem_of_getElem? (i := 24) rfl)) rfl
set_option maxRecDepth 20000 in
theorem q73 : (Cond.instanceMethod yX0_init) ∈ lw_g := gm (m1 (List.mem_of_getElem? (i := 25) rfl)) rfl
set_option maxRecDepth 20000 in
theorem q74 : (Cond.code yX0_init cX0_init (2 : Nat) (Option.none : Option FieldType)) ∈ lw_g := gm (m1 (List.mem_of_getElem? (i := 26) rfl)) rfl
set_option maxRecDepth 20000 in
theorem q75 : (Cond.methodLink RX0 (3 : Nat) objectInit) ∈ lw_g := gm (m1 (List.mem_of_getElem? (i := 27) rfl)) rfl
set_option maxRecDepth 20000 in
theorem q76 : (Cond.classLink RX0 (18 : Nat) "[[I") ∈ lw_g := gm (m1 (List.mem_of_getElem? (i := 28) rfl)) rfl
set_option maxRecDepth 20000 in
theorem q77 : (Cond.arrayOver (FieldType.array FieldType.int)) ∈ lw_tbl := m1 (List.mem_of_getElem? (i := 29) rfl)
set_option maxRecDepth 20000 in
theorem q78 : (Cond.fieldLinkNest RX0 (30 : Nat) "SandLedger" "SETTING_FIRST" "[I" "SandLedger") ∈ lw_tbl := m1 (List.mem_of_getElem? (i := 30) rfl)
set_option maxRecDepth 20000 in
theorem q79 : (Cond.laysStatic RX4 "SETTING_FIRST" "[I") ∈ lw_tbl := m1 (List.mem_of_getElem? (i := 31) rfl)
set_option maxRecDepth 20000 in
theorem q80 : (Cond.fieldLink RX0 (9 : Nat) "SandLedger$Pit" "heaps" "[I") ∈ lw_g := gm (m1 (List.mem_of_getElem? (i := 32) rfl)) rfl
set_option maxRecDepth 20000 in
theorem q81 : (Cond.fieldLink RX4 (53 : Nat) "SandLedger$Pit" "heaps" "[I") ∈ lw_g := gm (m1 (List.mem_of_getElem? (i := 33) rfl)) rfl
set_option maxRecDepth 20000 in
theorem q82 : (Cond.fieldLink RX3 (118 : Nat) "SandLedger$Pit" "heaps" "[I") ∈ lw_g := gm (m1 (List.mem_of_getElem? (i := 34) rfl)) rfl
set_option maxRecDepth 20000 in
theorem q83 : (Cond.fieldLink RX0 (15 : Nat) "SandLedger$Pit" "settings" "[I") ∈ lw_g := gm (m1 (List.mem_of_getElem? (i := 35) rfl)) rfl
set_option maxRecDepth 20000 in
theorem q84 : (Cond.fieldLink RX4 (62 : Nat) "SandLedger$Pit" "settings" "[I") ∈ lw_g := gm (m1 (List.mem_of_getElem? (i := 36) rfl)) rfl
set_option maxRecDepth 20000 in
theorem q85 : (Cond.fieldLink RX3 (124 : Nat) "SandLedger$Pit" "settings" "[I") ∈ lw_g := gm (m1 (List.mem_of_getElem? (i := 37) rfl)) rfl
set_option maxRecDepth 20000 in
theorem q86 : (Cond.fieldLink RX0 (20 : Nat) "SandLedger$Pit" "traits" "[[I") ∈ lw_g := gm (m1 (List.mem_of_getElem? (i := 38) rfl)) rfl
set_option maxRecDepth 20000 in
theorem q87 : (Cond.fieldLink RX3 (111 : Nat) "SandLedger$Pit" "traits" "[[I") ∈ lw_g := gm (m1 (List.mem_of_getElem? (i := 39) rfl)) rfl
set_option maxRecDepth 20000 in
theorem q88 : (Cond.fieldLink RX4 (89 : Nat) "SandLedger$Pit" "traits" "[[I") ∈ lw_g := gm (m1 (List.mem_of_getElem? (i := 40) rfl)) rfl
set_option maxRecDepth 20000 in
theorem q89 : (Cond.fieldLink RX0 (23 : Nat) "SandLedger$Pit" "spots" "[I") ∈ lw_g := gm (m1 (List.mem_of_getElem? (i := 41) rfl)) rfl
set_option maxRecDepth 20000 in
theorem q90 : (Cond.fieldLink RX4 (189 : Nat) "SandLedger$Pit" "spots" "[I") ∈ lw_g := gm (m1 (List.mem_of_getElem? (i := 42) rfl)) rfl
set_option maxRecDepth 20000 in
theorem q91 : (Cond.fieldLink RX0 (39 : Nat) "SandLedger$Pit" "visitors" "I") ∈ lw_g := gm (m1 (List.mem_of_getElem? (i := 43) rfl)) rfl
set_option maxRecDepth 20000 in
theorem q92 : (Cond.fieldLink RX4 (149 : Nat) "SandLedger$Pit" "visitors" "I") ∈ lw_g := gm (m1 (List.mem_of_getElem? (i := 44) rfl)) rfl
set_option maxRecDepth 20000 in
theorem q93 : (Cond.fieldLink RX0 (42 : Nat) "SandLedger$Pit" "day" "I") ∈ lw_g := gm (m1 (List.mem_of_getElem? (i := 45) rfl)) rfl
set_option maxRecDepth 20000 in
theorem q94 : (Cond.fieldLink RX4 (100 : Nat) "SandLedger$Pit" "day" "I") ∈ lw_g := gm (m1 (List.mem_of_getElem? (i := 46) rfl)) rfl
set_option maxRecDepth 20000 in
theorem q95 : (Cond.fieldLink RX0 (26 : Nat) "SandLedger$Pit" "z" "I") ∈ lw_g := gm (m1 (List.mem_of_getElem? (i := 47) rfl)) rfl
set_option maxRecDepth 20000 in
theorem q96 : (Cond.fieldLink RX4 (174 : Nat) "SandLedger$Pit" "z" "I") ∈ lw_g := gm (m1 (List.mem_of_getElem? (i := 48) rfl)) rfl
set_option maxRecDepth 20000 in
theorem q97 : (Cond.laysFinal RX0 "SandLedger$Pit" "heaps" "[I") ∈ lw_g := gm (m1 (List.mem_of_getElem? (i := 49) rfl)) rfl
set_option maxRecDepth 20000 in
theorem q98 : (Cond.soleField "SandLedger$Pit" "heaps") ∈ lw_g := gm (m1 (List.mem_of_getElem? (i := 50) rfl)) rfl
set_option maxRecDepth 20000 in
theorem q99 : (Cond.laysFinal RX0 "SandLedger$Pit" "settings" "[I") ∈ lw_g := gm (m1 (List.mem_of_getElem? (i := 51) rfl)) rfl
set_option maxRecDepth 20000 in
theorem q100 : (Cond.soleField "SandLedger$Pit" "settings") ∈ lw_g := gm (m1 (List.mem_of_getElem? (i := 52) rfl)) rfl
set_option maxRecDepth 20000 in
theorem q101 : (Cond.laysFinal RX0 "SandLedger$Pit" "traits" "[[I") ∈ lw_g := gm (m1 (List.mem_of_getElem? (i := 53) rfl)) rfl
set_option maxRecDepth 20000 in
theorem q102 : (Cond.soleField "SandLedger$Pit" "traits") ∈ lw_g := gm (m1 (List.mem_of_getElem? (i := 54) rfl)) rfl
set_option maxRecDepth 20000 in
theorem q103 : (Cond.laysFinal RX0 "SandLedger$Pit" "spots" "[I") ∈ lw_g := gm (m1 (List.mem_of_getElem? (i := 55) rfl)) rfl
set_option maxRecDepth 20000 in
theorem q104 : (Cond.soleField "SandLedger$Pit" "spots") ∈ lw_g := gm (m1 (List.mem_of_getElem? (i := 56) rfl)) rfl
set_option maxRecDepth 20000 in
theorem q105 : (Cond.lays RX0 "SandLedger$Pit" "visitors" "I") ∈ lw_g := gm (m1 (List.mem_of_getElem? (i := 57) rfl)) rfl
set_option maxRecDepth 20000 in
theorem q106 : (Cond.soleField "SandLedger$Pit" "visitors") ∈ lw_g := gm (m1 (List.mem_of_getElem? (i := 58) rfl)) rfl
set_option maxRecDepth 20000 in
theorem q107 : (Cond.lays RX0 "SandLedger$Pit" "day" "I") ∈ lw_g := gm (m1 (List.mem_of_getElem? (i := 59) rfl)) rfl
set_option maxRecDepth 20000 in
theorem q108 : (Cond.soleField "SandLedger$Pit" "day") ∈ lw_g := gm (m1 (List.mem_of_getElem? (i := 60) rfl)) rfl
set_option maxRecDepth 20000 in
theorem q109 : (Cond.lays RX0 "SandLedger$Pit" "z" "I") ∈ lw_g := gm (m1 (List.mem_of_getElem? (i := 61) rfl)) rfl
set_option maxRecDepth 20000 in
theorem q110 : (Cond.soleField "SandLedger$Pit" "z") ∈ lw_g := gm (m1 (List.mem_of_getElem? (i := 62) rfl)) rfl
set_option maxRecDepth 20000 in
theorem q111 : (Cond.superclass "SandLedger$Pit" "java/lang/Object") ∈ lw_g := gm (m1 (List.mem_of_getElem? (i := 63) rfl)) rfl
set_option maxRecDepth 20000 in
theorem q112 : (Cond.arrayClass FieldType.int) ∈ lw_g := gm (m1 (List.mem_of_getElem? (i := 64) rfl)) rfl
set_option maxRecDepth 20000 in
theorem q113 : (Cond.classLink RX4 (22 : Nat) "SandLedger$TextReader") ∈ lw_g := gm (m1 (List.mem_of_getElem? (i := 65) rfl)) rfl
set_option maxRecDepth 20000 in
theorem q114 : (Cond.instantiable RX3 (5 : Nat)) ∈ lw_g := gm (m1 (List.mem_of_getElem? (i := 66) rfl)) rfl
set_option maxRecDepth 20000 in
theorem q115 : (Cond.methodLinkNest RX4 (24 : Nat) yX3_init "SandLedger") ∈ lw_tbl := m1 (List.mem_of_getElem? (i := 67) rfl)
set_option maxRecDepth 20000 in
theorem q116 : (Cond.instanceMethod yX3_init) ∈ lw_g := gm (m1 (List.mem_of_getElem? (i := 68) rfl)) rfl
set_option maxRecDepth 20000 in
theorem q117 : (Cond.code yX3_init cX3_init (1 : Nat) (Option.none : Option FieldType)) ∈ lw_g := gm (m1 (List.mem_of_getElem? (i := 69) rfl)) rfl
set_option maxRecDepth 20000 in
theorem q118 : (Cond.methodLink RX3 (3 : Nat) objectInit) ∈ lw_g := gm (m1 (List.mem_of_getElem? (i := 70) rfl)) rfl
set_option maxRecDepth 20000 in
theorem q119 : (Cond.classLink RX3 (9 : Nat) "SandLedger$Tape") ∈ lw_g := gm (m1 (List.mem_of_getElem? (i := 71) rfl)) rfl
set_option maxRecDepth 20000 in
theorem q120 : (Cond.instantiable RX2 (2 : Nat)) ∈ lw_g := gm (m1 (List.mem_of_getElem? (i := 72) rfl)) rfl
set_option maxRecDepth 20000 in
theorem q121 : (Cond.methodLinkNest RX3 (11 : Nat) yX2_init "SandLedger") ∈ lw_tbl := m1 (List.mem_of_getElem? (i := 73) rfl)
set_option maxRecDepth 20000 in
theorem q122 : (Cond.instanceMethod yX2_init) ∈ lw_g := gm (m1 (List.mem_of_getElem? (i := 74) rfl)) rfl
set_option maxRecDepth 20000 in
theorem q123 : (Cond.code yX2_init cX2_init (1 : Nat) (Option.none : Option FieldType)) ∈ lw_g := gm (m1 (List.mem_of_getElem? (i := 75) rfl)) rfl
set_option maxRecDepth 20000 in
theorem q124 : (Cond.methodLink RX2 (3 : Nat) objectInit) ∈ lw_g := gm (m1 (List.mem_of_getElem? (i := 76) rfl)) rfl
set_option maxRecDepth 20000 in
theorem q125 : (Cond.fieldLink RX2 (9 : Nat) "SandLedger$Tape" "bytes" "[B") ∈ lw_g := gm (m1 (List.mem_of_getElem? (i := 77) rfl)) rfl
set_option maxRecDepth 20000 in
theorem q126 : (Cond.fieldLink RX3 (141 : Nat) "SandLedger$Tape" "bytes" "[B") ∈ lw_g := gm (m1 (List.mem_of_getElem? (i := 78) rfl)) rfl
set_option maxRecDepth 20000 in
theorem q127 : (Cond.fieldLink RX2 (15 : Nat) "SandLedger$Tape" "length" "I") ∈ lw_g := gm (m1 (List.mem_of_getElem? (i := 79) rfl)) rfl
set_option maxRecDepth 20000 in
theorem q128 : (Cond.fieldLink RX3 (145 : Nat) "SandLedger$Tape" "length" "I") ∈ lw_g := gm (m1 (List.mem_of_getElem? (i := 80) rfl)) rfl
set_option maxRecDepth 20000 in
theorem q129 : (Cond.fieldLink RX4 (177 : Nat) "SandLedger$Tape" "length" "I") ∈ lw_g := gm (m1 (List.mem_of_getElem? (i := 81) rfl)) rfl
set_option maxRecDepth 20000 in
theorem q130 : (Cond.laysFinal RX2 "SandLedger$Tape" "bytes" "[B") ∈ lw_g := gm (m1 (List.mem_of_getElem? (i := 82) rfl)) rfl
set_option maxRecDepth 20000 in
theorem q131 : (Cond.soleField "SandLedger$Tape" "bytes") ∈ lw_g := gm (m1 (List.mem_of_getElem? (i := 83) rfl)) rfl
set_option maxRecDepth 20000 in
theorem q132 : (Cond.lays RX2 "SandLedger$Tape" "length" "I") ∈ lw_g := gm (m1 (List.mem_of_getElem? (i := 84) rfl)) rfl
set_option maxRecDepth 20000 in
theorem q133 : (Cond.soleField "SandLedger$Tape" "length") ∈ lw_g := gm (m1 (List.mem_of_getElem? (i := 85) rfl)) rfl
set_option maxRecDepth 20000 in
theorem q134 : (Cond.superclass "SandLedger$Tape" "java/lang/Object") ∈ lw_g := gm (m1 (List.mem_of_getElem? (i := 86) rfl)) rfl
set_option maxRecDepth 20000 in
theorem q135 : (Cond.arrayClass FieldType.byte) ∈ lw_g := gm (m1 (List.mem_of_getElem? (i := 87) rfl)) rfl
set_option maxRecDepth 20000 in
theorem q136 : (Cond.fieldLink RX3 (12 : Nat) "SandLedger$TextReader" "tape" "LSandLedger$Tape;") ∈ lw_g := gm (m1 (List.mem_of_getElem? (i := 88) rfl)) rfl
set_option maxRecDepth 20000 in
theorem q137 : (Cond.fieldLink RX4 (29 : Nat) "SandLedger$TextReader" "tape" "LSandLedger$Tape;") ∈ lw_g := gm (m1 (List.mem_of_getElem? (i := 89) rfl)) rfl
set_option maxRecDepth 20000 in
theorem q138 : (Cond.fieldLink RX3 (32 : Nat) "SandLedger$TextReader" "token" "I") ∈ lw_g := gm (m1 (List.mem_of_getElem? (i := 90) rfl)) rfl
set_option maxRecDepth 20000 in
theorem q139 : (Cond.fieldLink RX3 (29 : Nat) "SandLedger$TextReader" "begin" "I") ∈ lw_g := gm (m1 (List.mem_of_getElem? (i := 91) rfl)) rfl
set_option maxRecDepth 20000 in
theorem q140 : (Cond.fieldLink RX3 (18 : Nat) "SandLedger$TextReader" "end" "I") ∈ lw_g := gm (m1 (List.mem_of_getElem? (i := 92) rfl)) rfl
set_option maxRecDepth 20000 in
theorem q141 : (Cond.fieldLink RX3 (115 : Nat) "SandLedger$TextReader" "value" "I") ∈ lw_g := gm (m1 (List.mem_of_getElem? (i := 93) rfl)) rfl
set_option maxRecDepth 20000 in
theorem q142 : (Cond.laysFinal RX3 "SandLedger$TextReader" "tape" "LSandLedger$Tape;") ∈ lw_g := gm (m1 (List.mem_of_getElem? (i := 94) rfl)) rfl
set_option maxRecDepth 20000 in
theorem q143 : (Cond.soleField "SandLedger$TextReader" "tape") ∈ lw_g := gm (m1 (List.mem_of_getElem? (i := 95) rfl)) rfl
set_option maxRecDepth 20000 in
theorem q144 : (Cond.lays RX3 "SandLedger$TextReader" "token" "I") ∈ lw_g := gm (m1 (List.mem_of_getElem? (i := 96) rfl)) rfl
set_option maxRecDepth 20000 in
theorem q145 : (Cond.soleField "SandLedger$TextReader" "token") ∈ lw_g := gm (m1 (List.mem_of_getElem? (i := 97) rfl)) rfl
set_option maxRecDepth 20000 in
theorem q146 : (Cond.lays RX3 "SandLedger$TextReader" "begin" "I") ∈ lw_g := gm (m1 (List.mem_of_getElem? (i := 98) rfl)) rfl
set_option maxRecDepth 20000 in
theorem q147 : (Cond.soleField "SandLedger$TextReader" "begin") ∈ lw_g := gm (m1 (List.mem_of_getElem? (i := 99) rfl)) rfl
set_option maxRecDepth 20000 in
theorem q148 : (Cond.lays RX3 "SandLedger$TextReader" "end" "I") ∈ lw_g := gm (m1 (List.mem_of_getElem? (i := 100) rfl)) rfl
set_option maxRecDepth 20000 in
theorem q149 : (Cond.soleField "SandLedger$TextReader" "end") ∈ lw_g := gm (m1 (List.mem_of_getElem? (i := 101) rfl)) rfl
set_option maxRecDepth 20000 in
theorem q150 : (Cond.lays RX3 "SandLedger$TextReader" "value" "I") ∈ lw_g := gm (m1 (List.mem_of_getElem? (i := 102) rfl)) rfl
set_option maxRecDepth 20000 in
theorem q151 : (Cond.soleField "SandLedger$TextReader" "value") ∈ lw_g := gm (m1 (List.mem_of_getElem? (i := 103) rfl)) rfl
set_option maxRecDepth 20000 in
theorem q152 : (Cond.superclass "SandLedger$TextReader" "java/lang/Object") ∈ lw_g := gm (m1 (List.mem_of_getElem? (i := 104) rfl)) rfl
set_option maxRecDepth 20000 in
theorem q153 : (Cond.classLink RX4 (34 : Nat) "SandLedger$Sheet") ∈ lw_g := gm (m1 (List.mem_of_getElem? (i := 105) rfl)) rfl
set_option maxRecDepth 20000 in
theorem q154 : (Cond.arrayOver (FieldType.object "SandLedger$Sheet")) ∈ lw_tbl := m1 (List.mem_of_getElem? (i := 106) rfl)
set_option maxRecDepth 20000 in
theorem q155 : (Cond.instantiable RX1 (3 : Nat)) ∈ lw_g := gm (m1 (List.mem_of_getElem? (i := 107) rfl)) rfl
set_option maxRecDepth 20000 in
theorem q156 : (Cond.methodLinkNest RX4 (44 : Nat) yX1_init "SandLedger") ∈ lw_tbl := m1 (List.mem_of_getElem? (i := 108) rfl)
set_option maxRecDepth 20000 in
theorem q157 : (Cond.instanceMethod yX1_init) ∈ lw_g := gm (m1 (List.mem_of_getElem? (i := 109) rfl)) rfl
set_option maxRecDepth 20000 in
theorem q158 : (Cond.code yX1_init cX1_init (1 : Nat) (Option.none : Option FieldType)) ∈ lw_g := gm (m1 (List.mem_of_getElem? (i := 110) rfl)) rfl
set_option maxRecDepth 20000 in
theorem q159 : (Cond.methodLink RX1 (3 : Nat) objectInit) ∈ lw_g := gm (m1 (List.mem_of_getElem? (i := 111) rfl)) rfl
set_option maxRecDepth 20000 in
theorem q160 : (Cond.fieldLink RX1 (9 : Nat) "SandLedger$Sheet" "numbers" "[I") ∈ lw_g := gm (m1 (List.mem_of_getElem? (i := 112) rfl)) rfl
set_option maxRecDepth 20000 in
theorem q161 : (Cond.fieldLink RX4 (216 : Nat) "SandLedger$Sheet" "numbers" "[I") ∈ lw_g := gm (m1 (List.mem_of_getElem? (i := 113) rfl)) rfl
set_option maxRecDepth 20000 in
theorem q162 : (Cond.fieldLink RX1 (15 : Nat) "SandLedger$Sheet" "bits" "I") ∈ lw_g := gm (m1 (List.mem_of_getElem? (i := 114) rfl)) rfl
set_option maxRecDepth 20000 in
theorem q163 : (Cond.fieldLink RX4 (210 : Nat) "SandLedger$Sheet" "bits" "I") ∈ lw_g := gm (m1 (List.mem_of_getElem? (i := 115) rfl)) rfl
set_option maxRecDepth 20000 in
theorem q164 : (Cond.fieldLink RX1 (19 : Nat) "SandLedger$Sheet" "size" "I") ∈ lw_g := gm (m1 (List.mem_of_getElem? (i := 116) rfl)) rfl
set_option maxRecDepth 20000 in
theorem q165 : (Cond.fieldLink RX4 (201 : Nat) "SandLedger$Sheet" "size" "I") ∈ lw_g := gm (m1 (List.mem_of_getElem? (i := 117) rfl)) rfl
set_option maxRecDepth 20000 in
theorem q166 : (Cond.laysFinal RX1 "SandLedger$Sheet" "numbers" "[I") ∈ lw_g := gm (m1 (List.mem_of_getElem? (i := 118) rfl)) rfl
set_option maxRecDepth 20000 in
theorem q167 : (Cond.soleField "SandLedger$Sheet" "numbers") ∈ lw_g := gm (m1 (List.mem_of_getElem? (i := 119) rfl)) rfl
set_option maxRecDepth 20000 in
theorem q168 : (Cond.lays RX1 "SandLedger$Sheet" "bits" "I") ∈ lw_g := gm (m1 (List.mem_of_getElem? (i := 120) rfl)) rfl
set_option maxRecDepth 20000 in
theorem q169 : (Cond.soleField "SandLedger$Sheet" "bits") ∈ lw_g := gm (m1 (List.mem_of_getElem? (i := 121) rfl)) rfl
set_option maxRecDepth 20000 in
theorem q170 : (Cond.lays RX1 "SandLedger$Sheet" "size" "I") ∈ lw_g := gm (m1 (List.mem_of_getElem? (i := 122) rfl)) rfl
set_option maxRecDepth 20000 in
theorem q171 : (Cond.soleField "SandLedger$Sheet" "size") ∈ lw_g := gm (m1 (List.mem_of_getElem? (i := 123) rfl)) rfl
set_option maxRecDepth 20000 in
theorem q172 : (Cond.superclass "SandLedger$Sheet" "java/lang/Object") ∈ lw_g := gm (m1 (List.mem_of_getElem? (i := 124) rfl)) rfl
set_option maxRecDepth 20000 in
theorem q173 : (Cond.fieldLink RX4 (10 : Nat) "SandLedger" "pit" "LSandLedger$Pit;") ∈ lw_g := gm (m1 (List.mem_of_getElem? (i := 125) rfl)) rfl
set_option maxRecDepth 20000 in
theorem q174 : (Cond.fieldLink RX4 (16 : Nat) "SandLedger" "kept" "LSandLedger$Pit;") ∈ lw_g := gm (m1 (List.mem_of_getElem? (i := 126) rfl)) rfl
set_option maxRecDepth 20000 in
theorem q175 : (Cond.fieldLink RX4 (19 : Nat) "SandLedger" "trial" "LSandLedger$Pit;") ∈ lw_g := gm (m1 (List.mem_of_getElem? (i := 127) rfl)) rfl
set_option maxRecDepth 20000 in
theorem q176 : (Cond.fieldLink RX4 (25 : Nat) "SandLedger" "reader" "LSandLedger$TextReader;") ∈ lw_g := gm (m1 (List.mem_of_getElem? (i := 128) rfl)) rfl
set_option maxRecDepth 20000 in
theorem q177 : (Cond.fieldLink RX4 (33 : Nat) "SandLedger" "tape" "LSandLedger$Tape;") ∈ lw_g := gm (m1 (List.mem_of_getElem? (i := 129) rfl)) rfl
set_option maxRecDepth 20000 in
theorem q178 : (Cond.fieldLink RX4 (36 : Nat) "SandLedger" "sheets" "[LSandLedger$Sheet;") ∈ lw_g := gm (m1 (List.mem_of_getElem? (i := 130) rfl)) rfl
set_option maxRecDepth 20000 in
theorem q179 : (Cond.fieldLink RX4 (40 : Nat) "SandLedger" "findings" "[I") ∈ lw_g := gm (m1 (List.mem_of_getElem? (i := 131) rfl)) rfl
set_option maxRecDepth 20000 in
theorem q180 : (Cond.fieldLink RX4 (230 : Nat) "SandLedger" "isKept" "Z") ∈ lw_g := gm (m1 (List.mem_of_getElem? (i := 132) rfl)) rfl
set_option maxRecDepth 20000 in
theorem q181 : (Cond.laysFinal RX4 "SandLedger" "pit" "LSandLedger$Pit;") ∈ lw_g := gm (m1 (List.mem_of_getElem? (i := 133) rfl)) rfl
set_option maxRecDepth 20000 in
theorem q182 : (Cond.soleField "SandLedger" "pit") ∈ lw_g := gm (m1 (List.mem_of_getElem? (i := 134) rfl)) rfl
set_option maxRecDepth 20000 in
theorem q183 : (Cond.laysFinal RX4 "SandLedger" "kept" "LSandLedger$Pit;") ∈ lw_g := gm (m1 (List.mem_of_getElem? (i := 135) rfl)) rfl
set_option maxRecDepth 20000 in
theorem q184 : (Cond.soleField "SandLedger" "kept") ∈ lw_g := gm (m1 (List.mem_of_getElem? (i := 136) rfl)) rfl
set_option maxRecDepth 20000 in
theorem q185 : (Cond.laysFinal RX4 "SandLedger" "trial" "LSandLedger$Pit;") ∈ lw_g := gm (m1 (List.mem_of_getElem? (i := 137) rfl)) rfl
set_option maxRecDepth 20000 in
theorem q186 : (Cond.soleField "SandLedger" "trial") ∈ lw_g := gm (m1 (List.mem_of_getElem? (i := 138) rfl)) rfl
set_option maxRecDepth 20000 in
theorem q187 : (Cond.laysFinal RX4 "SandLedger" "reader" "LSandLedger$TextReader;") ∈ lw_g := gm (m1 (List.mem_of_getElem? (i := 139) rfl)) rfl
set_option maxRecDepth 20000 in
theorem q188 : (Cond.soleField "SandLedger" "reader") ∈ lw_g := gm (m1 (List.mem_of_getElem? (i := 140) rfl)) rfl
set_option maxRecDepth 20000 in
theorem q189 : (Cond.laysFinal RX4 "SandLedger" "tape" "LSandLedger$Tape;") ∈ lw_g := gm (m1 (List.mem_of_getElem? (i := 141) rfl)) rfl
set_option maxRecDepth 20000 in
theorem q190 : (Cond.soleField "SandLedger" "tape") ∈ lw_g := gm (m1 (List.mem_of_getElem? (i := 142) rfl)) rfl
set_option maxRecDepth 20000 in
theorem q191 : (Cond.laysFinal RX4 "SandLedger" "sheets" "[LSandLedger$Sheet;") ∈ lw_g := gm (m1 (List.mem_of_getElem? (i := 143) rfl)) rfl
set_option maxRecDepth 20000 in
theorem q192 : (Cond.soleField "SandLedger" "sheets") ∈ lw_g := gm (m1 (List.mem_of_getElem? (i := 144) rfl)) rfl
set_option maxRecDepth 20000 in
theorem q193 : (Cond.laysFinal RX4 "SandLedger" "findings" "[I") ∈ lw_g := gm (m1 (List.mem_of_getElem? (i := 145) rfl)) rfl
set_option maxRecDepth 20000 in
theorem q194 : (Cond.soleField "SandLedger" "findings") ∈ lw_g := gm (m1 (List.mem_of_getElem? (i := 146) rfl)) rfl
set_option maxRecDepth 20000 in
theorem q195 : (Cond.lays RX4 "SandLedger" "isKept" "Z") ∈ lw_g := gm (m1 (List.mem_of_getElem? (i := 147) rfl)) rfl
set_option maxRecDepth 20000 in
theorem q196 : (Cond.soleField "SandLedger" "isKept") ∈ lw_g := gm (m1 (List.mem_of_getElem? (i := 148) rfl)) rfl
set_option maxRecDepth 20000 in
theorem q197 : (Cond.superclass "SandLedger" "java/lang/Object") ∈ lw_g := gm (m1 (List.mem_of_getElem? (i := 149) rfl)) rfl
set_option maxRecDepth 20000 in
theorem q198 : (Cond.methodLink RL (13 : Nat) yX4_sand) ∈ lw_g := gm (m1 (List.mem_of_getElem? (i := 150) rfl)) rfl
set_option maxRecDepth 20000 in
theorem q199 : (Cond.instanceMethod yX4_sand) ∈ lw_g := gm (m1 (List.mem_of_getElem? (i := 151) rfl)) rfl
set_option maxRecDepth 20000 in
theorem q200 : (Cond.selects RX4 yX4_sand yX4_sand) ∈ lw_g := gm (m1 (List.mem_of_getElem? (i := 152) rfl)) rfl
set_option maxRecDepth 20000 in
theorem q201 : (Cond.code yX4_sand cX4_sand (4 : Nat) (Option.some FieldType.int)) ∈ lw_g := gm (m1 (List.mem_of_getElem? (i := 153) rfl)) rfl
set_option maxRecDepth 20000 in
theorem q202 : (Cond.methodLink RX4 (45 : Nat) yX4_within) ∈ lw_g := gm (m1 (List.mem_of_getElem? (i := 154) rfl)) rfl
set_option maxRecDepth 20000 in
theorem q203 : (Cond.static yX4_within) ∈ lw_g := gm (m1 (List.mem_of_getElem? (i := 155) rfl)) rfl
set_option maxRecDepth 20000 in
theorem q204 : (Cond.code yX4_within cX4_within (3 : Nat) (Option.some FieldType.boolean)) ∈ lw_g := gm (m1 (List.mem_of_getElem? (i := 156) rfl)) rfl
set_option maxRecDepth 20000 in
theorem q205 : (Cond.methodLink RX4 (49 : Nat) yX4_found) ∈ lw_g := gm (m1 (List.mem_of_getElem? (i := 157) rfl)) rfl
set_option maxRecDepth 20000 in
theorem q206 : (Cond.privateMethod yX4_found) ∈ lw_tbl := m1 (List.mem_of_getElem? (i := 158) rfl)
set_option maxRecDepth 20000 in
theorem q207 : (Cond.instanceMethod yX4_found) ∈ lw_g := gm (m1 (List.mem_of_getElem? (i := 159) rfl)) rfl
set_option maxRecDepth 20000 in
theorem q208 : (Cond.code yX4_found cX4_found (2 : Nat) (Option.some FieldType.int)) ∈ lw_g := gm (m1 (List.mem_of_getElem? (i := 160) rfl)) rfl
set_option maxRecDepth 20000 in
theorem q209 : (Cond.constant RX4 (243 : Nat) (-1000001 : Int32)) ∈ lw_g := gm (m1 (List.mem_of_getElem? (i := 161) rfl)) rfl
set_option maxRecDepth 20000 in
theorem q210 : (Cond.methodLink RL (18 : Nat) yX4_cell) ∈ lw_g := gm (m1 (List.mem_of_getElem? (i := 162) rfl)) rfl
set_option maxRecDepth 20000 in
theorem q211 : (Cond.instanceMethod yX4_cell) ∈ lw_g := gm (m1 (List.mem_of_getElem? (i := 163) rfl)) rfl
set_option maxRecDepth 20000 in
theorem q212 : (Cond.selects RX4 yX4_cell yX4_cell) ∈ lw_g := gm (m1 (List.mem_of_getElem? (i := 164) rfl)) rfl
set_option maxRecDepth 20000 in
theorem q213 : (Cond.code yX4_cell cX4_cell (3 : Nat) (Option.some FieldType.int)) ∈ lw_g := gm (m1 (List.mem_of_getElem? (i := 165) rfl)) rfl
set_option maxRecDepth 20000 in
theorem q214 : (Cond.methodLink RX4 (56 : Nat) yX0_visitorsAt) ∈ lw_g := gm (m1 (List.mem_of_getElem? (i := 166) rfl)) rfl
set_option maxRecDepth 20000 in
theorem q215 : (Cond.instanceMethod yX0_visitorsAt) ∈ lw_g := gm (m1 (List.mem_of_getElem? (i := 167) rfl)) rfl
set_option maxRecDepth 20000 in
theorem q216 : (Cond.selects RX0 yX0_visitorsAt yX0_visitorsAt) ∈ lw_g := gm (m1 (List.mem_of_getElem? (i := 168) rfl)) rfl
set_option maxRecDepth 20000 in
theorem q217 : (Cond.code yX0_visitorsAt cX0_visitorsAt (4 : Nat) (Option.some FieldType.int)) ∈ lw_g := gm (m1 (List.mem_of_getElem? (i := 169) rfl)) rfl
set_option maxRecDepth 20000 in
theorem q218 : (Cond.methodLink RX0 (65 : Nat) yX0_leastCell) ∈ lw_g := gm (m1 (List.mem_of_getElem? (i := 170) rfl)) rfl
set_option maxRecDepth 20000 in
theorem q219 : (Cond.instanceMethod yX0_leastCell) ∈ lw_g := gm (m1 (List.mem_of_getElem? (i := 171) rfl)) rfl
set_option maxRecDepth 20000 in
theorem q220 : (Cond.selects RX0 yX0_leastCell yX0_leastCell) ∈ lw_g := gm (m1 (List.mem_of_getElem? (i := 172) rfl)) rfl
set_option maxRecDepth 20000 in
theorem q221 : (Cond.code yX0_leastCell cX0_leastCell (3 : Nat) (Option.some FieldType.int)) ∈ lw_g := gm (m1 (List.mem_of_getElem? (i := 173) rfl)) rfl
set_option maxRecDepth 20000 in
theorem q222 : (Cond.methodLink RX0 (52 : Nat) yJ9_max_7cf53) ∈ lw_g := gm (m1 (List.mem_of_getElem? (i := 174) rfl)) rfl
set_option maxRecDepth 20000 in
theorem q223 : (Cond.static yJ9_max_7cf53) ∈ lw_g := gm (m1 (List.mem_of_getElem? (i := 175) rfl)) rfl
set_option maxRecDepth 20000 in
theorem q224 : (Cond.code yJ9_max_7cf53 cJ9_max_7cf53 (2 : Nat) (Option.some FieldType.int)) ∈ lw_g := gm (m1 (List.mem_of_getElem? (i := 176) rfl)) rfl
set_option maxRecDepth 20000 in
theorem q225 : (Cond.methodLink RX0 (61 : Nat) yX0_greatestCell) ∈ lw_g := gm (m1 (List.mem_of_getElem? (i := 177) rfl)) rfl
set_option maxRecDepth 20000 in
theorem q226 : (Cond.instanceMethod yX0_greatestCell) ∈ lw_g := gm (m1 (List.mem_of_getElem? (i := 178) rfl)) rfl
set_option maxRecDepth 20000 in
theorem q227 : (Cond.selects RX0 yX0_greatestCell yX0_greatestCell) ∈ lw_g := gm (m1 (List.mem_of_getElem? (i := 179) rfl)) rfl
set_option maxRecDepth 20000 in
theorem q228 : (Cond.code yX0_greatestCell cX0_greatestCell (3 : Nat) (Option.some FieldType.int)) ∈ lw_g := gm (m1 (List.mem_of_getElem? (i := 180) rfl)) rfl
set_option maxRecDepth 20000 in
theorem q229 : (Cond.methodLink RX0 (58 : Nat) yJ9_min_7cf53) ∈ lw_g := gm (m1 (List.mem_of_getElem? (i := 181) rfl)) rfl
set_option maxRecDepth 20000 in
theorem q230 : (Cond.static yJ9_min_7cf53) ∈ lw_g := gm (m1 (List.mem_of_getElem? (i := 182) rfl)) rfl
set_option maxRecDepth 20000 in
theorem q231 : (Cond.code yJ9_min_7cf53 cJ9_min_7cf53 (2 : Nat) (Option.some FieldType.int)) ∈ lw_g := gm (m1 (List.mem_of_getElem? (i := 183) rfl)) rfl
set_option maxRecDepth 20000 in
theorem q232 : (Cond.methodLinkNest RX0 (109 : Nat) yX4_within "SandLedger") ∈ lw_tbl := m1 (List.mem_of_getElem? (i := 184) rfl)
set_option maxRecDepth 20000 in
theorem q233 : (Cond.methodLink RL (22 : Nat) yX4_set) ∈ lw_g := gm (m1 (List.mem_of_getElem? (i := 185) rfl)) rfl
set_option maxRecDepth 20000 in
theorem q234 : (Cond.instanceMethod yX4_set) ∈ lw_g := gm (m1 (List.mem_of_getElem? (i := 186) rfl)) rfl
set_option maxRecDepth 20000 in
theorem q235 : (Cond.selects RX4 yX4_set yX4_set) ∈ lw_g := gm (m1 (List.mem_of_getElem? (i := 187) rfl)) rfl
set_option maxRecDepth 20000 in
theorem q236 : (Cond.code yX4_set cX4_set (4 : Nat) (Option.some FieldType.int)) ∈ lw_g := gm (m1 (List.mem_of_getElem? (i := 188) rfl)) rfl
set_option maxRecDepth 20000 in
theorem q237 : (Cond.fieldLink RX4 (59 : Nat) "SandLedger" "SETTING_MOST" "[I") ∈ lw_g := gm (m1 (List.mem_of_getElem? (i := 189) rfl)) rfl
set_option maxRecDepth 20000 in
theorem q238 : (Cond.laysStatic RX4 "SETTING_MOST" "[I") ∈ lw_tbl := m1 (List.mem_of_getElem? (i := 190) rfl)
set_option maxRecDepth 20000 in
theorem q239 : (Cond.methodLink RL (26 : Nat) yX4_visitor) ∈ lw_g := gm (m1 (List.mem_of_getElem? (i := 191) rfl)) rfl
set_option maxRecDepth 20000 in
theorem q240 : (Cond.instanceMethod yX4_visitor) ∈ lw_g := gm (m1 (List.mem_of_getElem? (i := 192) rfl)) rfl
set_option maxRecDepth 20000 in
theorem q241 : (Cond.selects RX4 yX4_visitor yX4_visitor) ∈ lw_g := gm (m1 (List.mem_of_getElem? (i := 193) rfl)) rfl
set_option maxRecDepth 20000 in
theorem q242 : (Cond.code yX4_visitor cX4_visitor (3 : Nat) (Option.some FieldType.int)) ∈ lw_g := gm (m1 (List.mem_of_getElem? (i := 194) rfl)) rfl
set_option maxRecDepth 20000 in
theorem q243 : (Cond.methodLink RX4 (65 : Nat) yX0_isFull) ∈ lw_g := gm (m1 (List.mem_of_getElem? (i := 195) rfl)) rfl
set_option maxRecDepth 20000 in
theorem q244 : (Cond.instanceMethod yX0_isFull) ∈ lw_g := gm (m1 (List.mem_of_getElem? (i := 196) rfl)) rfl
set_option maxRecDepth 20000 in
theorem q245 : (Cond.selects RX0 yX0_isFull yX0_isFull) ∈ lw_g := gm (m1 (List.mem_of_getElem? (i := 197) rfl)) rfl
set_option maxRecDepth 20000 in
theorem q246 : (Cond.code yX0_isFull cX0_isFull (1 : Nat) (Option.some FieldType.boolean)) ∈ lw_g := gm (m1 (List.mem_of_getElem? (i := 198) rfl)) rfl
set_option maxRecDepth 20000 in
theorem q247 : (Cond.methodLink RX4 (69 : Nat) yX0_admit) ∈ lw_g := gm (m1 (List.mem_of_getElem? (i := 199) rfl)) rfl
set_option maxRecDepth 20000 in
theorem q248 : (Cond.instanceMethod yX0_admit) ∈ lw_g := gm (m1 (List.mem_of_getElem? (i := 200) rfl)) rfl
set_option maxRecDepth 20000 in
theorem q249 : (Cond.selects RX0 yX0_admit yX0_admit) ∈ lw_g := gm (m1 (List.mem_of_getElem? (i := 201) rfl)) rfl
set_option maxRecDepth 20000 in
theorem q250 : (Cond.code yX0_admit cX0_admit (4 : Nat) (Option.some FieldType.int)) ∈ lw_g := gm (m1 (List.mem_of_getElem? (i := 202) rfl)) rfl
set_option maxRecDepth 20000 in
theorem q251 : (Cond.methodLink RX0 (45 : Nat) yX0_isFull) ∈ lw_g := gm (m1 (List.mem_of_getElem? (i := 203) rfl)) rfl
set_option maxRecDepth 20000 in
theorem q252 : (Cond.fieldLinkNest RX0 (49 : Nat) "SandLedger" "TRAIT_FIRST" "[I" "SandLedger") ∈ lw_tbl := m1 (List.mem_of_getElem? (i := 204) rfl)
set_option maxRecDepth 20000 in
theorem q253 : (Cond.laysStatic RX4 "TRAIT_FIRST" "[I") ∈ lw_tbl := m1 (List.mem_of_getElem? (i := 205) rfl)
set_option maxRecDepth 20000 in
theorem q254 : (Cond.methodLink RL (30 : Nat) yX4_of) ∈ lw_g := gm (m1 (List.mem_of_getElem? (i := 206) rfl)) rfl
set_option maxRecDepth 20000 in
theorem q255 : (Cond.instanceMethod yX4_of) ∈ lw_g := gm (m1 (List.mem_of_getElem? (i := 207) rfl)) rfl
set_option maxRecDepth 20000 in
theorem q256 : (Cond.selects RX4 yX4_of yX4_of) ∈ lw_g := gm (m1 (List.mem_of_getElem? (i := 208) rfl)) rfl
set_option maxRecDepth 20000 in
theorem q257 : (Cond.code yX4_of cX4_of (3 : Nat) (Option.some FieldType.int)) ∈ lw_g := gm (m1 (List.mem_of_getElem? (i := 209) rfl)) rfl
set_option maxRecDepth 20000 in
theorem q258 : (Cond.methodLink RX4 (73 : Nat) yX4_isVisitor) ∈ lw_g := gm (m1 (List.mem_of_getElem? (i := 210) rfl)) rfl
set_option maxRecDepth 20000 in
theorem q259 : (Cond.privateMethod yX4_isVisitor) ∈ lw_tbl := m1 (List.mem_of_getElem? (i := 211) rfl)
set_option maxRecDepth 20000 in
theorem q260 : (Cond.instanceMethod yX4_isVisitor) ∈ lw_g := gm (m1 (List.mem_of_getElem? (i := 212) rfl)) rfl
set_option maxRecDepth 20000 in
theorem q261 : (Cond.code yX4_isVisitor cX4_isVisitor (2 : Nat) (Option.some FieldType.boolean)) ∈ lw_g := gm (m1 (List.mem_of_getElem? (i := 213) rfl)) rfl
set_option maxRecDepth 20000 in
theorem q262 : (Cond.methodLink RX4 (77 : Nat) yX0_spanOf) ∈ lw_g := gm (m1 (List.mem_of_getElem? (i := 214) rfl)) rfl
set_option maxRecDepth 20000 in
theorem q263 : (Cond.instanceMethod yX0_spanOf) ∈ lw_g := gm (m1 (List.mem_of_getElem? (i := 215) rfl)) rfl
set_option maxRecDepth 20000 in
theorem q264 : (Cond.selects RX0 yX0_spanOf yX0_spanOf) ∈ lw_g := gm (m1 (List.mem_of_getElem? (i := 216) rfl)) rfl
set_option maxRecDepth 20000 in
theorem q265 : (Cond.code yX0_spanOf cX0_spanOf (5 : Nat) (Option.some FieldType.int)) ∈ lw_g := gm (m1 (List.mem_of_getElem? (i := 217) rfl)) rfl
set_option maxRecDepth 20000 in
theorem q266 : (Cond.methodLink RX4 (80 : Nat) yX0_raisesOf) ∈ lw_g := gm (m1 (List.mem_of_getElem? (i := 218) rfl)) rfl
set_option maxRecDepth 20000 in
theorem q267 : (Cond.instanceMethod yX0_raisesOf) ∈ lw_g := gm (m1 (List.mem_of_getElem? (i := 219) rfl)) rfl
set_option maxRecDepth 20000 in
theorem q268 : (Cond.selects RX0 yX0_raisesOf yX0_raisesOf) ∈ lw_g := gm (m1 (List.mem_of_getElem? (i := 220) rfl)) rfl
set_option maxRecDepth 20000 in
theorem q269 : (Cond.code yX0_raisesOf cX0_raisesOf (3 : Nat) (Option.some FieldType.int)) ∈ lw_g := gm (m1 (List.mem_of_getElem? (i := 221) rfl)) rfl
set_option maxRecDepth 20000 in
theorem q270 : (Cond.methodLink RX4 (83 : Nat) yX0_movesOf) ∈ lw_g := gm (m1 (List.mem_of_getElem? (i := 222) rfl)) rfl
set_option maxRecDepth 20000 in
theorem q271 : (Cond.instanceMethod yX0_movesOf) ∈ lw_g := gm (m1 (List.mem_of_getElem? (i := 223) rfl)) rfl
set_option maxRecDepth 20000 in
theorem q272 : (Cond.selects RX0 yX0_movesOf yX0_movesOf) ∈ lw_g := gm (m1 (List.mem_of_getElem? (i := 224) rfl)) rfl
set_option maxRecDepth 20000 in
theorem q273 : (Cond.code yX0_movesOf cX0_movesOf (2 : Nat) (Option.some FieldType.int)) ∈ lw_g := gm (m1 (List.mem_of_getElem? (i := 225) rfl)) rfl
set_option maxRecDepth 20000 in
theorem q274 : (Cond.methodLink RX4 (86 : Nat) yX0_isUp) ∈ lw_g := gm (m1 (List.mem_of_getElem? (i := 226) rfl)) rfl
set_option maxRecDepth 20000 in
theorem q275 : (Cond.instanceMethod yX0_isUp) ∈ lw_g := gm (m1 (List.mem_of_getElem? (i := 227) rfl)) rfl
set_option maxRecDepth 20000 in
theorem q276 : (Cond.selects RX0 yX0_isUp yX0_isUp) ∈ lw_g := gm (m1 (List.mem_of_getElem? (i := 228) rfl)) rfl
set_option maxRecDepth 20000 in
theorem q277 : (Cond.code yX0_isUp cX0_isUp (6 : Nat) (Option.some FieldType.boolean)) ∈ lw_g := gm (m1 (List.mem_of_getElem? (i := 229) rfl)) rfl
set_option maxRecDepth 20000 in
theorem q278 : (Cond.methodLink RX0 (68 : Nat) yX0_raisesOf) ∈ lw_g := gm (m1 (List.mem_of_getElem? (i := 230) rfl)) rfl
set_option maxRecDepth 20000 in
theorem q279 : (Cond.methodLink RX0 (71 : Nat) yX0_isDigger) ∈ lw_g := gm (m1 (List.mem_of_getElem? (i := 231) rfl)) rfl
set_option maxRecDepth 20000 in
theorem q280 : (Cond.instanceMethod yX0_isDigger) ∈ lw_g := gm (m1 (List.mem_of_getElem? (i := 232) rfl)) rfl
set_option maxRecDepth 20000 in
theorem q281 : (Cond.selects RX0 yX0_isDigger yX0_isDigger) ∈ lw_g := gm (m1 (List.mem_of_getElem? (i := 233) rfl)) rfl
set_option maxRecDepth 20000 in
theorem q282 : (Cond.code yX0_isDigger cX0_isDigger (2 : Nat) (Option.some FieldType.boolean)) ∈ lw_g := gm (m1 (List.mem_of_getElem? (i := 234) rfl)) rfl
set_option maxRecDepth 20000 in
theorem q283 : (Cond.methodLink RL (34 : Nat) yX4_change) ∈ lw_g := gm (m1 (List.mem_of_getElem? (i := 235) rfl)) rfl
set_option maxRecDepth 20000 in
theorem q284 : (Cond.instanceMethod yX4_change) ∈ lw_g := gm (m1 (List.mem_of_getElem? (i := 236) rfl)) rfl
set_option maxRecDepth 20000 in
theorem q285 : (Cond.selects RX4 yX4_change yX4_change) ∈ lw_g := gm (m1 (List.mem_of_getElem? (i := 237) rfl)) rfl
set_option maxRecDepth 20000 in
theorem q286 : (Cond.code yX4_change cX4_change (5 : Nat) (Option.some FieldType.int)) ∈ lw_g := gm (m1 (List.mem_of_getElem? (i := 238) rfl)) rfl
set_option maxRecDepth 20000 in
theorem q287 : (Cond.methodLink RX4 (93 : Nat) yX4_isTrait) ∈ lw_g := gm (m1 (List.mem_of_getElem? (i := 239) rfl)) rfl
set_option maxRecDepth 20000 in
theorem q288 : (Cond.static yX4_isTrait) ∈ lw_g := gm (m2 (List.mem_of_getElem? (i := 0) rfl)) rfl
set_option maxRecDepth 20000 in
theorem q289 : (Cond.code yX4_isTrait cX4_isTrait (2 : Nat) (Option.some FieldType.boolean)) ∈ lw_g := gm (m2 (List.mem_of_getElem? (i := 1) rfl)) rfl
set_option maxRecDepth 20000 in
theorem q290 : (Cond.fieldLink RX4 (142 : Nat) "SandLedger" "TRAIT_LEAST" "[I") ∈ lw_g := gm (m2 (List.mem_of_getElem? (i := 2) rfl)) rfl
set_option maxRecDepth 20000 in
theorem q291 : (Cond.laysStatic RX4 "TRAIT_LEAST" "[I") ∈ lw_tbl := m2 (List.mem_of_getElem? (i := 3) rfl)
set_option maxRecDepth 20000 in
theorem q292 : (Cond.fieldLink RX4 (139 : Nat) "SandLedger" "TRAIT_MOST" "[I") ∈ lw_g := gm (m2 (List.mem_of_getElem? (i := 4) rfl)) rfl
set_option maxRecDepth 20000 in
theorem q293 : (Cond.laysStatic RX4 "TRAIT_MOST" "[I") ∈ lw_tbl := m2 (List.mem_of_getElem? (i := 5) rfl)
set_option maxRecDepth 20000 in
theorem q294 : (Cond.methodLink RL (39 : Nat) yX4_come) ∈ lw_g := gm (m2 (List.mem_of_getElem? (i := 6) rfl)) rfl
set_option maxRecDepth 20000 in
theorem q295 : (Cond.instanceMethod yX4_come) ∈ lw_g := gm (m2 (List.mem_of_getElem? (i := 7) rfl)) rfl
set_option maxRecDepth 20000 in
theorem q296 : (Cond.selects RX4 yX4_come yX4_come) ∈ lw_g := gm (m2 (List.mem_of_getElem? (i := 8) rfl)) rfl
set_option maxRecDepth 20000 in
theorem q297 : (Cond.code yX4_come cX4_come (2 : Nat) (Option.some FieldType.int)) ∈ lw_g := gm (m2 (List.mem_of_getElem? (i := 9) rfl)) rfl
set_option maxRecDepth 20000 in
theorem q298 : (Cond.methodLink RX4 (97 : Nat) yX0_receive) ∈ lw_g := gm (m2 (List.mem_of_getElem? (i := 10) rfl)) rfl
set_option maxRecDepth 20000 in
theorem q299 : (Cond.instanceMethod yX0_receive) ∈ lw_g := gm (m2 (List.mem_of_getElem? (i := 11) rfl)) rfl
set_option maxRecDepth 20000 in
theorem q300 : (Cond.selects RX0 yX0_receive yX0_receive) ∈ lw_g := gm (m2 (List.mem_of_getElem? (i := 12) rfl)) rfl
set_option maxRecDepth 20000 in
theorem q301 : (Cond.code yX0_receive cX0_receive (3 : Nat) (Option.some FieldType.int)) ∈ lw_g := gm (m2 (List.mem_of_getElem? (i := 13) rfl)) rfl
set_option maxRecDepth 20000 in
theorem q302 : (Cond.methodLink RX0 (75 : Nat) yX0_dig) ∈ lw_g := gm (m2 (List.mem_of_getElem? (i := 14) rfl)) rfl
set_option maxRecDepth 20000 in
theorem q303 : (Cond.instanceMethod yX0_dig) ∈ lw_g := gm (m2 (List.mem_of_getElem? (i := 15) rfl)) rfl
set_option maxRecDepth 20000 in
theorem q304 : (Cond.selects RX0 yX0_dig yX0_dig) ∈ lw_g := gm (m2 (List.mem_of_getElem? (i := 16) rfl)) rfl
set_option maxRecDepth 20000 in
theorem q305 : (Cond.code yX0_dig cX0_dig (8 : Nat) (Option.some FieldType.int)) ∈ lw_g := gm (m2 (List.mem_of_getElem? (i := 17) rfl)) rfl
set_option maxRecDepth 20000 in
theorem q306 : (Cond.methodLink RX0 (87 : Nat) yX0_movesOf) ∈ lw_g := gm (m2 (List.mem_of_getElem? (i := 18) rfl)) rfl
set_option maxRecDepth 20000 in
theorem q307 : (Cond.fieldLinkNest RX0 (90 : Nat) "SandLedger" "SETTING_MOST" "[I" "SandLedger") ∈ lw_tbl := m2 (List.mem_of_getElem? (i := 19) rfl)
set_option maxRecDepth 20000 in
theorem q308 : (Cond.methodLink RX0 (78 : Nat) yX0_heapUp) ∈ lw_g := gm (m2 (List.mem_of_getElem? (i := 20) rfl)) rfl
set_option maxRecDepth 20000 in
theorem q309 : (Cond.instanceMethod yX0_heapUp) ∈ lw_g := gm (m2 (List.mem_of_getElem? (i := 21) rfl)) rfl
set_option maxRecDepth 20000 in
theorem q310 : (Cond.selects RX0 yX0_heapUp yX0_heapUp) ∈ lw_g := gm (m2 (List.mem_of_getElem? (i := 22) rfl)) rfl
set_option maxRecDepth 20000 in
theorem q311 : (Cond.code yX0_heapUp cX0_heapUp (8 : Nat) (Option.some FieldType.int)) ∈ lw_g := gm (m2 (List.mem_of_getElem? (i := 23) rfl)) rfl
set_option maxRecDepth 20000 in
theorem q312 : (Cond.methodLink RX0 (81 : Nat) yX0_isUp) ∈ lw_g := gm (m2 (List.mem_of_getElem? (i := 24) rfl)) rfl
set_option maxRecDepth 20000 in
theorem q313 : (Cond.fieldLinkNest RX0 (84 : Nat) "SandLedger" "TRAIT_MOST" "[I" "SandLedger") ∈ lw_tbl := m2 (List.mem_of_getElem? (i := 25) rfl)
set_option maxRecDepth 20000 in
theorem q314 : (Cond.methodLink RL (44 : Nat) yX4_go) ∈ lw_g := gm (m2 (List.mem_of_getElem? (i := 26) rfl)) rfl
set_option maxRecDepth 20000 in
theorem q315 : (Cond.instanceMethod yX4_go) ∈ lw_g := gm (m2 (List.mem_of_getElem? (i := 27) rfl)) rfl
set_option maxRecDepth 20000 in
theorem q316 : (Cond.selects RX4 yX4_go yX4_go) ∈ lw_g := gm (m2 (List.mem_of_getElem? (i := 28) rfl)) rfl
set_option maxRecDepth 20000 in
theorem q317 : (Cond.code yX4_go cX4_go (2 : Nat) (Option.some FieldType.int)) ∈ lw_g := gm (m2 (List.mem_of_getElem? (i := 29) rfl)) rfl
set_option maxRecDepth 20000 in
theorem q318 : (Cond.constant RX4 (104 : Nat) (99999 : Int32)) ∈ lw_g := gm (m2 (List.mem_of_getElem? (i := 30) rfl)) rfl
set_option maxRecDepth 20000 in
theorem q319 : (Cond.methodLink RX4 (105 : Nat) yX0_passDays) ∈ lw_g := gm (m2 (List.mem_of_getElem? (i := 31) rfl)) rfl
set_option maxRecDepth 20000 in
theorem q320 : (Cond.instanceMethod yX0_passDays) ∈ lw_g := gm (m2 (List.mem_of_getElem? (i := 32) rfl)) rfl
set_option maxRecDepth 20000 in
theorem q321 : (Cond.selects RX0 yX0_passDays yX0_passDays) ∈ lw_g := gm (m2 (List.mem_of_getElem? (i := 33) rfl)) rfl
set_option maxRecDepth 20000 in
theorem q322 : (Cond.code yX0_passDays cX0_passDays (5 : Nat) (Option.none : Option FieldType)) ∈ lw_g := gm (m2 (List.mem_of_getElem? (i := 34) rfl)) rfl
set_option maxRecDepth 20000 in
theorem q323 : (Cond.methodLink RX0 (93 : Nat) yX0_comesToday) ∈ lw_g := gm (m2 (List.mem_of_getElem? (i := 35) rfl)) rfl
set_option maxRecDepth 20000 in
theorem q324 : (Cond.instanceMethod yX0_comesToday) ∈ lw_g := gm (m2 (List.mem_of_getElem? (i := 36) rfl)) rfl
set_option maxRecDepth 20000 in
theorem q325 : (Cond.selects RX0 yX0_comesToday yX0_comesToday) ∈ lw_g := gm (m2 (List.mem_of_getElem? (i := 37) rfl)) rfl
set_option maxRecDepth 20000 in
theorem q326 : (Cond.code yX0_comesToday cX0_comesToday (3 : Nat) (Option.some FieldType.boolean)) ∈ lw_g := gm (m2 (List.mem_of_getElem? (i := 38) rfl)) rfl
set_option maxRecDepth 20000 in
theorem q327 : (Cond.methodLink RX0 (96 : Nat) yX0_receive) ∈ lw_g := gm (m2 (List.mem_of_getElem? (i := 39) rfl)) rfl
set_option maxRecDepth 20000 in
theorem q328 : (Cond.methodLink RX0 (99 : Nat) yX0_ageByADay) ∈ lw_g := gm (m2 (List.mem_of_getElem? (i := 40) rfl)) rfl
set_option maxRecDepth 20000 in
theorem q329 : (Cond.instanceMethod yX0_ageByADay) ∈ lw_g := gm (m2 (List.mem_of_getElem? (i := 41) rfl)) rfl
set_option maxRecDepth 20000 in
theorem q330 : (Cond.selects RX0 yX0_ageByADay yX0_ageByADay) ∈ lw_g := gm (m2 (List.mem_of_getElem? (i := 42) rfl)) rfl
set_option maxRecDepth 20000 in
theorem q331 : (Cond.code yX0_ageByADay cX0_ageByADay (2 : Nat) (Option.none : Option FieldType)) ∈ lw_g := gm (m2 (List.mem_of_getElem? (i := 43) rfl)) rfl
set_option maxRecDepth 20000 in
theorem q332 : (Cond.methodLink RX0 (102 : Nat) yX0_blow) ∈ lw_g := gm (m2 (List.mem_of_getElem? (i := 44) rfl)) rfl
set_option maxRecDepth 20000 in
theorem q333 : (Cond.instanceMethod yX0_blow) ∈ lw_g := gm (m2 (List.mem_of_getElem? (i := 45) rfl)) rfl
set_option maxRecDepth 20000 in
theorem q334 : (Cond.selects RX0 yX0_blow yX0_blow) ∈ lw_g := gm (m2 (List.mem_of_getElem? (i := 46) rfl)) rfl
set_option maxRecDepth 20000 in
theorem q335 : (Cond.code yX0_blow cX0_blow (3 : Nat) (Option.none : Option FieldType)) ∈ lw_g := gm (m2 (List.mem_of_getElem? (i := 47) rfl)) rfl
set_option maxRecDepth 20000 in
theorem q336 : (Cond.methodLink RX0 (106 : Nat) yX0_slide) ∈ lw_g := gm (m2 (List.mem_of_getElem? (i := 48) rfl)) rfl
set_option maxRecDepth 20000 in
theorem q337 : (Cond.instanceMethod yX0_slide) ∈ lw_g := gm (m2 (List.mem_of_getElem? (i := 49) rfl)) rfl
set_option maxRecDepth 20000 in
theorem q338 : (Cond.selects RX0 yX0_slide yX0_slide) ∈ lw_g := gm (m2 (List.mem_of_getElem? (i := 50) rfl)) rfl
set_option maxRecDepth 20000 in
theorem q339 : (Cond.code yX0_slide cX0_slide (9 : Nat) (Option.some FieldType.int)) ∈ lw_g := gm (m2 (List.mem_of_getElem? (i := 51) rfl)) rfl
set_option maxRecDepth 20000 in
theorem q340 : (Cond.constant RX0 (105 : Nat) (99999 : Int32)) ∈ lw_g := gm (m2 (List.mem_of_getElem? (i := 52) rfl)) rfl
set_option maxRecDepth 20000 in
theorem q341 : (Cond.methodLink RX4 (109 : Nat) yX0_roadLength) ∈ lw_g := gm (m2 (List.mem_of_getElem? (i := 53) rfl)) rfl
set_option maxRecDepth 20000 in
theorem q342 : (Cond.instanceMethod yX0_roadLength) ∈ lw_g := gm (m2 (List.mem_of_getElem? (i := 54) rfl)) rfl
set_option maxRecDepth 20000 in
theorem q343 : (Cond.selects RX0 yX0_roadLength yX0_roadLength) ∈ lw_g := gm (m2 (List.mem_of_getElem? (i := 55) rfl)) rfl
set_option maxRecDepth 20000 in
theorem q344 : (Cond.code yX0_roadLength cX0_roadLength (4 : Nat) (Option.some FieldType.int)) ∈ lw_g := gm (m2 (List.mem_of_getElem? (i := 56) rfl)) rfl
set_option maxRecDepth 20000 in
theorem q345 : (Cond.methodLink RL (48 : Nat) yX4_now) ∈ lw_g := gm (m2 (List.mem_of_getElem? (i := 57) rfl)) rfl
set_option maxRecDepth 20000 in
theorem q346 : (Cond.instanceMethod yX4_now) ∈ lw_g := gm (m2 (List.mem_of_getElem? (i := 58) rfl)) rfl
set_option maxRecDepth 20000 in
theorem q347 : (Cond.selects RX4 yX4_now yX4_now) ∈ lw_g := gm (m2 (List.mem_of_getElem? (i := 59) rfl)) rfl
set_option maxRecDepth 20000 in
theorem q348 : (Cond.code yX4_now cX4_now (2 : Nat) (Option.some FieldType.int)) ∈ lw_g := gm (m2 (List.mem_of_getElem? (i := 60) rfl)) rfl
set_option maxRecDepth 20000 in
theorem q349 : (Cond.methodLink RX4 (113 : Nat) yX0_sandInAll) ∈ lw_g := gm (m2 (List.mem_of_getElem? (i := 61) rfl)) rfl
set_option maxRecDepth 20000 in
theorem q350 : (Cond.instanceMethod yX0_sandInAll) ∈ lw_g := gm (m2 (List.mem_of_getElem? (i := 62) rfl)) rfl
set_option maxRecDepth 20000 in
theorem q351 : (Cond.selects RX0 yX0_sandInAll yX0_sandInAll) ∈ lw_g := gm (m2 (List.mem_of_getElem? (i := 63) rfl)) rfl
set_option maxRecDepth 20000 in
theorem q352 : (Cond.code yX0_sandInAll cX0_sandInAll (3 : Nat) (Option.some FieldType.int)) ∈ lw_g := gm (m2 (List.mem_of_getElem? (i := 64) rfl)) rfl
set_option maxRecDepth 20000 in
theorem q353 : (Cond.methodLink RX4 (116 : Nat) yX0_standing) ∈ lw_g := gm (m2 (List.mem_of_getElem? (i := 65) rfl)) rfl
set_option maxRecDepth 20000 in
theorem q354 : (Cond.instanceMethod yX0_standing) ∈ lw_g := gm (m2 (List.mem_of_getElem? (i := 66) rfl)) rfl
set_option maxRecDepth 20000 in
theorem q355 : (Cond.selects RX0 yX0_standing yX0_standing) ∈ lw_g := gm (m2 (List.mem_of_getElem? (i := 67) rfl)) rfl
set_option maxRecDepth 20000 in
theorem q356 : (Cond.code yX0_standing cX0_standing (3 : Nat) (Option.some FieldType.int)) ∈ lw_g := gm (m2 (List.mem_of_getElem? (i := 68) rfl)) rfl
set_option maxRecDepth 20000 in
theorem q357 : (Cond.methodLink RX4 (119 : Nat) yX0_highestCell) ∈ lw_g := gm (m2 (List.mem_of_getElem? (i := 69) rfl)) rfl
set_option maxRecDepth 20000 in
theorem q358 : (Cond.instanceMethod yX0_highestCell) ∈ lw_g := gm (m2 (List.mem_of_getElem? (i := 70) rfl)) rfl
set_option maxRecDepth 20000 in
theorem q359 : (Cond.selects RX0 yX0_highestCell yX0_highestCell) ∈ lw_g := gm (m2 (List.mem_of_getElem? (i := 71) rfl)) rfl
set_option maxRecDepth 20000 in
theorem q360 : (Cond.code yX0_highestCell cX0_highestCell (3 : Nat) (Option.some FieldType.int)) ∈ lw_g := gm (m2 (List.mem_of_getElem? (i := 72) rfl)) rfl
set_option maxRecDepth 20000 in
theorem q361 : (Cond.methodLink RX4 (122 : Nat) yX0_builtInAll) ∈ lw_g := gm (m2 (List.mem_of_getElem? (i := 73) rfl)) rfl
set_option maxRecDepth 20000 in
theorem q362 : (Cond.instanceMethod yX0_builtInAll) ∈ lw_g := gm (m2 (List.mem_of_getElem? (i := 74) rfl)) rfl
set_option maxRecDepth 20000 in
theorem q363 : (Cond.selects RX0 yX0_builtInAll yX0_builtInAll) ∈ lw_g := gm (m2 (List.mem_of_getElem? (i := 75) rfl)) rfl
set_option maxRecDepth 20000 in
theorem q364 : (Cond.code yX0_builtInAll cX0_builtInAll (3 : Nat) (Option.some FieldType.int)) ∈ lw_g := gm (m2 (List.mem_of_getElem? (i := 76) rfl)) rfl
set_option maxRecDepth 20000 in
theorem q365 : (Cond.methodLink RX4 (125 : Nat) yX0_comingToday) ∈ lw_g := gm (m2 (List.mem_of_getElem? (i := 77) rfl)) rfl
set_option maxRecDepth 20000 in
theorem q366 : (Cond.instanceMethod yX0_comingToday) ∈ lw_g := gm (m2 (List.mem_of_getElem? (i := 78) rfl)) rfl
set_option maxRecDepth 20000 in
theorem q367 : (Cond.selects RX0 yX0_comingToday yX0_comingToday) ∈ lw_g := gm (m2 (List.mem_of_getElem? (i := 79) rfl)) rfl
set_option maxRecDepth 20000 in
theorem q368 : (Cond.code yX0_comingToday cX0_comingToday (3 : Nat) (Option.some FieldType.int)) ∈ lw_g := gm (m2 (List.mem_of_getElem? (i := 80) rfl)) rfl
set_option maxRecDepth 20000 in
theorem q369 : (Cond.methodLink RL (52 : Nat) yX4_high) ∈ lw_g := gm (m2 (List.mem_of_getElem? (i := 81) rfl)) rfl
set_option maxRecDepth 20000 in
theorem q370 : (Cond.instanceMethod yX4_high) ∈ lw_g := gm (m2 (List.mem_of_getElem? (i := 82) rfl)) rfl
set_option maxRecDepth 20000 in
theorem q371 : (Cond.selects RX4 yX4_high yX4_high) ∈ lw_g := gm (m2 (List.mem_of_getElem? (i := 83) rfl)) rfl
set_option maxRecDepth 20000 in
theorem q372 : (Cond.code yX4_high cX4_high (3 : Nat) (Option.some FieldType.int)) ∈ lw_g := gm (m2 (List.mem_of_getElem? (i := 84) rfl)) rfl
set_option maxRecDepth 20000 in
theorem q373 : (Cond.methodLink RX4 (128 : Nat) yX0_become) ∈ lw_g := gm (m2 (List.mem_of_getElem? (i := 85) rfl)) rfl
set_option maxRecDepth 20000 in
theorem q374 : (Cond.instanceMethod yX0_become) ∈ lw_g := gm (m2 (List.mem_of_getElem? (i := 86) rfl)) rfl
set_option maxRecDepth 20000 in
theorem q375 : (Cond.selects RX0 yX0_become yX0_become) ∈ lw_g := gm (m2 (List.mem_of_getElem? (i := 87) rfl)) rfl
set_option maxRecDepth 20000 in
theorem q376 : (Cond.code yX0_become cX0_become (3 : Nat) (Option.none : Option FieldType)) ∈ lw_g := gm (m2 (List.mem_of_getElem? (i := 88) rfl)) rfl
set_option maxRecDepth 20000 in
theorem q377 : (Cond.methodLink RX0 (33 : Nat) arraycopyName) ∈ lw_g := gm (m2 (List.mem_of_getElem? (i := 89) rfl)) rfl
set_option maxRecDepth 20000 in
theorem q378 : (Cond.static arraycopyName) ∈ lw_g := gm (m2 (List.mem_of_getElem? (i := 90) rfl)) rfl
set_option maxRecDepth 20000 in
theorem q379 : (Cond.native arraycopyName) ∈ lw_g := gm (m2 (List.mem_of_getElem? (i := 91) rfl)) rfl
set_option maxRecDepth 20000 in
theorem q380 : (Cond.methodLink RL (56 : Nat) yX4_built) ∈ lw_g := gm (m2 (List.mem_of_getElem? (i := 92) rfl)) rfl
set_option maxRecDepth 20000 in
theorem q381 : (Cond.instanceMethod yX4_built) ∈ lw_g := gm (m2 (List.mem_of_getElem? (i := 93) rfl)) rfl
set_option maxRecDepth 20000 in
theorem q382 : (Cond.selects RX4 yX4_built yX4_built) ∈ lw_g := gm (m2 (List.mem_of_getElem? (i := 94) rfl)) rfl
set_option maxRecDepth 20000 in
theorem q383 : (Cond.code yX4_built cX4_built (3 : Nat) (Option.some FieldType.int)) ∈ lw_g := gm (m2 (List.mem_of_getElem? (i := 95) rfl)) rfl
set_option maxRecDepth 20000 in
theorem q384 : (Cond.methodLink RL (60 : Nat) yX4_stands) ∈ lw_g := gm (m2 (List.mem_of_getElem? (i := 96) rfl)) rfl
set_option maxRecDepth 20000 in
theorem q385 : (Cond.instanceMethod yX4_stands) ∈ lw_g := gm (m2 (List.mem_of_getElem? (i := 97) rfl)) rfl
set_option maxRecDepth 20000 in
theorem q386 : (Cond.selects RX4 yX4_stands yX4_stands) ∈ lw_g := gm (m2 (List.mem_of_getElem? (i := 98) rfl)) rfl
set_option maxRecDepth 20000 in
theorem q387 : (Cond.code yX4_stands cX4_stands (2 : Nat) (Option.some FieldType.int)) ∈ lw_g := gm (m2 (List.mem_of_getElem? (i := 99) rfl)) rfl
set_option maxRecDepth 20000 in
theorem q388 : (Cond.methodLink RX4 (132 : Nat) yX4_waitFor) ∈ lw_g := gm (m2 (List.mem_of_getElem? (i := 100) rfl)) rfl
set_option maxRecDepth 20000 in
theorem q389 : (Cond.privateMethod yX4_waitFor) ∈ lw_tbl := m2 (List.mem_of_getElem? (i := 101) rfl)
set_option maxRecDepth 20000 in
theorem q390 : (Cond.instanceMethod yX4_waitFor) ∈ lw_g := gm (m2 (List.mem_of_getElem? (i := 102) rfl)) rfl
set_option maxRecDepth 20000 in
theorem q391 : (Cond.code yX4_waitFor cX4_waitFor (4 : Nat) (Option.some FieldType.int)) ∈ lw_g := gm (m2 (List.mem_of_getElem? (i := 103) rfl)) rfl
set_option maxRecDepth 20000 in
theorem q392 : (Cond.methodLink RX4 (244 : Nat) yX4_isGranted) ∈ lw_g := gm (m2 (List.mem_of_getElem? (i := 104) rfl)) rfl
set_option maxRecDepth 20000 in
theorem q393 : (Cond.privateMethod yX4_isGranted) ∈ lw_tbl := m2 (List.mem_of_getElem? (i := 105) rfl)
set_option maxRecDepth 20000 in
theorem q394 : (Cond.instanceMethod yX4_isGranted) ∈ lw_g := gm (m2 (List.mem_of_getElem? (i := 106) rfl)) rfl
set_option maxRecDepth 20000 in
theorem q395 : (Cond.code yX4_isGranted cX4_isGranted (3 : Nat) (Option.some FieldType.boolean)) ∈ lw_g := gm (m2 (List.mem_of_getElem? (i := 107) rfl)) rfl
set_option maxRecDepth 20000 in
theorem q396 : (Cond.methodLink RL (64 : Nat) yX4_road) ∈ lw_g := gm (m2 (List.mem_of_getElem? (i := 108) rfl)) rfl
set_option maxRecDepth 20000 in
theorem q397 : (Cond.instanceMethod yX4_road) ∈ lw_g := gm (m2 (List.mem_of_getElem? (i := 109) rfl)) rfl
set_option maxRecDepth 20000 in
theorem q398 : (Cond.selects RX4 yX4_road yX4_road) ∈ lw_g := gm (m2 (List.mem_of_getElem? (i := 110) rfl)) rfl
set_option maxRecDepth 20000 in
theorem q399 : (Cond.code yX4_road cX4_road (2 : Nat) (Option.some FieldType.int)) ∈ lw_g := gm (m2 (List.mem_of_getElem? (i := 111) rfl)) rfl
set_option maxRecDepth 20000 in
theorem q400 : (Cond.methodLink RL (68 : Nat) yX4_both) ∈ lw_g := gm (m2 (List.mem_of_getElem? (i := 112) rfl)) rfl
set_option maxRecDepth 20000 in
theorem q401 : (Cond.instanceMethod yX4_both) ∈ lw_g := gm (m2 (List.mem_of_getElem? (i := 113) rfl)) rfl
set_option maxRecDepth 20000 in
theorem q402 : (Cond.selects RX4 yX4_both yX4_both) ∈ lw_g := gm (m2 (List.mem_of_getElem? (i := 114) rfl)) rfl
set_option maxRecDepth 20000 in
theorem q403 : (Cond.code yX4_both cX4_both (3 : Nat) (Option.some FieldType.int)) ∈ lw_g := gm (m2 (List.mem_of_getElem? (i := 115) rfl)) rfl
set_option maxRecDepth 20000 in
theorem q404 : (Cond.methodLink RL (72 : Nat) yX4_empty) ∈ lw_g := gm (m2 (List.mem_of_getElem? (i := 116) rfl)) rfl
set_option maxRecDepth 20000 in
theorem q405 : (Cond.instanceMethod yX4_empty) ∈ lw_g := gm (m2 (List.mem_of_getElem? (i := 117) rfl)) rfl
set_option maxRecDepth 20000 in
theorem q406 : (Cond.selects RX4 yX4_empty yX4_empty) ∈ lw_g := gm (m2 (List.mem_of_getElem? (i := 118) rfl)) rfl
set_option maxRecDepth 20000 in
theorem q407 : (Cond.code yX4_empty cX4_empty (1 : Nat) (Option.some FieldType.int)) ∈ lw_g := gm (m2 (List.mem_of_getElem? (i := 119) rfl)) rfl
set_option maxRecDepth 20000 in
theorem q408 : (Cond.methodLink RL (77 : Nat) yX4_fromFor) ∈ lw_g := gm (m2 (List.mem_of_getElem? (i := 120) rfl)) rfl
set_option maxRecDepth 20000 in
theorem q409 : (Cond.instanceMethod yX4_fromFor) ∈ lw_g := gm (m2 (List.mem_of_getElem? (i := 121) rfl)) rfl
set_option maxRecDepth 20000 in
theorem q410 : (Cond.selects RX4 yX4_fromFor yX4_fromFor) ∈ lw_g := gm (m2 (List.mem_of_getElem? (i := 122) rfl)) rfl
set_option maxRecDepth 20000 in
theorem q411 : (Cond.code yX4_fromFor cX4_fromFor (3 : Nat) (Option.some FieldType.int)) ∈ lw_g := gm (m2 (List.mem_of_getElem? (i := 123) rfl)) rfl
set_option maxRecDepth 20000 in
theorem q412 : (Cond.methodLink RX4 (135 : Nat) yX4_forLongestRoad) ∈ lw_g := gm (m2 (List.mem_of_getElem? (i := 124) rfl)) rfl
set_option maxRecDepth 20000 in
theorem q413 : (Cond.privateMethod yX4_forLongestRoad) ∈ lw_tbl := m2 (List.mem_of_getElem? (i := 125) rfl)
set_option maxRecDepth 20000 in
theorem q414 : (Cond.instanceMethod yX4_forLongestRoad) ∈ lw_g := gm (m2 (List.mem_of_getElem? (i := 126) rfl)) rfl
set_option maxRecDepth 20000 in
theorem q415 : (Cond.code yX4_forLongestRoad cX4_forLongestRoad (8 : Nat) (Option.some FieldType.int)) ∈ lw_g := gm (m2 (List.mem_of_getElem? (i := 127) rfl)) rfl
set_option maxRecDepth 20000 in
theorem q416 : (Cond.methodLink RX4 (145 : Nat) yX4_tryTrait) ∈ lw_g := gm (m2 (List.mem_of_getElem? (i := 128) rfl)) rfl
set_option maxRecDepth 20000 in
theorem q417 : (Cond.privateMethod yX4_tryTrait) ∈ lw_tbl := m2 (List.mem_of_getElem? (i := 129) rfl)
set_option maxRecDepth 20000 in
theorem q418 : (Cond.instanceMethod yX4_tryTrait) ∈ lw_g := gm (m2 (List.mem_of_getElem? (i := 130) rfl)) rfl
set_option maxRecDepth 20000 in
theorem q419 : (Cond.code yX4_tryTrait cX4_tryTrait (5 : Nat) (Option.none : Option FieldType)) ∈ lw_g := gm (m2 (List.mem_of_getElem? (i := 131) rfl)) rfl
set_option maxRecDepth 20000 in
theorem q420 : (Cond.methodLink RL (81 : Nat) yX4_wideFor) ∈ lw_g := gm (m2 (List.mem_of_getElem? (i := 132) rfl)) rfl
set_option maxRecDepth 20000 in
theorem q421 : (Cond.instanceMethod yX4_wideFor) ∈ lw_g := gm (m2 (List.mem_of_getElem? (i := 133) rfl)) rfl
set_option maxRecDepth 20000 in
theorem q422 : (Cond.selects RX4 yX4_wideFor yX4_wideFor) ∈ lw_g := gm (m2 (List.mem_of_getElem? (i := 134) rfl)) rfl
set_option maxRecDepth 20000 in
theorem q423 : (Cond.code yX4_wideFor cX4_wideFor (5 : Nat) (Option.some FieldType.int)) ∈ lw_g := gm (m2 (List.mem_of_getElem? (i := 135) rfl)) rfl
set_option maxRecDepth 20000 in
theorem q424 : (Cond.methodLink RL (85 : Nat) yX4_eachFor) ∈ lw_g := gm (m2 (List.mem_of_getElem? (i := 136) rfl)) rfl
set_option maxRecDepth 20000 in
theorem q425 : (Cond.instanceMethod yX4_eachFor) ∈ lw_g := gm (m2 (List.mem_of_getElem? (i := 137) rfl)) rfl
set_option maxRecDepth 20000 in
theorem q426 : (Cond.selects RX4 yX4_eachFor yX4_eachFor) ∈ lw_g := gm (m2 (List.mem_of_getElem? (i := 138) rfl)) rfl
set_option maxRecDepth 20000 in
theorem q427 : (Cond.code yX4_eachFor cX4_eachFor (4 : Nat) (Option.some FieldType.int)) ∈ lw_g := gm (m2 (List.mem_of_getElem? (i := 139) rfl)) rfl
set_option maxRecDepth 20000 in
theorem q428 : (Cond.methodLink RL (89 : Nat) yX4_kindFor) ∈ lw_g := gm (m2 (List.mem_of_getElem? (i := 140) rfl)) rfl
set_option maxRecDepth 20000 in
theorem q429 : (Cond.instanceMethod yX4_kindFor) ∈ lw_g := gm (m2 (List.mem_of_getElem? (i := 141) rfl)) rfl
set_option maxRecDepth 20000 in
theorem q430 : (Cond.selects RX4 yX4_kindFor yX4_kindFor) ∈ lw_g := gm (m2 (List.mem_of_getElem? (i := 142) rfl)) rfl
set_option maxRecDepth 20000 in
theorem q431 : (Cond.code yX4_kindFor cX4_kindFor (3 : Nat) (Option.some FieldType.int)) ∈ lw_g := gm (m2 (List.mem_of_getElem? (i := 143) rfl)) rfl
set_option maxRecDepth 20000 in
theorem q432 : (Cond.methodLink RL (93 : Nat) yX4_windFor) ∈ lw_g := gm (m2 (List.mem_of_getElem? (i := 144) rfl)) rfl
set_option maxRecDepth 20000 in
theorem q433 : (Cond.instanceMethod yX4_windFor) ∈ lw_g := gm (m2 (List.mem_of_getElem? (i := 145) rfl)) rfl
set_option maxRecDepth 20000 in
theorem q434 : (Cond.selects RX4 yX4_windFor yX4_windFor) ∈ lw_g := gm (m2 (List.mem_of_getElem? (i := 146) rfl)) rfl
set_option maxRecDepth 20000 in
theorem q435 : (Cond.code yX4_windFor cX4_windFor (4 : Nat) (Option.some FieldType.int)) ∈ lw_g := gm (m2 (List.mem_of_getElem? (i := 147) rfl)) rfl
set_option maxRecDepth 20000 in
theorem q436 : (Cond.methodLink RL (97 : Nat) yX4_away) ∈ lw_g := gm (m2 (List.mem_of_getElem? (i := 148) rfl)) rfl
set_option maxRecDepth 20000 in
theorem q437 : (Cond.instanceMethod yX4_away) ∈ lw_g := gm (m2 (List.mem_of_getElem? (i := 149) rfl)) rfl
set_option maxRecDepth 20000 in
theorem q438 : (Cond.selects RX4 yX4_away yX4_away) ∈ lw_g := gm (m2 (List.mem_of_getElem? (i := 150) rfl)) rfl
set_option maxRecDepth 20000 in
theorem q439 : (Cond.code yX4_away cX4_away (5 : Nat) (Option.some FieldType.int)) ∈ lw_g := gm (m2 (List.mem_of_getElem? (i := 151) rfl)) rfl
set_option maxRecDepth 20000 in
theorem q440 : (Cond.methodLink RX4 (152 : Nat) yJ6_bitCount_0f7a4) ∈ lw_g := gm (m2 (List.mem_of_getElem? (i := 152) rfl)) rfl
set_option maxRecDepth 20000 in
theorem q441 : (Cond.static yJ6_bitCount_0f7a4) ∈ lw_g := gm (m2 (List.mem_of_getElem? (i := 153) rfl)) rfl
set_option maxRecDepth 20000 in
theorem q442 : (Cond.code yJ6_bitCount_0f7a4 cJ6_bitCount_0f7a4 (1 : Nat) (Option.some FieldType.int)) ∈ lw_g := gm (m2 (List.mem_of_getElem? (i := 154) rfl)) rfl
set_option maxRecDepth 20000 in
theorem q443 : (Cond.constant RJ6 (265 : Nat) (1431655765 : Int32)) ∈ lw_g := gm (m2 (List.mem_of_getElem? (i := 155) rfl)) rfl
set_option maxRecDepth 20000 in
theorem q444 : (Cond.constant RJ6 (266 : Nat) (858993459 : Int32)) ∈ lw_g := gm (m2 (List.mem_of_getElem? (i := 156) rfl)) rfl
set_option maxRecDepth 20000 in
theorem q445 : (Cond.constant RJ6 (267 : Nat) (252645135 : Int32)) ∈ lw_g := gm (m2 (List.mem_of_getElem? (i := 157) rfl)) rfl
set_option maxRecDepth 20000 in
theorem q446 : (Cond.methodLink RX4 (157 : Nat) yX4_isUpWithout) ∈ lw_g := gm (m2 (List.mem_of_getElem? (i := 158) rfl)) rfl
set_option maxRecDepth 20000 in
theorem q447 : (Cond.privateMethod yX4_isUpWithout) ∈ lw_tbl := m2 (List.mem_of_getElem? (i := 159) rfl)
set_option maxRecDepth 20000 in
theorem q448 : (Cond.instanceMethod yX4_isUpWithout) ∈ lw_g := gm (m2 (List.mem_of_getElem? (i := 160) rfl)) rfl
set_option maxRecDepth 20000 in
theorem q449 : (Cond.code yX4_isUpWithout cX4_isUpWithout (4 : Nat) (Option.some FieldType.boolean)) ∈ lw_g := gm (m2 (List.mem_of_getElem? (i := 161) rfl)) rfl
set_option maxRecDepth 20000 in
theorem q450 : (Cond.methodLink RL (101 : Nat) yX4_fits) ∈ lw_g := gm (m2 (List.mem_of_getElem? (i := 162) rfl)) rfl
set_option maxRecDepth 20000 in
theorem q451 : (Cond.instanceMethod yX4_fits) ∈ lw_g := gm (m2 (List.mem_of_getElem? (i := 163) rfl)) rfl
set_option maxRecDepth 20000 in
theorem q452 : (Cond.selects RX4 yX4_fits yX4_fits) ∈ lw_g := gm (m2 (List.mem_of_getElem? (i := 164) rfl)) rfl
set_option maxRecDepth 20000 in
theorem q453 : (Cond.code yX4_fits cX4_fits (4 : Nat) (Option.some FieldType.int)) ∈ lw_g := gm (m2 (List.mem_of_getElem? (i := 165) rfl)) rfl
set_option maxRecDepth 20000 in
theorem q454 : (Cond.methodLink RX4 (160 : Nat) yX4_toldBy) ∈ lw_g := gm (m2 (List.mem_of_getElem? (i := 166) rfl)) rfl
set_option maxRecDepth 20000 in
theorem q455 : (Cond.privateMethod yX4_toldBy) ∈ lw_tbl := m2 (List.mem_of_getElem? (i := 167) rfl)
set_option maxRecDepth 20000 in
theorem q456 : (Cond.instanceMethod yX4_toldBy) ∈ lw_g := gm (m2 (List.mem_of_getElem? (i := 168) rfl)) rfl
set_option maxRecDepth 20000 in
theorem q457 : (Cond.code yX4_toldBy cX4_toldBy (8 : Nat) (Option.some FieldType.int)) ∈ lw_g := gm (m2 (List.mem_of_getElem? (i := 169) rfl)) rfl
set_option maxRecDepth 20000 in
theorem q458 : (Cond.methodLink RX4 (195 : Nat) yX4_isSheet) ∈ lw_g := gm (m2 (List.mem_of_getElem? (i := 170) rfl)) rfl
set_option maxRecDepth 20000 in
theorem q459 : (Cond.static yX4_isSheet) ∈ lw_g := gm (m2 (List.mem_of_getElem? (i := 171) rfl)) rfl
set_option maxRecDepth 20000 in
theorem q460 : (Cond.code yX4_isSheet cX4_isSheet (1 : Nat) (Option.some FieldType.boolean)) ∈ lw_g := gm (m2 (List.mem_of_getElem? (i := 172) rfl)) rfl
set_option maxRecDepth 20000 in
theorem q461 : (Cond.methodLink RX4 (204 : Nat) yX1_isMissing) ∈ lw_g := gm (m2 (List.mem_of_getElem? (i := 173) rfl)) rfl
set_option maxRecDepth 20000 in
theorem q462 : (Cond.instanceMethod yX1_isMissing) ∈ lw_g := gm (m2 (List.mem_of_getElem? (i := 174) rfl)) rfl
set_option maxRecDepth 20000 in
theorem q463 : (Cond.selects RX1 yX1_isMissing yX1_isMissing) ∈ lw_g := gm (m2 (List.mem_of_getElem? (i := 175) rfl)) rfl
set_option maxRecDepth 20000 in
theorem q464 : (Cond.code yX1_isMissing cX1_isMissing (1 : Nat) (Option.some FieldType.boolean)) ∈ lw_g := gm (m2 (List.mem_of_getElem? (i := 176) rfl)) rfl
set_option maxRecDepth 20000 in
theorem q465 : (Cond.methodLink RX4 (247 : Nat) yX1_tells) ∈ lw_g := gm (m2 (List.mem_of_getElem? (i := 177) rfl)) rfl
set_option maxRecDepth 20000 in
theorem q466 : (Cond.instanceMethod yX1_tells) ∈ lw_g := gm (m2 (List.mem_of_getElem? (i := 178) rfl)) rfl
set_option maxRecDepth 20000 in
theorem q467 : (Cond.selects RX1 yX1_tells yX1_tells) ∈ lw_g := gm (m2 (List.mem_of_getElem? (i := 179) rfl)) rfl
set_option maxRecDepth 20000 in
theorem q468 : (Cond.code yX1_tells cX1_tells (4 : Nat) (Option.some FieldType.boolean)) ∈ lw_g := gm (m2 (List.mem_of_getElem? (i := 180) rfl)) rfl
set_option maxRecDepth 20000 in
theorem q469 : (Cond.methodLink RX1 (22 : Nat) yJ9_min_7cf53) ∈ lw_g := gm (m2 (List.mem_of_getElem? (i := 181) rfl)) rfl
set_option maxRecDepth 20000 in
theorem q470 : (Cond.methodLink RL (105 : Nat) yX4_kinds) ∈ lw_g := gm (m2 (List.mem_of_getElem? (i := 182) rfl)) rfl
set_option maxRecDepth 20000 in
theorem q471 : (Cond.instanceMethod yX4_kinds) ∈ lw_g := gm (m2 (List.mem_of_getElem? (i := 183) rfl)) rfl
set_option maxRecDepth 20000 in
theorem q472 : (Cond.selects RX4 yX4_kinds yX4_kinds) ∈ lw_g := gm (m2 (List.mem_of_getElem? (i := 184) rfl)) rfl
set_option maxRecDepth 20000 in
theorem q473 : (Cond.code yX4_kinds cX4_kinds (4 : Nat) (Option.some FieldType.int)) ∈ lw_g := gm (m2 (List.mem_of_getElem? (i := 185) rfl)) rfl
set_option maxRecDepth 20000 in
theorem q474 : (Cond.methodLink RL (109 : Nat) yX4_comings) ∈ lw_g := gm (m2 (List.mem_of_getElem? (i := 186) rfl)) rfl
set_option maxRecDepth 20000 in
theorem q475 : (Cond.instanceMethod yX4_comings) ∈ lw_g := gm (m2 (List.mem_of_getElem? (i := 187) rfl)) rfl
set_option maxRecDepth 20000 in
theorem q476 : (Cond.selects RX4 yX4_comings yX4_comings) ∈ lw_g := gm (m2 (List.mem_of_getElem? (i := 188) rfl)) rfl
set_option maxRecDepth 20000 in
theorem q477 : (Cond.code yX4_comings cX4_comings (5 : Nat) (Option.some FieldType.int)) ∈ lw_g := gm (m2 (List.mem_of_getElem? (i := 189) rfl)) rfl
set_option maxRecDepth 20000 in
theorem q478 : (Cond.methodLink RX4 (164 : Nat) yX0_draw) ∈ lw_g := gm (m2 (List.mem_of_getElem? (i := 190) rfl)) rfl
set_option maxRecDepth 20000 in
theorem q479 : (Cond.instanceMethod yX0_draw) ∈ lw_g := gm (m2 (List.mem_of_getElem? (i := 191) rfl)) rfl
set_option maxRecDepth 20000 in
theorem q480 : (Cond.selects RX0 yX0_draw yX0_draw) ∈ lw_g := gm (m2 (List.mem_of_getElem? (i := 192) rfl)) rfl
set_option maxRecDepth 20000 in
theorem q481 : (Cond.code yX0_draw cX0_draw (1 : Nat) (Option.some FieldType.int)) ∈ lw_g := gm (m2 (List.mem_of_getElem? (i := 193) rfl)) rfl
set_option maxRecDepth 20000 in
theorem q482 : (Cond.constant RX0 (113 : Nat) (1103515245 : Int32)) ∈ lw_g := gm (m2 (List.mem_of_getElem? (i := 194) rfl)) rfl
set_option maxRecDepth 20000 in
theorem q483 : (Cond.methodLink RL (113 : Nat) yX4_odds) ∈ lw_g := gm (m2 (List.mem_of_getElem? (i := 195) rfl)) rfl
set_option maxRecDepth 20000 in
theorem q484 : (Cond.instanceMethod yX4_odds) ∈ lw_g := gm (m2 (List.mem_of_getElem? (i := 196) rfl)) rfl
set_option maxRecDepth 20000 in
theorem q485 : (Cond.selects RX4 yX4_odds yX4_odds) ∈ lw_g := gm (m2 (List.mem_of_getElem? (i := 197) rfl)) rfl
set_option maxRecDepth 20000 in
theorem q486 : (Cond.code yX4_odds cX4_odds (6 : Nat) (Option.some FieldType.long)) ∈ lw_g := gm (m2 (List.mem_of_getElem? (i := 198) rfl)) rfl
set_option maxRecDepth 20000 in
theorem q487 : (Cond.methodLink RX4 (167 : Nat) yX0_roadCells) ∈ lw_g := gm (m2 (List.mem_of_getElem? (i := 199) rfl)) rfl
set_option maxRecDepth 20000 in
theorem q488 : (Cond.instanceMethod yX0_roadCells) ∈ lw_g := gm (m2 (List.mem_of_getElem? (i := 200) rfl)) rfl
set_option maxRecDepth 20000 in
theorem q489 : (Cond.selects RX0 yX0_roadCells yX0_roadCells) ∈ lw_g := gm (m2 (List.mem_of_getElem? (i := 201) rfl)) rfl
set_option maxRecDepth 20000 in
theorem q490 : (Cond.code yX0_roadCells cX0_roadCells (3 : Nat) (Option.some FieldType.int)) ∈ lw_g := gm (m2 (List.mem_of_getElem? (i := 202) rfl)) rfl
set_option maxRecDepth 20000 in
theorem q491 : (Cond.methodLink RX4 (170 : Nat) yX4_power) ∈ lw_g := gm (m2 (List.mem_of_getElem? (i := 203) rfl)) rfl
set_option maxRecDepth 20000 in
theorem q492 : (Cond.static yX4_power) ∈ lw_g := gm (m2 (List.mem_of_getElem? (i := 204) rfl)) rfl
set_option maxRecDepth 20000 in
theorem q493 : (Cond.code yX4_power cX4_power (5 : Nat) (Option.some FieldType.long)) ∈ lw_g := gm (m2 (List.mem_of_getElem? (i := 205) rfl)) rfl
set_option maxRecDepth 20000 in
theorem q494 : (Cond.methodLink RL (118 : Nat) yX4_seed) ∈ lw_g := gm (m2 (List.mem_of_getElem? (i := 206) rfl)) rfl
set_option maxRecDepth 20000 in
theorem q495 : (Cond.instanceMethod yX4_seed) ∈ lw_g := gm (m2 (List.mem_of_getElem? (i := 207) rfl)) rfl
set_option maxRecDepth 20000 in
theorem q496 : (Cond.selects RX4 yX4_seed yX4_seed) ∈ lw_g := gm (m2 (List.mem_of_getElem? (i := 208) rfl)) rfl
set_option maxRecDepth 20000 in
theorem q497 : (Cond.code yX4_seed cX4_seed (3 : Nat) (Option.some FieldType.int)) ∈ lw_g := gm (m2 (List.mem_of_getElem? (i := 209) rfl)) rfl
set_option maxRecDepth 20000 in
theorem q498 : (Cond.methodLink RL (122 : Nat) yX4_feed) ∈ lw_g := gm (m2 (List.mem_of_getElem? (i := 210) rfl)) rfl
set_option maxRecDepth 20000 in
theorem q499 : (Cond.instanceMethod yX4_feed) ∈ lw_g := gm (m2 (List.mem_of_getElem? (i := 211) rfl)) rfl
set_option maxRecDepth 20000 in
theorem q500 : (Cond.selects RX4 yX4_feed yX4_feed) ∈ lw_g := gm (m2 (List.mem_of_getElem? (i := 212) rfl)) rfl
set_option maxRecDepth 20000 in
theorem q501 : (Cond.code yX4_feed cX4_feed (3 : Nat) (Option.some FieldType.int)) ∈ lw_g := gm (m2 (List.mem_of_getElem? (i := 213) rfl)) rfl
set_option maxRecDepth 20000 in
theorem q502 : (Cond.methodLink RX4 (182 : Nat) yX2_append) ∈ lw_g := gm (m2 (List.mem_of_getElem? (i := 214) rfl)) rfl
set_option maxRecDepth 20000 in
theorem q503 : (Cond.instanceMethod yX2_append) ∈ lw_g := gm (m2 (List.mem_of_getElem? (i := 215) rfl)) rfl
set_option maxRecDepth 20000 in
theorem q504 : (Cond.selects RX2 yX2_append yX2_append) ∈ lw_g := gm (m2 (List.mem_of_getElem? (i := 216) rfl)) rfl
set_option maxRecDepth 20000 in
theorem q505 : (Cond.code yX2_append cX2_append (4 : Nat) (Option.none : Option FieldType)) ∈ lw_g := gm (m2 (List.mem_of_getElem? (i := 217) rfl)) rfl
set_option maxRecDepth 20000 in
theorem q506 : (Cond.methodLink RL (126 : Nat) yX4_wipe) ∈ lw_g := gm (m2 (List.mem_of_getElem? (i := 218) rfl)) rfl
set_option maxRecDepth 20000 in
theorem q507 : (Cond.instanceMethod yX4_wipe) ∈ lw_g := gm (m2 (List.mem_of_getElem? (i := 219) rfl)) rfl
set_option maxRecDepth 20000 in
theorem q508 : (Cond.selects RX4 yX4_wipe yX4_wipe) ∈ lw_g := gm (m2 (List.mem_of_getElem? (i := 220) rfl)) rfl
set_option maxRecDepth 20000 in
theorem q509 : (Cond.code yX4_wipe cX4_wipe (2 : Nat) (Option.some FieldType.int)) ∈ lw_g := gm (m2 (List.mem_of_getElem? (i := 221) rfl)) rfl
set_option maxRecDepth 20000 in
theorem q510 : (Cond.methodLink RL (130 : Nat) yX4_text) ∈ lw_g := gm (m2 (List.mem_of_getElem? (i := 222) rfl)) rfl
set_option maxRecDepth 20000 in
theorem q511 : (Cond.instanceMethod yX4_text) ∈ lw_g := gm (m2 (List.mem_of_getElem? (i := 223) rfl)) rfl
set_option maxRecDepth 20000 in
theorem q512 : (Cond.selects RX4 yX4_text yX4_text) ∈ lw_g := gm (m2 (List.mem_of_getElem? (i := 224) rfl)) rfl
set_option maxRecDepth 20000 in
theorem q513 : (Cond.code yX4_text cX4_text (2 : Nat) (Option.some FieldType.int)) ∈ lw_g := gm (m2 (List.mem_of_getElem? (i := 225) rfl)) rfl
set_option maxRecDepth 20000 in
theorem q514 : (Cond.methodLink RX4 (185 : Nat) yX3_readText) ∈ lw_g := gm (m2 (List.mem_of_getElem? (i := 226) rfl)) rfl
set_option maxRecDepth 20000 in
theorem q515 : (Cond.instanceMethod yX3_readText) ∈ lw_g := gm (m2 (List.mem_of_getElem? (i := 227) rfl)) rfl
set_option maxRecDepth 20000 in
theorem q516 : (Cond.selects RX3 yX3_readText yX3_readText) ∈ lw_g := gm (m2 (List.mem_of_getElem? (i := 228) rfl)) rfl
set_option maxRecDepth 20000 in
theorem q517 : (Cond.code yX3_readText cX3_readText (3 : Nat) (Option.some FieldType.int)) ∈ lw_g := gm (m2 (List.mem_of_getElem? (i := 229) rfl)) rfl
set_option maxRecDepth 20000 in
theorem q518 : (Cond.methodLink RX3 (22 : Nat) yX3_readToken) ∈ lw_g := gm (m2 (List.mem_of_getElem? (i := 230) rfl)) rfl
set_option maxRecDepth 20000 in
theorem q519 : (Cond.instanceMethod yX3_readToken) ∈ lw_g := gm (m2 (List.mem_of_getElem? (i := 231) rfl)) rfl
set_option maxRecDepth 20000 in
theorem q520 : (Cond.selects RX3 yX3_readToken yX3_readToken) ∈ lw_g := gm (m2 (List.mem_of_getElem? (i := 232) rfl)) rfl
set_option maxRecDepth 20000 in
theorem q521 : (Cond.code yX3_readToken cX3_readToken (1 : Nat) (Option.none : Option FieldType)) ∈ lw_g := gm (m2 (List.mem_of_getElem? (i := 233) rfl)) rfl
set_option maxRecDepth 20000 in
theorem q522 : (Cond.methodLink RX3 (147 : Nat) yX3_tokenAt) ∈ lw_g := gm (m2 (List.mem_of_getElem? (i := 234) rfl)) rfl
set_option maxRecDepth 20000 in
theorem q523 : (Cond.instanceMethod yX3_tokenAt) ∈ lw_g := gm (m2 (List.mem_of_getElem? (i := 235) rfl)) rfl
set_option maxRecDepth 20000 in
theorem q524 : (Cond.selects RX3 yX3_tokenAt yX3_tokenAt) ∈ lw_g := gm (m2 (List.mem_of_getElem? (i := 236) rfl)) rfl
set_option maxRecDepth 20000 in
theorem q525 : (Cond.code yX3_tokenAt cX3_tokenAt (3 : Nat) (Option.some FieldType.int)) ∈ lw_g := gm (m2 (List.mem_of_getElem? (i := 237) rfl)) rfl
set_option maxRecDepth 20000 in
theorem q526 : (Cond.methodLink RX3 (151 : Nat) yJ9_min_7cf53) ∈ lw_g := gm (m2 (List.mem_of_getElem? (i := 238) rfl)) rfl
set_option maxRecDepth 20000 in
theorem q527 : (Cond.methodLink RX3 (156 : Nat) yX3_readValue) ∈ lw_g := gm (m2 (List.mem_of_getElem? (i := 239) rfl)) rfl
set_option maxRecDepth 20000 in
theorem q528 : (Cond.instanceMethod yX3_readValue) ∈ lw_g := gm (m3 (List.mem_of_getElem? (i := 0) rfl)) rfl
set_option maxRecDepth 20000 in
theorem q529 : (Cond.selects RX3 yX3_readValue yX3_readValue) ∈ lw_g := gm (m3 (List.mem_of_getElem? (i := 1) rfl)) rfl
set_option maxRecDepth 20000 in
theorem q530 : (Cond.code yX3_readValue cX3_readValue (2 : Nat) (Option.none : Option FieldType)) ∈ lw_g := gm (m3 (List.mem_of_getElem? (i := 2) rfl)) rfl
set_option maxRecDepth 20000 in
theorem q531 : (Cond.methodLink RX3 (25 : Nat) yX3_readItem) ∈ lw_g := gm (m3 (List.mem_of_getElem? (i := 3) rfl)) rfl
set_option maxRecDepth 20000 in
theorem q532 : (Cond.instanceMethod yX3_readItem) ∈ lw_g := gm (m3 (List.mem_of_getElem? (i := 4) rfl)) rfl
set_option maxRecDepth 20000 in
theorem q533 : (Cond.selects RX3 yX3_readItem yX3_readItem) ∈ lw_g := gm (m3 (List.mem_of_getElem? (i := 5) rfl)) rfl
set_option maxRecDepth 20000 in
theorem q534 : (Cond.code yX3_readItem cX3_readItem (3 : Nat) (Option.some FieldType.boolean)) ∈ lw_g := gm (m3 (List.mem_of_getElem? (i := 6) rfl)) rfl
set_option maxRecDepth 20000 in
theorem q535 : (Cond.methodLink RX3 (35 : Nat) yX3_wordOf) ∈ lw_g := gm (m3 (List.mem_of_getElem? (i := 7) rfl)) rfl
set_option maxRecDepth 20000 in
theorem q536 : (Cond.static yX3_wordOf) ∈ lw_g := gm (m3 (List.mem_of_getElem? (i := 8) rfl)) rfl
set_option maxRecDepth 20000 in
theorem q537 : (Cond.code yX3_wordOf cX3_wordOf (1 : Nat) (Option.some (FieldType.object "java/lang/String"))) ∈ lw_g := gm (m3 (List.mem_of_getElem? (i := 9) rfl)) rfl
set_option maxRecDepth 20000 in
theorem q538 : (Cond.stringRef RX3 (61 : Nat) "child") ∈ lw_tbl := m3 (List.mem_of_getElem? (i := 10) rfl)
set_option maxRecDepth 20000 in
theorem q539 : (Cond.stringRef RX3 (63 : Nat) "lover") ∈ lw_tbl := m3 (List.mem_of_getElem? (i := 11) rfl)
set_option maxRecDepth 20000 in
theorem q540 : (Cond.stringRef RX3 (65 : Nat) "boy") ∈ lw_tbl := m3 (List.mem_of_getElem? (i := 12) rfl)
set_option maxRecDepth 20000 in
theorem q541 : (Cond.stringRef RX3 (67 : Nat) "digger") ∈ lw_tbl := m3 (List.mem_of_getElem? (i := 13) rfl)
set_option maxRecDepth 20000 in
theorem q542 : (Cond.stringRef RX3 (69 : Nat) "traveller") ∈ lw_tbl := m3 (List.mem_of_getElem? (i := 14) rfl)
set_option maxRecDepth 20000 in
theorem q543 : (Cond.stringRef RX3 (71 : Nat) "bride") ∈ lw_tbl := m3 (List.mem_of_getElem? (i := 15) rfl)
set_option maxRecDepth 20000 in
theorem q544 : (Cond.stringRef RX3 (73 : Nat) "visitor") ∈ lw_tbl := m3 (List.mem_of_getElem? (i := 16) rfl)
set_option maxRecDepth 20000 in
theorem q545 : (Cond.methodLink RX3 (39 : Nat) yX3_isWord) ∈ lw_g := gm (m3 (List.mem_of_getElem? (i := 17) rfl)) rfl
set_option maxRecDepth 20000 in
theorem q546 : (Cond.instanceMethod yX3_isWord) ∈ lw_g := gm (m3 (List.mem_of_getElem? (i := 18) rfl)) rfl
set_option maxRecDepth 20000 in
theorem q547 : (Cond.selects RX3 yX3_isWord yX3_isWord) ∈ lw_g := gm (m3 (List.mem_of_getElem? (i := 19) rfl)) rfl
set_option maxRecDepth 20000 in
theorem q548 : (Cond.code yX3_isWord cX3_isWord (3 : Nat) (Option.some FieldType.boolean)) ∈ lw_g := gm (m3 (List.mem_of_getElem? (i := 20) rfl)) rfl
set_option maxRecDepth 20000 in
theorem q549 : (Cond.methodLink RX3 (131 : Nat) yJ0_length_8abf5) ∈ lw_g := gm (m3 (List.mem_of_getElem? (i := 21) rfl)) rfl
set_option maxRecDepth 20000 in
theorem q550 : (Cond.instanceMethod yJ0_length_8abf5) ∈ lw_g := gm (m3 (List.mem_of_getElem? (i := 22) rfl)) rfl
set_option maxRecDepth 20000 in
theorem q551 : (Cond.selects RJ0 yJ0_length_8abf5 yJ0_length_8abf5) ∈ lw_g := gm (m3 (List.mem_of_getElem? (i := 23) rfl)) rfl
set_option maxRecDepth 20000 in
theorem q552 : (Cond.code yJ0_length_8abf5 cJ0_length_8abf5 (1 : Nat) (Option.some FieldType.int)) ∈ lw_g := gm (m3 (List.mem_of_getElem? (i := 24) rfl)) rfl
set_option maxRecDepth 20000 in
theorem q553 : (Cond.methodLink RJ0 (335 : Nat) yJ0_coder_7d493) ∈ lw_g := gm (m3 (List.mem_of_getElem? (i := 25) rfl)) rfl
set_option maxRecDepth 20000 in
theorem q554 : (Cond.instanceMethod yJ0_coder_7d493) ∈ lw_g := gm (m3 (List.mem_of_getElem? (i := 26) rfl)) rfl
set_option maxRecDepth 20000 in
theorem q555 : (Cond.selects RJ0 yJ0_coder_7d493 yJ0_coder_7d493) ∈ lw_g := gm (m3 (List.mem_of_getElem? (i := 27) rfl)) rfl
set_option maxRecDepth 20000 in
theorem q556 : (Cond.code yJ0_coder_7d493 cJ0_coder_7d493 (1 : Nat) (Option.some FieldType.byte)) ∈ lw_g := gm (m3 (List.mem_of_getElem? (i := 28) rfl)) rfl
set_option maxRecDepth 20000 in
theorem q557 : (Cond.fieldLink RJ0 (38 : Nat) "java/lang/String" "COMPACT_STRINGS" "Z") ∈ lw_g := gm (m3 (List.mem_of_getElem? (i := 29) rfl)) rfl
set_option maxRecDepth 20000 in
theorem q558 : (Cond.laysStatic RJ0 "COMPACT_STRINGS" "Z") ∈ lw_tbl := m3 (List.mem_of_getElem? (i := 30) rfl)
set_option maxRecDepth 20000 in
theorem q559 : (Cond.methodLink RX3 (137 : Nat) yJ0_charAt_5068e) ∈ lw_g := gm (m3 (List.mem_of_getElem? (i := 31) rfl)) rfl
set_option maxRecDepth 20000 in
theorem q560 : (Cond.instanceMethod yJ0_charAt_5068e) ∈ lw_g := gm (m3 (List.mem_of_getElem? (i := 32) rfl)) rfl
set_option maxRecDepth 20000 in
theorem q561 : (Cond.selects RJ0 yJ0_charAt_5068e yJ0_charAt_5068e) ∈ lw_g := gm (m3 (List.mem_of_getElem? (i := 33) rfl)) rfl
set_option maxRecDepth 20000 in
theorem q562 : (Cond.code yJ0_charAt_5068e cJ0_charAt_5068e (2 : Nat) (Option.some FieldType.char)) ∈ lw_g := gm (m3 (List.mem_of_getElem? (i := 34) rfl)) rfl
set_option maxRecDepth 20000 in
theorem q563 : (Cond.methodLink RJ0 (492 : Nat) yJ0_isLatin1_aae02) ∈ lw_g := gm (m3 (List.mem_of_getElem? (i := 35) rfl)) rfl
set_option maxRecDepth 20000 in
theorem q564 : (Cond.instanceMethod yJ0_isLatin1_aae02) ∈ lw_g := gm (m3 (List.mem_of_getElem? (i := 36) rfl)) rfl
set_option maxRecDepth 20000 in
theorem q565 : (Cond.selects RJ0 yJ0_isLatin1_aae02 yJ0_isLatin1_aae02) ∈ lw_g := gm (m3 (List.mem_of_getElem? (i := 37) rfl)) rfl
set_option maxRecDepth 20000 in
theorem q566 : (Cond.code yJ0_isLatin1_aae02 cJ0_isLatin1_aae02 (1 : Nat) (Option.some FieldType.boolean)) ∈ lw_g := gm (m3 (List.mem_of_getElem? (i := 38) rfl)) rfl
set_option maxRecDepth 20000 in
theorem q567 : (Cond.methodLink RJ0 (495 : Nat) yJ1_charAt_3b067) ∈ lw_g := gm (m3 (List.mem_of_getElem? (i := 39) rfl)) rfl
set_option maxRecDepth 20000 in
theorem q568 : (Cond.static yJ1_charAt_3b067) ∈ lw_g := gm (m3 (List.mem_of_getElem? (i := 40) rfl)) rfl
set_option maxRecDepth 20000 in
theorem q569 : (Cond.code yJ1_charAt_3b067 cJ1_charAt_3b067 (2 : Nat) (Option.some FieldType.char)) ∈ lw_g := gm (m3 (List.mem_of_getElem? (i := 41) rfl)) rfl
set_option maxRecDepth 20000 in
theorem q570 : (Cond.methodLink RJ1 (9 : Nat) yJ0_checkIndex_df160) ∈ lw_g := gm (m3 (List.mem_of_getElem? (i := 42) rfl)) rfl
set_option maxRecDepth 20000 in
theorem q571 : (Cond.static yJ0_checkIndex_df160) ∈ lw_g := gm (m3 (List.mem_of_getElem? (i := 43) rfl)) rfl
set_option maxRecDepth 20000 in
theorem q572 : (Cond.code yJ0_checkIndex_df160 cJ0_checkIndex_df160 (2 : Nat) (Option.none : Option FieldType)) ∈ lw_g := gm (m3 (List.mem_of_getElem? (i := 44) rfl)) rfl
set_option maxRecDepth 20000 in
theorem q573 : (Cond.fieldLink RJ0 (1053 : Nat) "jdk/internal/util/Preconditions" "SIOOBE_FORMATTER" "Ljava/util/function/BiFunction;") ∈ lw_g := gm (m3 (List.mem_of_getElem? (i := 45) rfl)) rfl
set_option maxRecDepth 20000 in
theorem q574 : (Cond.laysStatic RJ3 "SIOOBE_FORMATTER" "Ljava/util/function/BiFunction;") ∈ lw_tbl := m3 (List.mem_of_getElem? (i := 46) rfl)
set_option maxRecDepth 20000 in
theorem q575 : (Cond.methodLink RJ0 (1059 : Nat) yJ3_checkIndex_8e157) ∈ lw_g := gm (m3 (List.mem_of_getElem? (i := 47) rfl)) rfl
set_option maxRecDepth 20000 in
theorem q576 : (Cond.static yJ3_checkIndex_8e157) ∈ lw_g := gm (m3 (List.mem_of_getElem? (i := 48) rfl)) rfl
set_option maxRecDepth 20000 in
theorem q577 : (Cond.code yJ3_checkIndex_8e157 cJ3_checkIndex_8e157 (3 : Nat) (Option.some FieldType.int)) ∈ lw_g := gm (m3 (List.mem_of_getElem? (i := 49) rfl)) rfl
set_option maxRecDepth 20000 in
theorem q578 : (Cond.methodLink RJ0 (498 : Nat) yJ2_charAt_3b067) ∈ lw_g := gm (m3 (List.mem_of_getElem? (i := 50) rfl)) rfl
set_option maxRecDepth 20000 in
theorem q579 : (Cond.static yJ2_charAt_3b067) ∈ lw_g := gm (m3 (List.mem_of_getElem? (i := 51) rfl)) rfl
set_option maxRecDepth 20000 in
theorem q580 : (Cond.code yJ2_charAt_3b067 cJ2_charAt_3b067 (2 : Nat) (Option.some FieldType.char)) ∈ lw_g := gm (m3 (List.mem_of_getElem? (i := 52) rfl)) rfl
set_option maxRecDepth 20000 in
theorem q581 : (Cond.methodLink RJ2 (67 : Nat) yJ2_checkIndex_2214a) ∈ lw_g := gm (m3 (List.mem_of_getElem? (i := 53) rfl)) rfl
set_option maxRecDepth 20000 in
theorem q582 : (Cond.static yJ2_checkIndex_2214a) ∈ lw_g := gm (m3 (List.mem_of_getElem? (i := 54) rfl)) rfl
set_option maxRecDepth 20000 in
theorem q583 : (Cond.code yJ2_checkIndex_2214a cJ2_checkIndex_2214a (2 : Nat) (Option.none : Option FieldType)) ∈ lw_g := gm (m3 (List.mem_of_getElem? (i := 55) rfl)) rfl
set_option maxRecDepth 20000 in
theorem q584 : (Cond.methodLink RJ2 (48 : Nat) yJ2_length_9d52b) ∈ lw_g := gm (m3 (List.mem_of_getElem? (i := 56) rfl)) rfl
set_option maxRecDepth 20000 in
theorem q585 : (Cond.static yJ2_length_9d52b) ∈ lw_g := gm (m3 (List.mem_of_getElem? (i := 57) rfl)) rfl
set_option maxRecDepth 20000 in
theorem q586 : (Cond.code yJ2_length_9d52b cJ2_length_9d52b (1 : Nat) (Option.some FieldType.int)) ∈ lw_g := gm (m3 (List.mem_of_getElem? (i := 58) rfl)) rfl
set_option maxRecDepth 20000 in
theorem q587 : (Cond.methodLink RJ2 (414 : Nat) yJ0_checkIndex_df160) ∈ lw_g := gm (m3 (List.mem_of_getElem? (i := 59) rfl)) rfl
set_option maxRecDepth 20000 in
theorem q588 : (Cond.methodLink RJ2 (71 : Nat) yJ2_getChar_3b067) ∈ lw_g := gm (m3 (List.mem_of_getElem? (i := 60) rfl)) rfl
set_option maxRecDepth 20000 in
theorem q589 : (Cond.static yJ2_getChar_3b067) ∈ lw_g := gm (m3 (List.mem_of_getElem? (i := 61) rfl)) rfl
set_option maxRecDepth 20000 in
theorem q590 : (Cond.code yJ2_getChar_3b067 cJ2_getChar_3b067 (2 : Nat) (Option.some FieldType.char)) ∈ lw_g := gm (m3 (List.mem_of_getElem? (i := 62) rfl)) rfl
set_option maxRecDepth 20000 in
theorem q591 : (Cond.fieldLink RJ2 (44 : Nat) "java/lang/StringUTF16" "$assertionsDisabled" "Z") ∈ lw_g := gm (m3 (List.mem_of_getElem? (i := 63) rfl)) rfl
set_option maxRecDepth 20000 in
theorem q592 : (Cond.laysStatic RJ2 "$assertionsDisabled" "Z") ∈ lw_tbl := m3 (List.mem_of_getElem? (i := 64) rfl)
set_option maxRecDepth 20000 in
theorem q593 : (Cond.fieldLink RJ2 (59 : Nat) "java/lang/StringUTF16" "HI_BYTE_SHIFT" "I") ∈ lw_g := gm (m3 (List.mem_of_getElem? (i := 65) rfl)) rfl
set_option maxRecDepth 20000 in
theorem q594 : (Cond.laysStatic RJ2 "HI_BYTE_SHIFT" "I") ∈ lw_tbl := m3 (List.mem_of_getElem? (i := 66) rfl)
set_option maxRecDepth 20000 in
theorem q595 : (Cond.fieldLink RJ2 (63 : Nat) "java/lang/StringUTF16" "LO_BYTE_SHIFT" "I") ∈ lw_g := gm (m3 (List.mem_of_getElem? (i := 67) rfl)) rfl
set_option maxRecDepth 20000 in
theorem q596 : (Cond.laysStatic RJ2 "LO_BYTE_SHIFT" "I") ∈ lw_tbl := m3 (List.mem_of_getElem? (i := 68) rfl)
set_option maxRecDepth 20000 in
theorem q597 : (Cond.methodLink RX3 (43 : Nat) yX3_readVisitor) ∈ lw_g := gm (m3 (List.mem_of_getElem? (i := 69) rfl)) rfl
set_option maxRecDepth 20000 in
theorem q598 : (Cond.instanceMethod yX3_readVisitor) ∈ lw_g := gm (m3 (List.mem_of_getElem? (i := 70) rfl)) rfl
set_option maxRecDepth 20000 in
theorem q599 : (Cond.selects RX3 yX3_readVisitor yX3_readVisitor) ∈ lw_g := gm (m3 (List.mem_of_getElem? (i := 71) rfl)) rfl
set_option maxRecDepth 20000 in
theorem q600 : (Cond.code yX3_readVisitor cX3_readVisitor (4 : Nat) (Option.some FieldType.boolean)) ∈ lw_g := gm (m3 (List.mem_of_getElem? (i := 72) rfl)) rfl
set_option maxRecDepth 20000 in
theorem q601 : (Cond.methodLink RX3 (75 : Nat) yX0_isFull) ∈ lw_g := gm (m3 (List.mem_of_getElem? (i := 73) rfl)) rfl
set_option maxRecDepth 20000 in
theorem q602 : (Cond.fieldLinkNest RX3 (81 : Nat) "SandLedger" "TRAIT_FIRST" "[I" "SandLedger") ∈ lw_tbl := m3 (List.mem_of_getElem? (i := 74) rfl)
set_option maxRecDepth 20000 in
theorem q603 : (Cond.methodLink RX3 (85 : Nat) yX0_admit) ∈ lw_g := gm (m3 (List.mem_of_getElem? (i := 75) rfl)) rfl
set_option maxRecDepth 20000 in
theorem q604 : (Cond.stringRef RX3 (89 : Nat) "from") ∈ lw_tbl := m3 (List.mem_of_getElem? (i := 76) rfl)
set_option maxRecDepth 20000 in
theorem q605 : (Cond.methodLink RX3 (91 : Nat) yX3_readTrait) ∈ lw_g := gm (m3 (List.mem_of_getElem? (i := 77) rfl)) rfl
set_option maxRecDepth 20000 in
theorem q606 : (Cond.instanceMethod yX3_readTrait) ∈ lw_g := gm (m3 (List.mem_of_getElem? (i := 78) rfl)) rfl
set_option maxRecDepth 20000 in
theorem q607 : (Cond.selects RX3 yX3_readTrait yX3_readTrait) ∈ lw_g := gm (m3 (List.mem_of_getElem? (i := 79) rfl)) rfl
set_option maxRecDepth 20000 in
theorem q608 : (Cond.code yX3_readTrait cX3_readTrait (5 : Nat) (Option.some FieldType.boolean)) ∈ lw_g := gm (m3 (List.mem_of_getElem? (i := 80) rfl)) rfl
set_option maxRecDepth 20000 in
theorem q609 : (Cond.fieldLinkNest RX3 (101 : Nat) "SandLedger" "TRAIT_LEAST" "[I" "SandLedger") ∈ lw_tbl := m3 (List.mem_of_getElem? (i := 81) rfl)
set_option maxRecDepth 20000 in
theorem q610 : (Cond.fieldLinkNest RX3 (104 : Nat) "SandLedger" "TRAIT_MOST" "[I" "SandLedger") ∈ lw_tbl := m3 (List.mem_of_getElem? (i := 82) rfl)
set_option maxRecDepth 20000 in
theorem q611 : (Cond.methodLink RX3 (107 : Nat) yX3_isNumber) ∈ lw_g := gm (m3 (List.mem_of_getElem? (i := 83) rfl)) rfl
set_option maxRecDepth 20000 in
theorem q612 : (Cond.instanceMethod yX3_isNumber) ∈ lw_g := gm (m3 (List.mem_of_getElem? (i := 84) rfl)) rfl
set_option maxRecDepth 20000 in
theorem q613 : (Cond.selects RX3 yX3_isNumber yX3_isNumber) ∈ lw_g := gm (m3 (List.mem_of_getElem? (i := 85) rfl)) rfl
set_option maxRecDepth 20000 in
theorem q614 : (Cond.code yX3_isNumber cX3_isNumber (3 : Nat) (Option.some FieldType.boolean)) ∈ lw_g := gm (m3 (List.mem_of_getElem? (i := 86) rfl)) rfl
set_option maxRecDepth 20000 in
theorem q615 : (Cond.methodLinkNest RX3 (127 : Nat) yX4_within "SandLedger") ∈ lw_tbl := m3 (List.mem_of_getElem? (i := 87) rfl)
set_option maxRecDepth 20000 in
theorem q616 : (Cond.stringRef RX3 (95 : Nat) "wide") ∈ lw_tbl := m3 (List.mem_of_getElem? (i := 88) rfl)
set_option maxRecDepth 20000 in
theorem q617 : (Cond.stringRef RX3 (97 : Nat) "high") ∈ lw_tbl := m3 (List.mem_of_getElem? (i := 89) rfl)
set_option maxRecDepth 20000 in
theorem q618 : (Cond.stringRef RX3 (99 : Nat) "each") ∈ lw_tbl := m3 (List.mem_of_getElem? (i := 90) rfl)
set_option maxRecDepth 20000 in
theorem q619 : (Cond.stringRef RX3 (47 : Nat) "sand") ∈ lw_tbl := m3 (List.mem_of_getElem? (i := 91) rfl)
set_option maxRecDepth 20000 in
theorem q620 : (Cond.methodLink RX3 (49 : Nat) yX3_readSand) ∈ lw_g := gm (m3 (List.mem_of_getElem? (i := 92) rfl)) rfl
set_option maxRecDepth 20000 in
theorem q621 : (Cond.instanceMethod yX3_readSand) ∈ lw_g := gm (m3 (List.mem_of_getElem? (i := 93) rfl)) rfl
set_option maxRecDepth 20000 in
theorem q622 : (Cond.selects RX3 yX3_readSand yX3_readSand) ∈ lw_g := gm (m3 (List.mem_of_getElem? (i := 94) rfl)) rfl
set_option maxRecDepth 20000 in
theorem q623 : (Cond.code yX3_readSand cX3_readSand (3 : Nat) (Option.some FieldType.boolean)) ∈ lw_g := gm (m3 (List.mem_of_getElem? (i := 95) rfl)) rfl
set_option maxRecDepth 20000 in
theorem q624 : (Cond.stringRef RX3 (52 : Nat) "store") ∈ lw_tbl := m3 (List.mem_of_getElem? (i := 96) rfl)
set_option maxRecDepth 20000 in
theorem q625 : (Cond.methodLink RX3 (54 : Nat) yX3_readSetting) ∈ lw_g := gm (m3 (List.mem_of_getElem? (i := 97) rfl)) rfl
set_option maxRecDepth 20000 in
theorem q626 : (Cond.instanceMethod yX3_readSetting) ∈ lw_g := gm (m3 (List.mem_of_getElem? (i := 98) rfl)) rfl
set_option maxRecDepth 20000 in
theorem q627 : (Cond.selects RX3 yX3_readSetting yX3_readSetting) ∈ lw_g := gm (m3 (List.mem_of_getElem? (i := 99) rfl)) rfl
set_option maxRecDepth 20000 in
theorem q628 : (Cond.code yX3_readSetting cX3_readSetting (3 : Nat) (Option.some FieldType.boolean)) ∈ lw_g := gm (m3 (List.mem_of_getElem? (i := 100) rfl)) rfl
set_option maxRecDepth 20000 in
theorem q629 : (Cond.fieldLinkNest RX3 (121 : Nat) "SandLedger" "SETTING_MOST" "[I" "SandLedger") ∈ lw_tbl := m3 (List.mem_of_getElem? (i := 101) rfl)
set_option maxRecDepth 20000 in
theorem q630 : (Cond.stringRef RX3 (57 : Nat) "wind") ∈ lw_tbl := m3 (List.mem_of_getElem? (i := 102) rfl)
set_option maxRecDepth 20000 in
theorem q631 : (Cond.stringRef RX3 (59 : Nat) "wet") ∈ lw_tbl := m3 (List.mem_of_getElem? (i := 103) rfl)
set_option maxRecDepth 20000 in
theorem q632 : (Cond.methodLink RL (134 : Nat) yX4_hold) ∈ lw_g := gm (m3 (List.mem_of_getElem? (i := 104) rfl)) rfl
set_option maxRecDepth 20000 in
theorem q633 : (Cond.instanceMethod yX4_hold) ∈ lw_g := gm (m3 (List.mem_of_getElem? (i := 105) rfl)) rfl
set_option maxRecDepth 20000 in
theorem q634 : (Cond.selects RX4 yX4_hold yX4_hold) ∈ lw_g := gm (m3 (List.mem_of_getElem? (i := 106) rfl)) rfl
set_option maxRecDepth 20000 in
theorem q635 : (Cond.code yX4_hold cX4_hold (3 : Nat) (Option.some FieldType.int)) ∈ lw_g := gm (m3 (List.mem_of_getElem? (i := 107) rfl)) rfl
set_option maxRecDepth 20000 in
theorem q636 : (Cond.methodLink RL (138 : Nat) yX4_as) ∈ lw_g := gm (m3 (List.mem_of_getElem? (i := 108) rfl)) rfl
set_option maxRecDepth 20000 in
theorem q637 : (Cond.instanceMethod yX4_as) ∈ lw_g := gm (m3 (List.mem_of_getElem? (i := 109) rfl)) rfl
set_option maxRecDepth 20000 in
theorem q638 : (Cond.selects RX4 yX4_as yX4_as) ∈ lw_g := gm (m3 (List.mem_of_getElem? (i := 110) rfl)) rfl
set_option maxRecDepth 20000 in
theorem q639 : (Cond.code yX4_as cX4_as (4 : Nat) (Option.some FieldType.int)) ∈ lw_g := gm (m3 (List.mem_of_getElem? (i := 111) rfl)) rfl
set_option maxRecDepth 20000 in
theorem q640 : (Cond.methodLink RX4 (192 : Nat) yX4_isOfKind) ∈ lw_g := gm (m3 (List.mem_of_getElem? (i := 112) rfl)) rfl
set_option maxRecDepth 20000 in
theorem q641 : (Cond.static yX4_isOfKind) ∈ lw_g := gm (m3 (List.mem_of_getElem? (i := 113) rfl)) rfl
set_option maxRecDepth 20000 in
theorem q642 : (Cond.code yX4_isOfKind cX4_isOfKind (4 : Nat) (Option.some FieldType.boolean)) ∈ lw_g := gm (m3 (List.mem_of_getElem? (i := 114) rfl)) rfl
set_option maxRecDepth 20000 in
theorem q643 : (Cond.fieldLink RX4 (240 : Nat) "SandLedger" "KIND_ABOVE" "[I") ∈ lw_g := gm (m3 (List.mem_of_getElem? (i := 115) rfl)) rfl
set_option maxRecDepth 20000 in
theorem q644 : (Cond.laysStatic RX4 "KIND_ABOVE" "[I") ∈ lw_tbl := m3 (List.mem_of_getElem? (i := 116) rfl)
set_option maxRecDepth 20000 in
theorem q645 : (Cond.methodLink RL (142 : Nat) yX4_sheet) ∈ lw_g := gm (m3 (List.mem_of_getElem? (i := 117) rfl)) rfl
set_option maxRecDepth 20000 in
theorem q646 : (Cond.instanceMethod yX4_sheet) ∈ lw_g := gm (m3 (List.mem_of_getElem? (i := 118) rfl)) rfl
set_option maxRecDepth 20000 in
theorem q647 : (Cond.selects RX4 yX4_sheet yX4_sheet) ∈ lw_g := gm (m3 (List.mem_of_getElem? (i := 119) rfl)) rfl
set_option maxRecDepth 20000 in
theorem q648 : (Cond.code yX4_sheet cX4_sheet (4 : Nat) (Option.some FieldType.int)) ∈ lw_g := gm (m3 (List.mem_of_getElem? (i := 120) rfl)) rfl
set_option maxRecDepth 20000 in
theorem q649 : (Cond.methodLink RX4 (198 : Nat) yX1_layOut) ∈ lw_g := gm (m3 (List.mem_of_getElem? (i := 121) rfl)) rfl
set_option maxRecDepth 20000 in
theorem q650 : (Cond.instanceMethod yX1_layOut) ∈ lw_g := gm (m3 (List.mem_of_getElem? (i := 122) rfl)) rfl
set_option maxRecDepth 20000 in
theorem q651 : (Cond.selects RX1 yX1_layOut yX1_layOut) ∈ lw_g := gm (m3 (List.mem_of_getElem? (i := 123) rfl)) rfl
set_option maxRecDepth 20000 in
theorem q652 : (Cond.code yX1_layOut cX1_layOut (4 : Nat) (Option.none : Option FieldType)) ∈ lw_g := gm (m3 (List.mem_of_getElem? (i := 124) rfl)) rfl
set_option maxRecDepth 20000 in
theorem q653 : (Cond.methodLink RL (146 : Nat) yX4_write) ∈ lw_g := gm (m3 (List.mem_of_getElem? (i := 125) rfl)) rfl
set_option maxRecDepth 20000 in
theorem q654 : (Cond.instanceMethod yX4_write) ∈ lw_g := gm (m3 (List.mem_of_getElem? (i := 126) rfl)) rfl
set_option maxRecDepth 20000 in
theorem q655 : (Cond.selects RX4 yX4_write yX4_write) ∈ lw_g := gm (m3 (List.mem_of_getElem? (i := 127) rfl)) rfl
set_option maxRecDepth 20000 in
theorem q656 : (Cond.code yX4_write cX4_write (5 : Nat) (Option.some FieldType.int)) ∈ lw_g := gm (m3 (List.mem_of_getElem? (i := 128) rfl)) rfl
set_option maxRecDepth 20000 in
theorem q657 : (Cond.methodLink RX4 (207 : Nat) yX1_put) ∈ lw_g := gm (m3 (List.mem_of_getElem? (i := 129) rfl)) rfl
set_option maxRecDepth 20000 in
theorem q658 : (Cond.instanceMethod yX1_put) ∈ lw_g := gm (m3 (List.mem_of_getElem? (i := 130) rfl)) rfl
set_option maxRecDepth 20000 in
theorem q659 : (Cond.selects RX1 yX1_put yX1_put) ∈ lw_g := gm (m3 (List.mem_of_getElem? (i := 131) rfl)) rfl
set_option maxRecDepth 20000 in
theorem q660 : (Cond.code yX1_put cX1_put (3 : Nat) (Option.none : Option FieldType)) ∈ lw_g := gm (m3 (List.mem_of_getElem? (i := 132) rfl)) rfl
set_option maxRecDepth 20000 in
theorem q661 : (Cond.methodLink RL (150 : Nat) yX4_copy) ∈ lw_g := gm (m3 (List.mem_of_getElem? (i := 133) rfl)) rfl
set_option maxRecDepth 20000 in
theorem q662 : (Cond.instanceMethod yX4_copy) ∈ lw_g := gm (m3 (List.mem_of_getElem? (i := 134) rfl)) rfl
set_option maxRecDepth 20000 in
theorem q663 : (Cond.selects RX4 yX4_copy yX4_copy) ∈ lw_g := gm (m3 (List.mem_of_getElem? (i := 135) rfl)) rfl
set_option maxRecDepth 20000 in
theorem q664 : (Cond.code yX4_copy cX4_copy (8 : Nat) (Option.some FieldType.int)) ∈ lw_g := gm (m3 (List.mem_of_getElem? (i := 136) rfl)) rfl
set_option maxRecDepth 20000 in
theorem q665 : (Cond.methodLink RX4 (213 : Nat) yX1_hasPart) ∈ lw_g := gm (m3 (List.mem_of_getElem? (i := 137) rfl)) rfl
set_option maxRecDepth 20000 in
theorem q666 : (Cond.instanceMethod yX1_hasPart) ∈ lw_g := gm (m3 (List.mem_of_getElem? (i := 138) rfl)) rfl
set_option maxRecDepth 20000 in
theorem q667 : (Cond.selects RX1 yX1_hasPart yX1_hasPart) ∈ lw_g := gm (m3 (List.mem_of_getElem? (i := 139) rfl)) rfl
set_option maxRecDepth 20000 in
theorem q668 : (Cond.code yX1_hasPart cX1_hasPart (3 : Nat) (Option.some FieldType.boolean)) ∈ lw_g := gm (m3 (List.mem_of_getElem? (i := 140) rfl)) rfl
set_option maxRecDepth 20000 in
theorem q669 : (Cond.methodLink RX4 (219 : Nat) arraycopyName) ∈ lw_g := gm (m3 (List.mem_of_getElem? (i := 141) rfl)) rfl
set_option maxRecDepth 20000 in
theorem q670 : (Cond.methodLink RL (155 : Nat) yX4_load) ∈ lw_g := gm (m3 (List.mem_of_getElem? (i := 142) rfl)) rfl
set_option maxRecDepth 20000 in
theorem q671 : (Cond.instanceMethod yX4_load) ∈ lw_g := gm (m3 (List.mem_of_getElem? (i := 143) rfl)) rfl
set_option maxRecDepth 20000 in
theorem q672 : (Cond.selects RX4 yX4_load yX4_load) ∈ lw_g := gm (m3 (List.mem_of_getElem? (i := 144) rfl)) rfl
set_option maxRecDepth 20000 in
theorem q673 : (Cond.code yX4_load cX4_load (5 : Nat) (Option.some FieldType.int)) ∈ lw_g := gm (m3 (List.mem_of_getElem? (i := 145) rfl)) rfl
set_option maxRecDepth 20000 in
theorem q674 : (Cond.methodLink RX4 (225 : Nat) yJ9_min_7cf53) ∈ lw_g := gm (m3 (List.mem_of_getElem? (i := 146) rfl)) rfl
set_option maxRecDepth 20000 in
theorem q675 : (Cond.methodLink RL (159 : Nat) yX4_judge) ∈ lw_g := gm (m3 (List.mem_of_getElem? (i := 147) rfl)) rfl
set_option maxRecDepth 20000 in
theorem q676 : (Cond.instanceMethod yX4_judge) ∈ lw_g := gm (m3 (List.mem_of_getElem? (i := 148) rfl)) rfl
set_option maxRecDepth 20000 in
theorem q677 : (Cond.selects RX4 yX4_judge yX4_judge) ∈ lw_g := gm (m3 (List.mem_of_getElem? (i := 149) rfl)) rfl
set_option maxRecDepth 20000 in
theorem q678 : (Cond.code yX4_judge cX4_judge (4 : Nat) (Option.some FieldType.int)) ∈ lw_g := gm (m3 (List.mem_of_getElem? (i := 150) rfl)) rfl
set_option maxRecDepth 20000 in
theorem q679 : (Cond.methodLink RL (163 : Nat) yX4_image) ∈ lw_g := gm (m3 (List.mem_of_getElem? (i := 151) rfl)) rfl
set_option maxRecDepth 20000 in
theorem q680 : (Cond.instanceMethod yX4_image) ∈ lw_g := gm (m3 (List.mem_of_getElem? (i := 152) rfl)) rfl
set_option maxRecDepth 20000 in
theorem q681 : (Cond.selects RX4 yX4_image yX4_image) ∈ lw_g := gm (m3 (List.mem_of_getElem? (i := 153) rfl)) rfl
set_option maxRecDepth 20000 in
theorem q682 : (Cond.code yX4_image cX4_image (1 : Nat) (Option.some FieldType.int)) ∈ lw_g := gm (m3 (List.mem_of_getElem? (i := 154) rfl)) rfl
set_option maxRecDepth 20000 in
theorem q683 : (Cond.methodLink RL (167 : Nat) yX4_undo) ∈ lw_g := gm (m3 (List.mem_of_getElem? (i := 155) rfl)) rfl
set_option maxRecDepth 20000 in
theorem q684 : (Cond.instanceMethod yX4_undo) ∈ lw_g := gm (m3 (List.mem_of_getElem? (i := 156) rfl)) rfl
set_option maxRecDepth 20000 in
theorem q685 : (Cond.selects RX4 yX4_undo yX4_undo) ∈ lw_g := gm (m3 (List.mem_of_getElem? (i := 157) rfl)) rfl
set_option maxRecDepth 20000 in
theorem q686 : (Cond.code yX4_undo cX4_undo (1 : Nat) (Option.some FieldType.int)) ∈ lw_g := gm (m3 (List.mem_of_getElem? (i := 158) rfl)) rfl
set_option maxRecDepth 20000 in
theorem q687 : (Cond.methodLink RL (171 : Nat) yX4_tear) ∈ lw_g := gm (m3 (List.mem_of_getElem? (i := 159) rfl)) rfl
set_option maxRecDepth 20000 in
theorem q688 : (Cond.instanceMethod yX4_tear) ∈ lw_g := gm (m3 (List.mem_of_getElem? (i := 160) rfl)) rfl
set_option maxRecDepth 20000 in
theorem q689 : (Cond.selects RX4 yX4_tear yX4_tear) ∈ lw_g := gm (m3 (List.mem_of_getElem? (i := 161) rfl)) rfl
set_option maxRecDepth 20000 in
theorem q690 : (Cond.code yX4_tear cX4_tear (2 : Nat) (Option.some FieldType.int)) ∈ lw_g := gm (m3 (List.mem_of_getElem? (i := 162) rfl)) rfl
set_option maxRecDepth 20000 in
theorem q691 : (Cond.methodLink RL (175 : Nat) yX4_count) ∈ lw_g := gm (m3 (List.mem_of_getElem? (i := 163) rfl)) rfl
set_option maxRecDepth 20000 in
theorem q692 : (Cond.instanceMethod yX4_count) ∈ lw_g := gm (m3 (List.mem_of_getElem? (i := 164) rfl)) rfl
set_option maxRecDepth 20000 in
theorem q693 : (Cond.selects RX4 yX4_count yX4_count) ∈ lw_g := gm (m3 (List.mem_of_getElem? (i := 165) rfl)) rfl
set_option maxRecDepth 20000 in
theorem q694 : (Cond.code yX4_count cX4_count (2 : Nat) (Option.some FieldType.int)) ∈ lw_g := gm (m3 (List.mem_of_getElem? (i := 166) rfl)) rfl
set_option maxRecDepth 20000 in
theorem q695 : (Cond.methodLink RX4 (234 : Nat) yX0_spotsHolding) ∈ lw_g := gm (m3 (List.mem_of_getElem? (i := 167) rfl)) rfl
set_option maxRecDepth 20000 in
theorem q696 : (Cond.instanceMethod yX0_spotsHolding) ∈ lw_g := gm (m3 (List.mem_of_getElem? (i := 168) rfl)) rfl
set_option maxRecDepth 20000 in
theorem q697 : (Cond.selects RX0 yX0_spotsHolding yX0_spotsHolding) ∈ lw_g := gm (m3 (List.mem_of_getElem? (i := 169) rfl)) rfl
set_option maxRecDepth 20000 in
theorem q698 : (Cond.code yX0_spotsHolding cX0_spotsHolding (3 : Nat) (Option.some FieldType.int)) ∈ lw_g := gm (m3 (List.mem_of_getElem? (i := 170) rfl)) rfl
set_option maxRecDepth 20000 in
theorem q699 : (Cond.methodLink RL (179 : Nat) yX4_status) ∈ lw_g := gm (m3 (List.mem_of_getElem? (i := 171) rfl)) rfl
set_option maxRecDepth 20000 in
theorem q700 : (Cond.instanceMethod yX4_status) ∈ lw_g := gm (m3 (List.mem_of_getElem? (i := 172) rfl)) rfl
set_option maxRecDepth 20000 in
theorem q701 : (Cond.selects RX4 yX4_status yX4_status) ∈ lw_g := gm (m3 (List.mem_of_getElem? (i := 173) rfl)) rfl
set_option maxRecDepth 20000 in
theorem q702 : (Cond.code yX4_status cX4_status (2 : Nat) (Option.some FieldType.int)) ∈ lw_g := gm (m3 (List.mem_of_getElem? (i := 174) rfl)) rfl
set_option maxRecDepth 20000 in
theorem q703 : (Cond.methodLink RX4 (237 : Nat) yX4_findingsInAll) ∈ lw_g := gm (m3 (List.mem_of_getElem? (i := 175) rfl)) rfl
set_option maxRecDepth 20000 in
theorem q704 : (Cond.privateMethod yX4_findingsInAll) ∈ lw_tbl := m3 (List.mem_of_getElem? (i := 176) rfl)
set_option maxRecDepth 20000 in
theorem q705 : (Cond.instanceMethod yX4_findingsInAll) ∈ lw_g := gm (m3 (List.mem_of_getElem? (i := 177) rfl)) rfl
set_option maxRecDepth 20000 in
theorem q706 : (Cond.code yX4_findingsInAll cX4_findingsInAll (3 : Nat) (Option.some FieldType.int)) ∈ lw_g := gm (m3 (List.mem_of_getElem? (i := 178) rfl)) rfl
set_option maxRecDepth 20000 in
theorem q707 : (Cond.classLink RL (10 : Nat) "SandLedgerModel") ∈ lw_g := gm (m3 (List.mem_of_getElem? (i := 179) rfl)) rfl
set_option maxRecDepth 20000 in
theorem q708 : (Cond.instantiable RX5 (20 : Nat)) ∈ lw_g := gm (m3 (List.mem_of_getElem? (i := 180) rfl)) rfl
set_option maxRecDepth 20000 in
theorem q709 : (Cond.methodLink RL (12 : Nat) yX5_init) ∈ lw_g := gm (m3 (List.mem_of_getElem? (i := 181) rfl)) rfl
set_option maxRecDepth 20000 in
theorem q710 : (Cond.instanceMethod yX5_init) ∈ lw_g := gm (m3 (List.mem_of_getElem? (i := 182) rfl)) rfl
set_option maxRecDepth 20000 in
theorem q711 : (Cond.code yX5_init cX5_init (2 : Nat) (Option.none : Option FieldType)) ∈ lw_g := gm (m3 (List.mem_of_getElem? (i := 183) rfl)) rfl
set_option maxRecDepth 20000 in
theorem q712 : (Cond.methodLink RX5 (1 : Nat) objectInit) ∈ lw_g := gm (m3 (List.mem_of_getElem? (i := 184) rfl)) rfl
set_option maxRecDepth 20000 in
theorem q713 : (Cond.fieldLink RX5 (9 : Nat) "SandLedgerModel" "s" "[I") ∈ lw_g := gm (m3 (List.mem_of_getElem? (i := 185) rfl)) rfl
set_option maxRecDepth 20000 in
theorem q714 : (Cond.fieldLink RX5 (13 : Nat) "SandLedgerModel" "kept" "[I") ∈ lw_g := gm (m3 (List.mem_of_getElem? (i := 186) rfl)) rfl
set_option maxRecDepth 20000 in
theorem q715 : (Cond.fieldLink RX5 (16 : Nat) "SandLedgerModel" "aside" "[I") ∈ lw_g := gm (m3 (List.mem_of_getElem? (i := 187) rfl)) rfl
set_option maxRecDepth 20000 in
theorem q716 : (Cond.fieldLink RX5 (253 : Nat) "SandLedgerModel" "isKept" "Z") ∈ lw_g := gm (m3 (List.mem_of_getElem? (i := 188) rfl)) rfl
set_option maxRecDepth 20000 in
theorem q717 : (Cond.fieldLink RX5 (19 : Nat) "SandLedgerModel" "found" "[I") ∈ lw_g := gm (m3 (List.mem_of_getElem? (i := 189) rfl)) rfl
set_option maxRecDepth 20000 in
theorem q718 : (Cond.fieldLink RX5 (90 : Nat) "SandLedgerModel" "gone" "I") ∈ lw_g := gm (m3 (List.mem_of_getElem? (i := 190) rfl)) rfl
set_option maxRecDepth 20000 in
theorem q719 : (Cond.fieldLink RX5 (22 : Nat) "SandLedgerModel" "over" "[I") ∈ lw_g := gm (m3 (List.mem_of_getElem? (i := 191) rfl)) rfl
set_option maxRecDepth 20000 in
theorem q720 : (Cond.fieldLink RX5 (25 : Nat) "SandLedgerModel" "tape" "[I") ∈ lw_g := gm (m3 (List.mem_of_getElem? (i := 192) rfl)) rfl
set_option maxRecDepth 20000 in
theorem q721 : (Cond.fieldLink RX5 (196 : Nat) "SandLedgerModel" "taped" "I") ∈ lw_g := gm (m3 (List.mem_of_getElem? (i := 193) rfl)) rfl
set_option maxRecDepth 20000 in
theorem q722 : (Cond.fieldLink RX5 (209 : Nat) "SandLedgerModel" "token" "I") ∈ lw_g := gm (m3 (List.mem_of_getElem? (i := 194) rfl)) rfl
set_option maxRecDepth 20000 in
theorem q723 : (Cond.fieldLink RX5 (202 : Nat) "SandLedgerModel" "begun" "I") ∈ lw_g := gm (m3 (List.mem_of_getElem? (i := 195) rfl)) rfl
set_option maxRecDepth 20000 in
theorem q724 : (Cond.fieldLink RX5 (199 : Nat) "SandLedgerModel" "ended" "I") ∈ lw_g := gm (m3 (List.mem_of_getElem? (i := 196) rfl)) rfl
set_option maxRecDepth 20000 in
theorem q725 : (Cond.fieldLink RX5 (205 : Nat) "SandLedgerModel" "value" "J") ∈ lw_g := gm (m3 (List.mem_of_getElem? (i := 197) rfl)) rfl
set_option maxRecDepth 20000 in
theorem q726 : (Cond.fieldLink RX5 (28 : Nat) "SandLedgerModel" "letters" "[C") ∈ lw_g := gm (m3 (List.mem_of_getElem? (i := 198) rfl)) rfl
set_option maxRecDepth 20000 in
theorem q727 : (Cond.fieldLink RX5 (32 : Nat) "SandLedgerModel" "more" "[C") ∈ lw_g := gm (m3 (List.mem_of_getElem? (i := 199) rfl)) rfl
set_option maxRecDepth 20000 in
theorem q728 : (Cond.fieldLink RX5 (35 : Nat) "SandLedgerModel" "others" "[C") ∈ lw_g := gm (m3 (List.mem_of_getElem? (i := 200) rfl)) rfl
set_option maxRecDepth 20000 in
theorem q729 : (Cond.fieldLink RX5 (38 : Nat) "SandLedgerModel" "widths" "[I") ∈ lw_g := gm (m3 (List.mem_of_getElem? (i := 201) rfl)) rfl
set_option maxRecDepth 20000 in
theorem q730 : (Cond.fieldLink RX5 (41 : Nat) "SandLedgerModel" "sizes" "[I") ∈ lw_g := gm (m3 (List.mem_of_getElem? (i := 202) rfl)) rfl
set_option maxRecDepth 20000 in
theorem q731 : (Cond.fieldLink RX5 (44 : Nat) "SandLedgerModel" "cells" "[I") ∈ lw_g := gm (m3 (List.mem_of_getElem? (i := 203) rfl)) rfl
set_option maxRecDepth 20000 in
theorem q732 : (Cond.fieldLink RX5 (47 : Nat) "SandLedgerModel" "carried" "[I") ∈ lw_g := gm (m3 (List.mem_of_getElem? (i := 204) rfl)) rfl
set_option maxRecDepth 20000 in
theorem q733 : (Cond.laysFinal RX5 "SandLedgerModel" "s" "[I") ∈ lw_g := gm (m3 (List.mem_of_getElem? (i := 205) rfl)) rfl
set_option maxRecDepth 20000 in
theorem q734 : (Cond.soleField "SandLedgerModel" "s") ∈ lw_g := gm (m3 (List.mem_of_getElem? (i := 206) rfl)) rfl
set_option maxRecDepth 20000 in
theorem q735 : (Cond.laysFinal RX5 "SandLedgerModel" "kept" "[I") ∈ lw_g := gm (m3 (List.mem_of_getElem? (i := 207) rfl)) rfl
set_option maxRecDepth 20000 in
theorem q736 : (Cond.soleField "SandLedgerModel" "kept") ∈ lw_g := gm (m3 (List.mem_of_getElem? (i := 208) rfl)) rfl
set_option maxRecDepth 20000 in
theorem q737 : (Cond.laysFinal RX5 "SandLedgerModel" "aside" "[I") ∈ lw_g := gm (m3 (List.mem_of_getElem? (i := 209) rfl)) rfl
set_option maxRecDepth 20000 in
theorem q738 : (Cond.soleField "SandLedgerModel" "aside") ∈ lw_g := gm (m3 (List.mem_of_getElem? (i := 210) rfl)) rfl
set_option maxRecDepth 20000 in
theorem q739 : (Cond.lays RX5 "SandLedgerModel" "isKept" "Z") ∈ lw_g := gm (m3 (List.mem_of_getElem? (i := 211) rfl)) rfl
set_option maxRecDepth 20000 in
theorem q740 : (Cond.soleField "SandLedgerModel" "isKept") ∈ lw_g := gm (m3 (List.mem_of_getElem? (i := 212) rfl)) rfl
set_option maxRecDepth 20000 in
theorem q741 : (Cond.laysFinal RX5 "SandLedgerModel" "found" "[I") ∈ lw_g := gm (m3 (List.mem_of_getElem? (i := 213) rfl)) rfl
set_option maxRecDepth 20000 in
theorem q742 : (Cond.soleField "SandLedgerModel" "found") ∈ lw_g := gm (m3 (List.mem_of_getElem? (i := 214) rfl)) rfl
set_option maxRecDepth 20000 in
theorem q743 : (Cond.lays RX5 "SandLedgerModel" "gone" "I") ∈ lw_g := gm (m3 (List.mem_of_getElem? (i := 215) rfl)) rfl
set_option maxRecDepth 20000 in
theorem q744 : (Cond.soleField "SandLedgerModel" "gone") ∈ lw_g := gm (m3 (List.mem_of_getElem? (i := 216) rfl)) rfl
set_option maxRecDepth 20000 in
theorem q745 : (Cond.laysFinal RX5 "SandLedgerModel" "over" "[I") ∈ lw_g := gm (m3 (List.mem_of_getElem? (i := 217) rfl)) rfl
set_option maxRecDepth 20000 in
theorem q746 : (Cond.soleField "SandLedgerModel" "over") ∈ lw_g := gm (m3 (List.mem_of_getElem? (i := 218) rfl)) rfl
set_option maxRecDepth 20000 in
theorem q747 : (Cond.laysFinal RX5 "SandLedgerModel" "tape" "[I") ∈ lw_g := gm (m3 (List.mem_of_getElem? (i := 219) rfl)) rfl
set_option maxRecDepth 20000 in
theorem q748 : (Cond.soleField "SandLedgerModel" "tape") ∈ lw_g := gm (m3 (List.mem_of_getElem? (i := 220) rfl)) rfl
set_option maxRecDepth 20000 in
theorem q749 : (Cond.lays RX5 "SandLedgerModel" "taped" "I") ∈ lw_g := gm (m3 (List.mem_of_getElem? (i := 221) rfl)) rfl
set_option maxRecDepth 20000 in
theorem q750 : (Cond.soleField "SandLedgerModel" "taped") ∈ lw_g := gm (m3 (List.mem_of_getElem? (i := 222) rfl)) rfl
set_option maxRecDepth 20000 in
theorem q751 : (Cond.lays RX5 "SandLedgerModel" "token" "I") ∈ lw_g := gm (m3 (List.mem_of_getElem? (i := 223) rfl)) rfl
set_option maxRecDepth 20000 in
theorem q752 : (Cond.soleField "SandLedgerModel" "token") ∈ lw_g := gm (m3 (List.mem_of_getElem? (i := 224) rfl)) rfl
set_option maxRecDepth 20000 in
theorem q753 : (Cond.lays RX5 "SandLedgerModel" "begun" "I") ∈ lw_g := gm (m3 (List.mem_of_getElem? (i := 225) rfl)) rfl
set_option maxRecDepth 20000 in
theorem q754 : (Cond.soleField "SandLedgerModel" "begun") ∈ lw_g := gm (m3 (List.mem_of_getElem? (i := 226) rfl)) rfl
set_option maxRecDepth 20000 in
theorem q755 : (Cond.lays RX5 "SandLedgerModel" "ended" "I") ∈ lw_g := gm (m3 (List.mem_of_getElem? (i := 227) rfl)) rfl
set_option maxRecDepth 20000 in
theorem q756 : (Cond.soleField "SandLedgerModel" "ended") ∈ lw_g := gm (m3 (List.mem_of_getElem? (i := 228) rfl)) rfl
set_option maxRecDepth 20000 in
theorem q757 : (Cond.lays RX5 "SandLedgerModel" "value" "J") ∈ lw_g := gm (m3 (List.mem_of_getElem? (i := 229) rfl)) rfl
set_option maxRecDepth 20000 in
theorem q758 : (Cond.soleField "SandLedgerModel" "value") ∈ lw_g := gm (m3 (List.mem_of_getElem? (i := 230) rfl)) rfl
set_option maxRecDepth 20000 in
theorem q759 : (Cond.laysFinal RX5 "SandLedgerModel" "letters" "[C") ∈ lw_g := gm (m3 (List.mem_of_getElem? (i := 231) rfl)) rfl
set_option maxRecDepth 20000 in
theorem q760 : (Cond.soleField "SandLedgerModel" "letters") ∈ lw_g := gm (m3 (List.mem_of_getElem? (i := 232) rfl)) rfl
set_option maxRecDepth 20000 in
theorem q761 : (Cond.laysFinal RX5 "SandLedgerModel" "more" "[C") ∈ lw_g := gm (m3 (List.mem_of_getElem? (i := 233) rfl)) rfl
set_option maxRecDepth 20000 in
theorem q762 : (Cond.soleField "SandLedgerModel" "more") ∈ lw_g := gm (m3 (List.mem_of_getElem? (i := 234) rfl)) rfl
set_option maxRecDepth 20000 in
theorem q763 : (Cond.laysFinal RX5 "SandLedgerModel" "others" "[C") ∈ lw_g := gm (m3 (List.mem_of_getElem? (i := 235) rfl)) rfl
set_option maxRecDepth 20000 in
theorem q764 : (Cond.soleField "SandLedgerModel" "others") ∈ lw_g := gm (m3 (List.mem_of_getElem? (i := 236) rfl)) rfl
set_option maxRecDepth 20000 in
theorem q765 : (Cond.laysFinal RX5 "SandLedgerModel" "widths" "[I") ∈ lw_g := gm (m3 (List.mem_of_getElem? (i := 237) rfl)) rfl
set_option maxRecDepth 20000 in
theorem q766 : (Cond.soleField "SandLedgerModel" "widths") ∈ lw_g := gm (m3 (List.mem_of_getElem? (i := 238) rfl)) rfl
set_option maxRecDepth 20000 in
theorem q767 : (Cond.laysFinal RX5 "SandLedgerModel" "sizes" "[I") ∈ lw_g := gm (m3 (List.mem_of_getElem? (i := 239) rfl)) rfl
set_option maxRecDepth 20000 in
theorem q768 : (Cond.soleField "SandLedgerModel" "sizes") ∈ lw_g := gm (m4 (List.mem_of_getElem? (i := 0) rfl)) rfl
set_option maxRecDepth 20000 in
theorem q769 : (Cond.laysFinal RX5 "SandLedgerModel" "cells" "[I") ∈ lw_g := gm (m4 (List.mem_of_getElem? (i := 1) rfl)) rfl
set_option maxRecDepth 20000 in
theorem q770 : (Cond.soleField "SandLedgerModel" "cells") ∈ lw_g := gm (m4 (List.mem_of_getElem? (i := 2) rfl)) rfl
set_option maxRecDepth 20000 in
theorem q771 : (Cond.laysFinal RX5 "SandLedgerModel" "carried" "[I") ∈ lw_g := gm (m4 (List.mem_of_getElem? (i := 3) rfl)) rfl
set_option maxRecDepth 20000 in
theorem q772 : (Cond.soleField "SandLedgerModel" "carried") ∈ lw_g := gm (m4 (List.mem_of_getElem? (i := 4) rfl)) rfl
set_option maxRecDepth 20000 in
theorem q773 : (Cond.superclass "SandLedgerModel" "java/lang/Object") ∈ lw_g := gm (m4 (List.mem_of_getElem? (i := 5) rfl)) rfl
set_option maxRecDepth 20000 in
theorem q774 : (Cond.arrayClass FieldType.char) ∈ lw_g := gm (m4 (List.mem_of_getElem? (i := 6) rfl)) rfl
set_option maxRecDepth 20000 in
theorem q775 : (Cond.methodLink RL (17 : Nat) yX5_sand) ∈ lw_g := gm (m4 (List.mem_of_getElem? (i := 7) rfl)) rfl
set_option maxRecDepth 20000 in
theorem q776 : (Cond.instanceMethod yX5_sand) ∈ lw_g := gm (m4 (List.mem_of_getElem? (i := 8) rfl)) rfl
set_option maxRecDepth 20000 in
theorem q777 : (Cond.selects RX5 yX5_sand yX5_sand) ∈ lw_g := gm (m4 (List.mem_of_getElem? (i := 9) rfl)) rfl
set_option maxRecDepth 20000 in
theorem q778 : (Cond.code yX5_sand cX5_sand (4 : Nat) (Option.some FieldType.int)) ∈ lw_g := gm (m4 (List.mem_of_getElem? (i := 10) rfl)) rfl
set_option maxRecDepth 20000 in
theorem q779 : (Cond.methodLink RX5 (59 : Nat) yX5_isCell) ∈ lw_g := gm (m4 (List.mem_of_getElem? (i := 11) rfl)) rfl
set_option maxRecDepth 20000 in
theorem q780 : (Cond.static yX5_isCell) ∈ lw_g := gm (m4 (List.mem_of_getElem? (i := 12) rfl)) rfl
set_option maxRecDepth 20000 in
theorem q781 : (Cond.code yX5_isCell cX5_isCell (1 : Nat) (Option.some FieldType.boolean)) ∈ lw_g := gm (m4 (List.mem_of_getElem? (i := 13) rfl)) rfl
set_option maxRecDepth 20000 in
theorem q782 : (Cond.methodLink RX5 (51 : Nat) yX5_in1) ∈ lw_g := gm (m4 (List.mem_of_getElem? (i := 14) rfl)) rfl
set_option maxRecDepth 20000 in
theorem q783 : (Cond.static yX5_in1) ∈ lw_g := gm (m4 (List.mem_of_getElem? (i := 15) rfl)) rfl
set_option maxRecDepth 20000 in
theorem q784 : (Cond.code yX5_in1 cX5_in1 (3 : Nat) (Option.some FieldType.boolean)) ∈ lw_g := gm (m4 (List.mem_of_getElem? (i := 16) rfl)) rfl
set_option maxRecDepth 20000 in
theorem q785 : (Cond.methodLink RX5 (105 : Nat) yX5_no) ∈ lw_g := gm (m4 (List.mem_of_getElem? (i := 17) rfl)) rfl
set_option maxRecDepth 20000 in
theorem q786 : (Cond.privateMethod yX5_no) ∈ lw_tbl := m4 (List.mem_of_getElem? (i := 18) rfl)
set_option maxRecDepth 20000 in
theorem q787 : (Cond.instanceMethod yX5_no) ∈ lw_g := gm (m4 (List.mem_of_getElem? (i := 19) rfl)) rfl
set_option maxRecDepth 20000 in
theorem q788 : (Cond.code yX5_no cX5_no (2 : Nat) (Option.some FieldType.int)) ∈ lw_g := gm (m4 (List.mem_of_getElem? (i := 20) rfl)) rfl
set_option maxRecDepth 20000 in
theorem q789 : (Cond.constant RX5 (50 : Nat) (-1000001 : Int32)) ∈ lw_g := gm (m4 (List.mem_of_getElem? (i := 21) rfl)) rfl
set_option maxRecDepth 20000 in
theorem q790 : (Cond.methodLink RL (21 : Nat) yX5_cell) ∈ lw_g := gm (m4 (List.mem_of_getElem? (i := 22) rfl)) rfl
set_option maxRecDepth 20000 in
theorem q791 : (Cond.instanceMethod yX5_cell) ∈ lw_g := gm (m4 (List.mem_of_getElem? (i := 23) rfl)) rfl
set_option maxRecDepth 20000 in
theorem q792 : (Cond.selects RX5 yX5_cell yX5_cell) ∈ lw_g := gm (m4 (List.mem_of_getElem? (i := 24) rfl)) rfl
set_option maxRecDepth 20000 in
theorem q793 : (Cond.code yX5_cell cX5_cell (5 : Nat) (Option.some FieldType.int)) ∈ lw_g := gm (m4 (List.mem_of_getElem? (i := 25) rfl)) rfl
set_option maxRecDepth 20000 in
theorem q794 : (Cond.methodLink RX5 (66 : Nat) yX5_spanOf) ∈ lw_g := gm (m4 (List.mem_of_getElem? (i := 26) rfl)) rfl
set_option maxRecDepth 20000 in
theorem q795 : (Cond.privateMethod yX5_spanOf) ∈ lw_tbl := m4 (List.mem_of_getElem? (i := 27) rfl)
set_option maxRecDepth 20000 in
theorem q796 : (Cond.instanceMethod yX5_spanOf) ∈ lw_g := gm (m4 (List.mem_of_getElem? (i := 28) rfl)) rfl
set_option maxRecDepth 20000 in
theorem q797 : (Cond.code yX5_spanOf cX5_spanOf (8 : Nat) (Option.some FieldType.int)) ∈ lw_g := gm (m4 (List.mem_of_getElem? (i := 29) rfl)) rfl
set_option maxRecDepth 20000 in
theorem q798 : (Cond.methodLink RX5 (55 : Nat) yX5_get) ∈ lw_g := gm (m4 (List.mem_of_getElem? (i := 30) rfl)) rfl
set_option maxRecDepth 20000 in
theorem q799 : (Cond.privateMethod yX5_get) ∈ lw_tbl := m4 (List.mem_of_getElem? (i := 31) rfl)
set_option maxRecDepth 20000 in
theorem q800 : (Cond.instanceMethod yX5_get) ∈ lw_g := gm (m4 (List.mem_of_getElem? (i := 32) rfl)) rfl
set_option maxRecDepth 20000 in
theorem q801 : (Cond.code yX5_get cX5_get (3 : Nat) (Option.some FieldType.int)) ∈ lw_g := gm (m4 (List.mem_of_getElem? (i := 33) rfl)) rfl
set_option maxRecDepth 20000 in
theorem q802 : (Cond.methodLink RL (25 : Nat) yX5_set) ∈ lw_g := gm (m4 (List.mem_of_getElem? (i := 34) rfl)) rfl
set_option maxRecDepth 20000 in
theorem q803 : (Cond.instanceMethod yX5_set) ∈ lw_g := gm (m4 (List.mem_of_getElem? (i := 35) rfl)) rfl
set_option maxRecDepth 20000 in
theorem q804 : (Cond.selects RX5 yX5_set yX5_set) ∈ lw_g := gm (m4 (List.mem_of_getElem? (i := 36) rfl)) rfl
set_option maxRecDepth 20000 in
theorem q805 : (Cond.code yX5_set cX5_set (4 : Nat) (Option.some FieldType.int)) ∈ lw_g := gm (m4 (List.mem_of_getElem? (i := 37) rfl)) rfl
set_option maxRecDepth 20000 in
theorem q806 : (Cond.methodLink RL (29 : Nat) yX5_visitor) ∈ lw_g := gm (m4 (List.mem_of_getElem? (i := 38) rfl)) rfl
set_option maxRecDepth 20000 in
theorem q807 : (Cond.instanceMethod yX5_visitor) ∈ lw_g := gm (m4 (List.mem_of_getElem? (i := 39) rfl)) rfl
set_option maxRecDepth 20000 in
theorem q808 : (Cond.selects RX5 yX5_visitor yX5_visitor) ∈ lw_g := gm (m4 (List.mem_of_getElem? (i := 40) rfl)) rfl
set_option maxRecDepth 20000 in
theorem q809 : (Cond.code yX5_visitor cX5_visitor (3 : Nat) (Option.some FieldType.int)) ∈ lw_g := gm (m4 (List.mem_of_getElem? (i := 41) rfl)) rfl
set_option maxRecDepth 20000 in
theorem q810 : (Cond.methodLink RX5 (108 : Nat) yX5_adds) ∈ lw_g := gm (m4 (List.mem_of_getElem? (i := 42) rfl)) rfl
set_option maxRecDepth 20000 in
theorem q811 : (Cond.privateMethod yX5_adds) ∈ lw_tbl := m4 (List.mem_of_getElem? (i := 43) rfl)
set_option maxRecDepth 20000 in
theorem q812 : (Cond.instanceMethod yX5_adds) ∈ lw_g := gm (m4 (List.mem_of_getElem? (i := 44) rfl)) rfl
set_option maxRecDepth 20000 in
theorem q813 : (Cond.code yX5_adds cX5_adds (3 : Nat) (Option.none : Option FieldType)) ∈ lw_g := gm (m4 (List.mem_of_getElem? (i := 45) rfl)) rfl
set_option maxRecDepth 20000 in
theorem q814 : (Cond.methodLink RX5 (83 : Nat) yX5_puts) ∈ lw_g := gm (m4 (List.mem_of_getElem? (i := 46) rfl)) rfl
set_option maxRecDepth 20000 in
theorem q815 : (Cond.privateMethod yX5_puts) ∈ lw_tbl := m4 (List.mem_of_getElem? (i := 47) rfl)
set_option maxRecDepth 20000 in
theorem q816 : (Cond.instanceMethod yX5_puts) ∈ lw_g := gm (m4 (List.mem_of_getElem? (i := 48) rfl)) rfl
set_option maxRecDepth 20000 in
theorem q817 : (Cond.code yX5_puts cX5_puts (4 : Nat) (Option.none : Option FieldType)) ∈ lw_g := gm (m4 (List.mem_of_getElem? (i := 49) rfl)) rfl
set_option maxRecDepth 20000 in
theorem q818 : (Cond.methodLink RL (33 : Nat) yX5_of) ∈ lw_g := gm (m4 (List.mem_of_getElem? (i := 50) rfl)) rfl
set_option maxRecDepth 20000 in
theorem q819 : (Cond.instanceMethod yX5_of) ∈ lw_g := gm (m4 (List.mem_of_getElem? (i := 51) rfl)) rfl
set_option maxRecDepth 20000 in
theorem q820 : (Cond.selects RX5 yX5_of yX5_of) ∈ lw_g := gm (m4 (List.mem_of_getElem? (i := 52) rfl)) rfl
set_option maxRecDepth 20000 in
theorem q821 : (Cond.code yX5_of cX5_of (3 : Nat) (Option.some FieldType.int)) ∈ lw_g := gm (m4 (List.mem_of_getElem? (i := 53) rfl)) rfl
set_option maxRecDepth 20000 in
theorem q822 : (Cond.methodLink RX5 (111 : Nat) yX5_isVisitor) ∈ lw_g := gm (m4 (List.mem_of_getElem? (i := 54) rfl)) rfl
set_option maxRecDepth 20000 in
theorem q823 : (Cond.privateMethod yX5_isVisitor) ∈ lw_tbl := m4 (List.mem_of_getElem? (i := 55) rfl)
set_option maxRecDepth 20000 in
theorem q824 : (Cond.instanceMethod yX5_isVisitor) ∈ lw_g := gm (m4 (List.mem_of_getElem? (i := 56) rfl)) rfl
set_option maxRecDepth 20000 in
theorem q825 : (Cond.code yX5_isVisitor cX5_isVisitor (2 : Nat) (Option.some FieldType.boolean)) ∈ lw_g := gm (m4 (List.mem_of_getElem? (i := 57) rfl)) rfl
set_option maxRecDepth 20000 in
theorem q826 : (Cond.methodLink RX5 (70 : Nat) yX5_raisesOf) ∈ lw_g := gm (m4 (List.mem_of_getElem? (i := 58) rfl)) rfl
set_option maxRecDepth 20000 in
theorem q827 : (Cond.privateMethod yX5_raisesOf) ∈ lw_tbl := m4 (List.mem_of_getElem? (i := 59) rfl)
set_option maxRecDepth 20000 in
theorem q828 : (Cond.instanceMethod yX5_raisesOf) ∈ lw_g := gm (m4 (List.mem_of_getElem? (i := 60) rfl)) rfl
set_option maxRecDepth 20000 in
theorem q829 : (Cond.code yX5_raisesOf cX5_raisesOf (4 : Nat) (Option.some FieldType.int)) ∈ lw_g := gm (m4 (List.mem_of_getElem? (i := 61) rfl)) rfl
set_option maxRecDepth 20000 in
theorem q830 : (Cond.methodLink RX5 (63 : Nat) yX5_less) ∈ lw_g := gm (m4 (List.mem_of_getElem? (i := 62) rfl)) rfl
set_option maxRecDepth 20000 in
theorem q831 : (Cond.static yX5_less) ∈ lw_g := gm (m4 (List.mem_of_getElem? (i := 63) rfl)) rfl
set_option maxRecDepth 20000 in
theorem q832 : (Cond.code yX5_less cX5_less (2 : Nat) (Option.some FieldType.int)) ∈ lw_g := gm (m4 (List.mem_of_getElem? (i := 64) rfl)) rfl
set_option maxRecDepth 20000 in
theorem q833 : (Cond.methodLink RX5 (73 : Nat) yX5_movesOf) ∈ lw_g := gm (m4 (List.mem_of_getElem? (i := 65) rfl)) rfl
set_option maxRecDepth 20000 in
theorem q834 : (Cond.privateMethod yX5_movesOf) ∈ lw_tbl := m4 (List.mem_of_getElem? (i := 66) rfl)
set_option maxRecDepth 20000 in
theorem q835 : (Cond.instanceMethod yX5_movesOf) ∈ lw_g := gm (m4 (List.mem_of_getElem? (i := 67) rfl)) rfl
set_option maxRecDepth 20000 in
theorem q836 : (Cond.code yX5_movesOf cX5_movesOf (2 : Nat) (Option.some FieldType.int)) ∈ lw_g := gm (m4 (List.mem_of_getElem? (i := 68) rfl)) rfl
set_option maxRecDepth 20000 in
theorem q837 : (Cond.methodLink RX5 (80 : Nat) yX5_standsNow) ∈ lw_g := gm (m4 (List.mem_of_getElem? (i := 69) rfl)) rfl
set_option maxRecDepth 20000 in
theorem q838 : (Cond.privateMethod yX5_standsNow) ∈ lw_tbl := m4 (List.mem_of_getElem? (i := 70) rfl)
set_option maxRecDepth 20000 in
theorem q839 : (Cond.instanceMethod yX5_standsNow) ∈ lw_g := gm (m4 (List.mem_of_getElem? (i := 71) rfl)) rfl
set_option maxRecDepth 20000 in
theorem q840 : (Cond.code yX5_standsNow cX5_standsNow (8 : Nat) (Option.some FieldType.boolean)) ∈ lw_g := gm (m4 (List.mem_of_getElem? (i := 72) rfl)) rfl
set_option maxRecDepth 20000 in
theorem q841 : (Cond.methodLink RL (38 : Nat) yX5_change) ∈ lw_g := gm (m4 (List.mem_of_getElem? (i := 73) rfl)) rfl
set_option maxRecDepth 20000 in
theorem q842 : (Cond.instanceMethod yX5_change) ∈ lw_g := gm (m4 (List.mem_of_getElem? (i := 74) rfl)) rfl
set_option maxRecDepth 20000 in
theorem q843 : (Cond.selects RX5 yX5_change yX5_change) ∈ lw_g := gm (m4 (List.mem_of_getElem? (i := 75) rfl)) rfl
set_option maxRecDepth 20000 in
theorem q844 : (Cond.code yX5_change cX5_change (5 : Nat) (Option.some FieldType.int)) ∈ lw_g := gm (m4 (List.mem_of_getElem? (i := 76) rfl)) rfl
set_option maxRecDepth 20000 in
theorem q845 : (Cond.methodLink RX5 (114 : Nat) yX5_leastOf) ∈ lw_g := gm (m4 (List.mem_of_getElem? (i := 77) rfl)) rfl
set_option maxRecDepth 20000 in
theorem q846 : (Cond.static yX5_leastOf) ∈ lw_g := gm (m4 (List.mem_of_getElem? (i := 78) rfl)) rfl
set_option maxRecDepth 20000 in
theorem q847 : (Cond.code yX5_leastOf cX5_leastOf (1 : Nat) (Option.some FieldType.int)) ∈ lw_g := gm (m4 (List.mem_of_getElem? (i := 79) rfl)) rfl
set_option maxRecDepth 20000 in
theorem q848 : (Cond.methodLink RX5 (117 : Nat) yX5_mostOf) ∈ lw_g := gm (m4 (List.mem_of_getElem? (i := 80) rfl)) rfl
set_option maxRecDepth 20000 in
theorem q849 : (Cond.static yX5_mostOf) ∈ lw_g := gm (m4 (List.mem_of_getElem? (i := 81) rfl)) rfl
set_option maxRecDepth 20000 in
theorem q850 : (Cond.code yX5_mostOf cX5_mostOf (1 : Nat) (Option.some FieldType.int)) ∈ lw_g := gm (m4 (List.mem_of_getElem? (i := 82) rfl)) rfl
set_option maxRecDepth 20000 in
theorem q851 : (Cond.methodLink RL (43 : Nat) yX5_come) ∈ lw_g := gm (m4 (List.mem_of_getElem? (i := 83) rfl)) rfl
set_option maxRecDepth 20000 in
theorem q852 : (Cond.instanceMethod yX5_come) ∈ lw_g := gm (m4 (List.mem_of_getElem? (i := 84) rfl)) rfl
set_option maxRecDepth 20000 in
theorem q853 : (Cond.selects RX5 yX5_come yX5_come) ∈ lw_g := gm (m4 (List.mem_of_getElem? (i := 85) rfl)) rfl
set_option maxRecDepth 20000 in
theorem q854 : (Cond.code yX5_come cX5_come (2 : Nat) (Option.some FieldType.int)) ∈ lw_g := gm (m4 (List.mem_of_getElem? (i := 86) rfl)) rfl
set_option maxRecDepth 20000 in
theorem q855 : (Cond.methodLink RX5 (94 : Nat) yX5_comes) ∈ lw_g := gm (m4 (List.mem_of_getElem? (i := 87) rfl)) rfl
set_option maxRecDepth 20000 in
theorem q856 : (Cond.privateMethod yX5_comes) ∈ lw_tbl := m4 (List.mem_of_getElem? (i := 88) rfl)
set_option maxRecDepth 20000 in
theorem q857 : (Cond.instanceMethod yX5_comes) ∈ lw_g := gm (m4 (List.mem_of_getElem? (i := 89) rfl)) rfl
set_option maxRecDepth 20000 in
theorem q858 : (Cond.code yX5_comes cX5_comes (6 : Nat) (Option.some FieldType.int)) ∈ lw_g := gm (m4 (List.mem_of_getElem? (i := 90) rfl)) rfl
set_option maxRecDepth 20000 in
theorem q859 : (Cond.methodLink RX5 (76 : Nat) yX5_getsAt) ∈ lw_g := gm (m4 (List.mem_of_getElem? (i := 91) rfl)) rfl
set_option maxRecDepth 20000 in
theorem q860 : (Cond.privateMethod yX5_getsAt) ∈ lw_tbl := m4 (List.mem_of_getElem? (i := 92) rfl)
set_option maxRecDepth 20000 in
theorem q861 : (Cond.instanceMethod yX5_getsAt) ∈ lw_g := gm (m4 (List.mem_of_getElem? (i := 93) rfl)) rfl
set_option maxRecDepth 20000 in
theorem q862 : (Cond.code yX5_getsAt cX5_getsAt (5 : Nat) (Option.some FieldType.int)) ∈ lw_g := gm (m4 (List.mem_of_getElem? (i := 94) rfl)) rfl
set_option maxRecDepth 20000 in
theorem q863 : (Cond.methodLink RL (47 : Nat) yX5_go) ∈ lw_g := gm (m4 (List.mem_of_getElem? (i := 95) rfl)) rfl
set_option maxRecDepth 20000 in
theorem q864 : (Cond.instanceMethod yX5_go) ∈ lw_g := gm (m4 (List.mem_of_getElem? (i := 96) rfl)) rfl
set_option maxRecDepth 20000 in
theorem q865 : (Cond.selects RX5 yX5_go yX5_go) ∈ lw_g := gm (m4 (List.mem_of_getElem? (i := 97) rfl)) rfl
set_option maxRecDepth 20000 in
theorem q866 : (Cond.code yX5_go cX5_go (2 : Nat) (Option.some FieldType.int)) ∈ lw_g := gm (m4 (List.mem_of_getElem? (i := 98) rfl)) rfl
set_option maxRecDepth 20000 in
theorem q867 : (Cond.constant RX5 (101 : Nat) (99999 : Int32)) ∈ lw_g := gm (m4 (List.mem_of_getElem? (i := 99) rfl)) rfl
set_option maxRecDepth 20000 in
theorem q868 : (Cond.methodLink RX5 (120 : Nat) yX5_goes) ∈ lw_g := gm (m4 (List.mem_of_getElem? (i := 100) rfl)) rfl
set_option maxRecDepth 20000 in
theorem q869 : (Cond.privateMethod yX5_goes) ∈ lw_tbl := m4 (List.mem_of_getElem? (i := 101) rfl)
set_option maxRecDepth 20000 in
theorem q870 : (Cond.instanceMethod yX5_goes) ∈ lw_g := gm (m4 (List.mem_of_getElem? (i := 102) rfl)) rfl
set_option maxRecDepth 20000 in
theorem q871 : (Cond.code yX5_goes cX5_goes (3 : Nat) (Option.none : Option FieldType)) ∈ lw_g := gm (m4 (List.mem_of_getElem? (i := 103) rfl)) rfl
set_option maxRecDepth 20000 in
theorem q872 : (Cond.methodLink RX5 (102 : Nat) yX5_day) ∈ lw_g := gm (m4 (List.mem_of_getElem? (i := 104) rfl)) rfl
set_option maxRecDepth 20000 in
theorem q873 : (Cond.privateMethod yX5_day) ∈ lw_tbl := m4 (List.mem_of_getElem? (i := 105) rfl)
set_option maxRecDepth 20000 in
theorem q874 : (Cond.instanceMethod yX5_day) ∈ lw_g := gm (m4 (List.mem_of_getElem? (i := 106) rfl)) rfl
set_option maxRecDepth 20000 in
theorem q875 : (Cond.code yX5_day cX5_day (3 : Nat) (Option.none : Option FieldType)) ∈ lw_g := gm (m4 (List.mem_of_getElem? (i := 107) rfl)) rfl
set_option maxRecDepth 20000 in
theorem q876 : (Cond.methodLink RX5 (87 : Nat) yX5_isDue) ∈ lw_g := gm (m4 (List.mem_of_getElem? (i := 108) rfl)) rfl
set_option maxRecDepth 20000 in
theorem q877 : (Cond.privateMethod yX5_isDue) ∈ lw_tbl := m4 (List.mem_of_getElem? (i := 109) rfl)
set_option maxRecDepth 20000 in
theorem q878 : (Cond.instanceMethod yX5_isDue) ∈ lw_g := gm (m4 (List.mem_of_getElem? (i := 110) rfl)) rfl
set_option maxRecDepth 20000 in
theorem q879 : (Cond.code yX5_isDue cX5_isDue (2 : Nat) (Option.some FieldType.boolean)) ∈ lw_g := gm (m4 (List.mem_of_getElem? (i := 111) rfl)) rfl
set_option maxRecDepth 20000 in
theorem q880 : (Cond.methodLink RX5 (97 : Nat) yX5_slides) ∈ lw_g := gm (m4 (List.mem_of_getElem? (i := 112) rfl)) rfl
set_option maxRecDepth 20000 in
theorem q881 : (Cond.privateMethod yX5_slides) ∈ lw_tbl := m4 (List.mem_of_getElem? (i := 113) rfl)
set_option maxRecDepth 20000 in
theorem q882 : (Cond.instanceMethod yX5_slides) ∈ lw_g := gm (m4 (List.mem_of_getElem? (i := 114) rfl)) rfl
set_option maxRecDepth 20000 in
theorem q883 : (Cond.code yX5_slides cX5_slides (3 : Nat) (Option.none : Option FieldType)) ∈ lw_g := gm (m4 (List.mem_of_getElem? (i := 115) rfl)) rfl
set_option maxRecDepth 20000 in
theorem q884 : (Cond.methodLink RX5 (123 : Nat) yX5_roadNow) ∈ lw_g := gm (m4 (List.mem_of_getElem? (i := 116) rfl)) rfl
set_option maxRecDepth 20000 in
theorem q885 : (Cond.privateMethod yX5_roadNow) ∈ lw_tbl := m4 (List.mem_of_getElem? (i := 117) rfl)
set_option maxRecDepth 20000 in
theorem q886 : (Cond.instanceMethod yX5_roadNow) ∈ lw_g := gm (m4 (List.mem_of_getElem? (i := 118) rfl)) rfl
set_option maxRecDepth 20000 in
theorem q887 : (Cond.code yX5_roadNow cX5_roadNow (4 : Nat) (Option.some FieldType.int)) ∈ lw_g := gm (m4 (List.mem_of_getElem? (i := 119) rfl)) rfl
set_option maxRecDepth 20000 in
theorem q888 : (Cond.methodLink RL (51 : Nat) yX5_now) ∈ lw_g := gm (m4 (List.mem_of_getElem? (i := 120) rfl)) rfl
set_option maxRecDepth 20000 in
theorem q889 : (Cond.instanceMethod yX5_now) ∈ lw_g := gm (m4 (List.mem_of_getElem? (i := 121) rfl)) rfl
set_option maxRecDepth 20000 in
theorem q890 : (Cond.selects RX5 yX5_now yX5_now) ∈ lw_g := gm (m4 (List.mem_of_getElem? (i := 122) rfl)) rfl
set_option maxRecDepth 20000 in
theorem q891 : (Cond.code yX5_now cX5_now (2 : Nat) (Option.some FieldType.int)) ∈ lw_g := gm (m4 (List.mem_of_getElem? (i := 123) rfl)) rfl
set_option maxRecDepth 20000 in
theorem q892 : (Cond.methodLink RX5 (127 : Nat) yX5_sands) ∈ lw_g := gm (m4 (List.mem_of_getElem? (i := 124) rfl)) rfl
set_option maxRecDepth 20000 in
theorem q893 : (Cond.privateMethod yX5_sands) ∈ lw_tbl := m4 (List.mem_of_getElem? (i := 125) rfl)
set_option maxRecDepth 20000 in
theorem q894 : (Cond.instanceMethod yX5_sands) ∈ lw_g := gm (m4 (List.mem_of_getElem? (i := 126) rfl)) rfl
set_option maxRecDepth 20000 in
theorem q895 : (Cond.code yX5_sands cX5_sands (3 : Nat) (Option.some FieldType.int)) ∈ lw_g := gm (m4 (List.mem_of_getElem? (i := 127) rfl)) rfl
set_option maxRecDepth 20000 in
theorem q896 : (Cond.methodLink RX5 (130 : Nat) yX5_setOf) ∈ lw_g := gm (m4 (List.mem_of_getElem? (i := 128) rfl)) rfl
set_option maxRecDepth 20000 in
theorem q897 : (Cond.privateMethod yX5_setOf) ∈ lw_tbl := m4 (List.mem_of_getElem? (i := 129) rfl)
set_option maxRecDepth 20000 in
theorem q898 : (Cond.instanceMethod yX5_setOf) ∈ lw_g := gm (m4 (List.mem_of_getElem? (i := 130) rfl)) rfl
set_option maxRecDepth 20000 in
theorem q899 : (Cond.code yX5_setOf cX5_setOf (4 : Nat) (Option.some FieldType.int)) ∈ lw_g := gm (m4 (List.mem_of_getElem? (i := 131) rfl)) rfl
set_option maxRecDepth 20000 in
theorem q900 : (Cond.methodLink RX5 (134 : Nat) yX5_highest) ∈ lw_g := gm (m4 (List.mem_of_getElem? (i := 132) rfl)) rfl
set_option maxRecDepth 20000 in
theorem q901 : (Cond.privateMethod yX5_highest) ∈ lw_tbl := m4 (List.mem_of_getElem? (i := 133) rfl)
set_option maxRecDepth 20000 in
theorem q902 : (Cond.instanceMethod yX5_highest) ∈ lw_g := gm (m4 (List.mem_of_getElem? (i := 134) rfl)) rfl
set_option maxRecDepth 20000 in
theorem q903 : (Cond.code yX5_highest cX5_highest (3 : Nat) (Option.some FieldType.int)) ∈ lw_g := gm (m4 (List.mem_of_getElem? (i := 135) rfl)) rfl
set_option maxRecDepth 20000 in
theorem q904 : (Cond.methodLink RX5 (137 : Nat) yX5_builds) ∈ lw_g := gm (m4 (List.mem_of_getElem? (i := 136) rfl)) rfl
set_option maxRecDepth 20000 in
theorem q905 : (Cond.privateMethod yX5_builds) ∈ lw_tbl := m4 (List.mem_of_getElem? (i := 137) rfl)
set_option maxRecDepth 20000 in
theorem q906 : (Cond.instanceMethod yX5_builds) ∈ lw_g := gm (m4 (List.mem_of_getElem? (i := 138) rfl)) rfl
set_option maxRecDepth 20000 in
theorem q907 : (Cond.code yX5_builds cX5_builds (3 : Nat) (Option.some FieldType.int)) ∈ lw_g := gm (m4 (List.mem_of_getElem? (i := 139) rfl)) rfl
set_option maxRecDepth 20000 in
theorem q908 : (Cond.methodLink RL (55 : Nat) yX5_high) ∈ lw_g := gm (m4 (List.mem_of_getElem? (i := 140) rfl)) rfl
set_option maxRecDepth 20000 in
theorem q909 : (Cond.instanceMethod yX5_high) ∈ lw_g := gm (m4 (List.mem_of_getElem? (i := 141) rfl)) rfl
set_option maxRecDepth 20000 in
theorem q910 : (Cond.selects RX5 yX5_high yX5_high) ∈ lw_g := gm (m4 (List.mem_of_getElem? (i := 142) rfl)) rfl
set_option maxRecDepth 20000 in
theorem q911 : (Cond.code yX5_high cX5_high (3 : Nat) (Option.some FieldType.int)) ∈ lw_g := gm (m4 (List.mem_of_getElem? (i := 143) rfl)) rfl
set_option maxRecDepth 20000 in
theorem q912 : (Cond.methodLink RX5 (146 : Nat) yX5_thenAt) ∈ lw_g := gm (m4 (List.mem_of_getElem? (i := 144) rfl)) rfl
set_option maxRecDepth 20000 in
theorem q913 : (Cond.privateMethod yX5_thenAt) ∈ lw_tbl := m4 (List.mem_of_getElem? (i := 145) rfl)
set_option maxRecDepth 20000 in
theorem q914 : (Cond.instanceMethod yX5_thenAt) ∈ lw_g := gm (m4 (List.mem_of_getElem? (i := 146) rfl)) rfl
set_option maxRecDepth 20000 in
theorem q915 : (Cond.code yX5_thenAt cX5_thenAt (4 : Nat) (Option.some FieldType.int)) ∈ lw_g := gm (m4 (List.mem_of_getElem? (i := 147) rfl)) rfl
set_option maxRecDepth 20000 in
theorem q916 : (Cond.methodLink RX5 (140 : Nat) yX5_setsAside) ∈ lw_g := gm (m4 (List.mem_of_getElem? (i := 148) rfl)) rfl
set_option maxRecDepth 20000 in
theorem q917 : (Cond.privateMethod yX5_setsAside) ∈ lw_tbl := m4 (List.mem_of_getElem? (i := 149) rfl)
set_option maxRecDepth 20000 in
theorem q918 : (Cond.instanceMethod yX5_setsAside) ∈ lw_g := gm (m4 (List.mem_of_getElem? (i := 150) rfl)) rfl
set_option maxRecDepth 20000 in
theorem q919 : (Cond.code yX5_setsAside cX5_setsAside (2 : Nat) (Option.none : Option FieldType)) ∈ lw_g := gm (m4 (List.mem_of_getElem? (i := 151) rfl)) rfl
set_option maxRecDepth 20000 in
theorem q920 : (Cond.methodLink RX5 (143 : Nat) yX5_laysBack) ∈ lw_g := gm (m4 (List.mem_of_getElem? (i := 152) rfl)) rfl
set_option maxRecDepth 20000 in
theorem q921 : (Cond.privateMethod yX5_laysBack) ∈ lw_tbl := m4 (List.mem_of_getElem? (i := 153) rfl)
set_option maxRecDepth 20000 in
theorem q922 : (Cond.instanceMethod yX5_laysBack) ∈ lw_g := gm (m4 (List.mem_of_getElem? (i := 154) rfl)) rfl
set_option maxRecDepth 20000 in
theorem q923 : (Cond.code yX5_laysBack cX5_laysBack (2 : Nat) (Option.none : Option FieldType)) ∈ lw_g := gm (m4 (List.mem_of_getElem? (i := 155) rfl)) rfl
set_option maxRecDepth 20000 in
theorem q924 : (Cond.methodLink RL (59 : Nat) yX5_built) ∈ lw_g := gm (m4 (List.mem_of_getElem? (i := 156) rfl)) rfl
set_option maxRecDepth 20000 in
theorem q925 : (Cond.instanceMethod yX5_built) ∈ lw_g := gm (m4 (List.mem_of_getElem? (i := 157) rfl)) rfl
set_option maxRecDepth 20000 in
theorem q926 : (Cond.selects RX5 yX5_built yX5_built) ∈ lw_g := gm (m4 (List.mem_of_getElem? (i := 158) rfl)) rfl
set_option maxRecDepth 20000 in
theorem q927 : (Cond.code yX5_built cX5_built (3 : Nat) (Option.some FieldType.int)) ∈ lw_g := gm (m4 (List.mem_of_getElem? (i := 159) rfl)) rfl
set_option maxRecDepth 20000 in
theorem q928 : (Cond.methodLink RL (63 : Nat) yX5_stands) ∈ lw_g := gm (m4 (List.mem_of_getElem? (i := 160) rfl)) rfl
set_option maxRecDepth 20000 in
theorem q929 : (Cond.instanceMethod yX5_stands) ∈ lw_g := gm (m4 (List.mem_of_getElem? (i := 161) rfl)) rfl
set_option maxRecDepth 20000 in
theorem q930 : (Cond.selects RX5 yX5_stands yX5_stands) ∈ lw_g := gm (m4 (List.mem_of_getElem? (i := 162) rfl)) rfl
set_option maxRecDepth 20000 in
theorem q931 : (Cond.code yX5_stands cX5_stands (2 : Nat) (Option.some FieldType.int)) ∈ lw_g := gm (m4 (List.mem_of_getElem? (i := 163) rfl)) rfl
set_option maxRecDepth 20000 in
theorem q932 : (Cond.methodLink RX5 (152 : Nat) yX5_firstBy) ∈ lw_g := gm (m4 (List.mem_of_getElem? (i := 164) rfl)) rfl
set_option maxRecDepth 20000 in
theorem q933 : (Cond.privateMethod yX5_firstBy) ∈ lw_tbl := m4 (List.mem_of_getElem? (i := 165) rfl)
set_option maxRecDepth 20000 in
theorem q934 : (Cond.instanceMethod yX5_firstBy) ∈ lw_g := gm (m4 (List.mem_of_getElem? (i := 166) rfl)) rfl
set_option maxRecDepth 20000 in
theorem q935 : (Cond.code yX5_firstBy cX5_firstBy (5 : Nat) (Option.some FieldType.int)) ∈ lw_g := gm (m4 (List.mem_of_getElem? (i := 167) rfl)) rfl
set_option maxRecDepth 20000 in
theorem q936 : (Cond.methodLink RX5 (149 : Nat) yX5_isSo) ∈ lw_g := gm (m4 (List.mem_of_getElem? (i := 168) rfl)) rfl
set_option maxRecDepth 20000 in
theorem q937 : (Cond.privateMethod yX5_isSo) ∈ lw_tbl := m4 (List.mem_of_getElem? (i := 169) rfl)
set_option maxRecDepth 20000 in
theorem q938 : (Cond.instanceMethod yX5_isSo) ∈ lw_g := gm (m4 (List.mem_of_getElem? (i := 170) rfl)) rfl
set_option maxRecDepth 20000 in
theorem q939 : (Cond.code yX5_isSo cX5_isSo (4 : Nat) (Option.some FieldType.boolean)) ∈ lw_g := gm (m4 (List.mem_of_getElem? (i := 171) rfl)) rfl
set_option maxRecDepth 20000 in
theorem q940 : (Cond.methodLink RL (67 : Nat) yX5_road) ∈ lw_g := gm (m4 (List.mem_of_getElem? (i := 172) rfl)) rfl
set_option maxRecDepth 20000 in
theorem q941 : (Cond.instanceMethod yX5_road) ∈ lw_g := gm (m4 (List.mem_of_getElem? (i := 173) rfl)) rfl
set_option maxRecDepth 20000 in
theorem q942 : (Cond.selects RX5 yX5_road yX5_road) ∈ lw_g := gm (m4 (List.mem_of_getElem? (i := 174) rfl)) rfl
set_option maxRecDepth 20000 in
theorem q943 : (Cond.code yX5_road cX5_road (2 : Nat) (Option.some FieldType.int)) ∈ lw_g := gm (m4 (List.mem_of_getElem? (i := 175) rfl)) rfl
set_option maxRecDepth 20000 in
theorem q944 : (Cond.methodLink RL (71 : Nat) yX5_both) ∈ lw_g := gm (m4 (List.mem_of_getElem? (i := 176) rfl)) rfl
set_option maxRecDepth 20000 in
theorem q945 : (Cond.instanceMethod yX5_both) ∈ lw_g := gm (m4 (List.mem_of_getElem? (i := 177) rfl)) rfl
set_option maxRecDepth 20000 in
theorem q946 : (Cond.selects RX5 yX5_both yX5_both) ∈ lw_g := gm (m4 (List.mem_of_getElem? (i := 178) rfl)) rfl
set_option maxRecDepth 20000 in
theorem q947 : (Cond.code yX5_both cX5_both (3 : Nat) (Option.some FieldType.int)) ∈ lw_g := gm (m4 (List.mem_of_getElem? (i := 179) rfl)) rfl
set_option maxRecDepth 20000 in
theorem q948 : (Cond.methodLink RL (76 : Nat) yX5_empty) ∈ lw_g := gm (m4 (List.mem_of_getElem? (i := 180) rfl)) rfl
set_option maxRecDepth 20000 in
theorem q949 : (Cond.instanceMethod yX5_empty) ∈ lw_g := gm (m4 (List.mem_of_getElem? (i := 181) rfl)) rfl
set_option maxRecDepth 20000 in
theorem q950 : (Cond.selects RX5 yX5_empty yX5_empty) ∈ lw_g := gm (m4 (List.mem_of_getElem? (i := 182) rfl)) rfl
set_option maxRecDepth 20000 in
theorem q951 : (Cond.code yX5_empty cX5_empty (1 : Nat) (Option.some FieldType.int)) ∈ lw_g := gm (m4 (List.mem_of_getElem? (i := 183) rfl)) rfl
set_option maxRecDepth 20000 in
theorem q952 : (Cond.methodLink RL (80 : Nat) yX5_fromFor) ∈ lw_g := gm (m4 (List.mem_of_getElem? (i := 184) rfl)) rfl
set_option maxRecDepth 20000 in
theorem q953 : (Cond.instanceMethod yX5_fromFor) ∈ lw_g := gm (m4 (List.mem_of_getElem? (i := 185) rfl)) rfl
set_option maxRecDepth 20000 in
theorem q954 : (Cond.selects RX5 yX5_fromFor yX5_fromFor) ∈ lw_g := gm (m4 (List.mem_of_getElem? (i := 186) rfl)) rfl
set_option maxRecDepth 20000 in
theorem q955 : (Cond.code yX5_fromFor cX5_fromFor (3 : Nat) (Option.some FieldType.int)) ∈ lw_g := gm (m4 (List.mem_of_getElem? (i := 187) rfl)) rfl
set_option maxRecDepth 20000 in
theorem q956 : (Cond.methodLink RX5 (158 : Nat) yX5_isSoon) ∈ lw_g := gm (m4 (List.mem_of_getElem? (i := 188) rfl)) rfl
set_option maxRecDepth 20000 in
theorem q957 : (Cond.static yX5_isSoon) ∈ lw_g := gm (m4 (List.mem_of_getElem? (i := 189) rfl)) rfl
set_option maxRecDepth 20000 in
theorem q958 : (Cond.code yX5_isSoon cX5_isSoon (1 : Nat) (Option.some FieldType.boolean)) ∈ lw_g := gm (m4 (List.mem_of_getElem? (i := 190) rfl)) rfl
set_option maxRecDepth 20000 in
theorem q959 : (Cond.methodLink RX5 (161 : Nat) yX5_longestBy) ∈ lw_g := gm (m4 (List.mem_of_getElem? (i := 191) rfl)) rfl
set_option maxRecDepth 20000 in
theorem q960 : (Cond.privateMethod yX5_longestBy) ∈ lw_tbl := m4 (List.mem_of_getElem? (i := 192) rfl)
set_option maxRecDepth 20000 in
theorem q961 : (Cond.instanceMethod yX5_longestBy) ∈ lw_g := gm (m4 (List.mem_of_getElem? (i := 193) rfl)) rfl
set_option maxRecDepth 20000 in
theorem q962 : (Cond.code yX5_longestBy cX5_longestBy (8 : Nat) (Option.some FieldType.int)) ∈ lw_g := gm (m4 (List.mem_of_getElem? (i := 194) rfl)) rfl
set_option maxRecDepth 20000 in
theorem q963 : (Cond.methodLink RX5 (155 : Nat) yX5_thenOf) ∈ lw_g := gm (m4 (List.mem_of_getElem? (i := 195) rfl)) rfl
set_option maxRecDepth 20000 in
theorem q964 : (Cond.privateMethod yX5_thenOf) ∈ lw_tbl := m4 (List.mem_of_getElem? (i := 196) rfl)
set_option maxRecDepth 20000 in
theorem q965 : (Cond.instanceMethod yX5_thenOf) ∈ lw_g := gm (m4 (List.mem_of_getElem? (i := 197) rfl)) rfl
set_option maxRecDepth 20000 in
theorem q966 : (Cond.code yX5_thenOf cX5_thenOf (4 : Nat) (Option.some FieldType.int)) ∈ lw_g := gm (m4 (List.mem_of_getElem? (i := 198) rfl)) rfl
set_option maxRecDepth 20000 in
theorem q967 : (Cond.methodLink RL (84 : Nat) yX5_wideFor) ∈ lw_g := gm (m4 (List.mem_of_getElem? (i := 199) rfl)) rfl
set_option maxRecDepth 20000 in
theorem q968 : (Cond.instanceMethod yX5_wideFor) ∈ lw_g := gm (m4 (List.mem_of_getElem? (i := 200) rfl)) rfl
set_option maxRecDepth 20000 in
theorem q969 : (Cond.selects RX5 yX5_wideFor yX5_wideFor) ∈ lw_g := gm (m4 (List.mem_of_getElem? (i := 201) rfl)) rfl
set_option maxRecDepth 20000 in
theorem q970 : (Cond.code yX5_wideFor cX5_wideFor (6 : Nat) (Option.some FieldType.int)) ∈ lw_g := gm (m4 (List.mem_of_getElem? (i := 202) rfl)) rfl
set_option maxRecDepth 20000 in
theorem q971 : (Cond.methodLink RL (88 : Nat) yX5_eachFor) ∈ lw_g := gm (m4 (List.mem_of_getElem? (i := 203) rfl)) rfl
set_option maxRecDepth 20000 in
theorem q972 : (Cond.instanceMethod yX5_eachFor) ∈ lw_g := gm (m4 (List.mem_of_getElem? (i := 204) rfl)) rfl
set_option maxRecDepth 20000 in
theorem q973 : (Cond.selects RX5 yX5_eachFor yX5_eachFor) ∈ lw_g := gm (m4 (List.mem_of_getElem? (i := 205) rfl)) rfl
set_option maxRecDepth 20000 in
theorem q974 : (Cond.code yX5_eachFor cX5_eachFor (4 : Nat) (Option.some FieldType.int)) ∈ lw_g := gm (m4 (List.mem_of_getElem? (i := 206) rfl)) rfl
set_option maxRecDepth 20000 in
theorem q975 : (Cond.methodLink RL (92 : Nat) yX5_kindFor) ∈ lw_g := gm (m4 (List.mem_of_getElem? (i := 207) rfl)) rfl
set_option maxRecDepth 20000 in
theorem q976 : (Cond.instanceMethod yX5_kindFor) ∈ lw_g := gm (m4 (List.mem_of_getElem? (i := 208) rfl)) rfl
set_option maxRecDepth 20000 in
theorem q977 : (Cond.selects RX5 yX5_kindFor yX5_kindFor) ∈ lw_g := gm (m4 (List.mem_of_getElem? (i := 209) rfl)) rfl
set_option maxRecDepth 20000 in
theorem q978 : (Cond.code yX5_kindFor cX5_kindFor (3 : Nat) (Option.some FieldType.int)) ∈ lw_g := gm (m4 (List.mem_of_getElem? (i := 210) rfl)) rfl
set_option maxRecDepth 20000 in
theorem q979 : (Cond.methodLink RL (96 : Nat) yX5_windFor) ∈ lw_g := gm (m4 (List.mem_of_getElem? (i := 211) rfl)) rfl
set_option maxRecDepth 20000 in
theorem q980 : (Cond.instanceMethod yX5_windFor) ∈ lw_g := gm (m4 (List.mem_of_getElem? (i := 212) rfl)) rfl
set_option maxRecDepth 20000 in
theorem q981 : (Cond.selects RX5 yX5_windFor yX5_windFor) ∈ lw_g := gm (m4 (List.mem_of_getElem? (i := 213) rfl)) rfl
set_option maxRecDepth 20000 in
theorem q982 : (Cond.code yX5_windFor cX5_windFor (4 : Nat) (Option.some FieldType.int)) ∈ lw_g := gm (m4 (List.mem_of_getElem? (i := 214) rfl)) rfl
set_option maxRecDepth 20000 in
theorem q983 : (Cond.methodLink RL (100 : Nat) yX5_away) ∈ lw_g := gm (m4 (List.mem_of_getElem? (i := 215) rfl)) rfl
set_option maxRecDepth 20000 in
theorem q984 : (Cond.instanceMethod yX5_away) ∈ lw_g := gm (m4 (List.mem_of_getElem? (i := 216) rfl)) rfl
set_option maxRecDepth 20000 in
theorem q985 : (Cond.selects RX5 yX5_away yX5_away) ∈ lw_g := gm (m4 (List.mem_of_getElem? (i := 217) rfl)) rfl
set_option maxRecDepth 20000 in
theorem q986 : (Cond.code yX5_away cX5_away (6 : Nat) (Option.some FieldType.int)) ∈ lw_g := gm (m4 (List.mem_of_getElem? (i := 218) rfl)) rfl
set_option maxRecDepth 20000 in
theorem q987 : (Cond.methodLink RX5 (164 : Nat) yX5_bits) ∈ lw_g := gm (m4 (List.mem_of_getElem? (i := 219) rfl)) rfl
set_option maxRecDepth 20000 in
theorem q988 : (Cond.static yX5_bits) ∈ lw_g := gm (m4 (List.mem_of_getElem? (i := 220) rfl)) rfl
set_option maxRecDepth 20000 in
theorem q989 : (Cond.code yX5_bits cX5_bits (3 : Nat) (Option.some FieldType.int)) ∈ lw_g := gm (m4 (List.mem_of_getElem? (i := 221) rfl)) rfl
set_option maxRecDepth 20000 in
theorem q990 : (Cond.methodLink RX5 (167 : Nat) yX5_standsWithout) ∈ lw_g := gm (m4 (List.mem_of_getElem? (i := 222) rfl)) rfl
set_option maxRecDepth 20000 in
theorem q991 : (Cond.privateMethod yX5_standsWithout) ∈ lw_tbl := m4 (List.mem_of_getElem? (i := 223) rfl)
set_option maxRecDepth 20000 in
theorem q992 : (Cond.instanceMethod yX5_standsWithout) ∈ lw_g := gm (m4 (List.mem_of_getElem? (i := 224) rfl)) rfl
set_option maxRecDepth 20000 in
theorem q993 : (Cond.code yX5_standsWithout cX5_standsWithout (5 : Nat) (Option.some FieldType.boolean)) ∈ lw_g := gm (m4 (List.mem_of_getElem? (i := 225) rfl)) rfl
set_option maxRecDepth 20000 in
theorem q994 : (Cond.methodLink RL (104 : Nat) yX5_fits) ∈ lw_g := gm (m4 (List.mem_of_getElem? (i := 226) rfl)) rfl
set_option maxRecDepth 20000 in
theorem q995 : (Cond.instanceMethod yX5_fits) ∈ lw_g := gm (m4 (List.mem_of_getElem? (i := 227) rfl)) rfl
set_option maxRecDepth 20000 in
theorem q996 : (Cond.selects RX5 yX5_fits yX5_fits) ∈ lw_g := gm (m4 (List.mem_of_getElem? (i := 228) rfl)) rfl
set_option maxRecDepth 20000 in
theorem q997 : (Cond.code yX5_fits cX5_fits (5 : Nat) (Option.some FieldType.int)) ∈ lw_g := gm (m4 (List.mem_of_getElem? (i := 229) rfl)) rfl
set_option maxRecDepth 20000 in
theorem q998 : (Cond.methodLink RX5 (183 : Nat) yX5_wrongTold) ∈ lw_g := gm (m4 (List.mem_of_getElem? (i := 230) rfl)) rfl
set_option maxRecDepth 20000 in
theorem q999 : (Cond.privateMethod yX5_wrongTold) ∈ lw_tbl := m4 (List.mem_of_getElem? (i := 231) rfl)
set_option maxRecDepth 20000 in
theorem q1000 : (Cond.instanceMethod yX5_wrongTold) ∈ lw_g := gm (m4 (List.mem_of_getElem? (i := 232) rfl)) rfl
set_option maxRecDepth 20000 in
theorem q1001 : (Cond.code yX5_wrongTold cX5_wrongTold (5 : Nat) (Option.some FieldType.int)) ∈ lw_g := gm (m4 (List.mem_of_getElem? (i := 233) rfl)) rfl
set_option maxRecDepth 20000 in
theorem q1002 : (Cond.methodLink RX5 (173 : Nat) yX5_wrongSheet) ∈ lw_g := gm (m4 (List.mem_of_getElem? (i := 234) rfl)) rfl
set_option maxRecDepth 20000 in
theorem q1003 : (Cond.privateMethod yX5_wrongSheet) ∈ lw_tbl := m4 (List.mem_of_getElem? (i := 235) rfl)
set_option maxRecDepth 20000 in
theorem q1004 : (Cond.instanceMethod yX5_wrongSheet) ∈ lw_g := gm (m4 (List.mem_of_getElem? (i := 236) rfl)) rfl
set_option maxRecDepth 20000 in
theorem q1005 : (Cond.code yX5_wrongSheet cX5_wrongSheet (2 : Nat) (Option.some FieldType.int)) ∈ lw_g := gm (m4 (List.mem_of_getElem? (i := 237) rfl)) rfl
set_option maxRecDepth 20000 in
theorem q1006 : (Cond.methodLink RX5 (170 : Nat) yX5_isSheet) ∈ lw_g := gm (m4 (List.mem_of_getElem? (i := 238) rfl)) rfl
set_option maxRecDepth 20000 in
theorem q1007 : (Cond.static yX5_isSheet) ∈ lw_g := gm (m4 (List.mem_of_getElem? (i := 239) rfl)) rfl
set_option maxRecDepth 20000 in
theorem q1008 : (Cond.code yX5_isSheet cX5_isSheet (1 : Nat) (Option.some FieldType.boolean)) ∈ lw_g := gm (m5 (List.mem_of_getElem? (i := 0) rfl)) rfl
set_option maxRecDepth 20000 in
theorem q1009 : (Cond.methodLink RX5 (186 : Nat) yX5_allThatFit) ∈ lw_g := gm (m5 (List.mem_of_getElem? (i := 1) rfl)) rfl
set_option maxRecDepth 20000 in
theorem q1010 : (Cond.privateMethod yX5_allThatFit) ∈ lw_tbl := m5 (List.mem_of_getElem? (i := 2) rfl)
set_option maxRecDepth 20000 in
theorem q1011 : (Cond.instanceMethod yX5_allThatFit) ∈ lw_g := gm (m5 (List.mem_of_getElem? (i := 3) rfl)) rfl
set_option maxRecDepth 20000 in
theorem q1012 : (Cond.code yX5_allThatFit cX5_allThatFit (7 : Nat) (Option.some FieldType.int)) ∈ lw_g := gm (m5 (List.mem_of_getElem? (i := 4) rfl)) rfl
set_option maxRecDepth 20000 in
theorem q1013 : (Cond.methodLink RX5 (179 : Nat) yX5_fitsAs) ∈ lw_g := gm (m5 (List.mem_of_getElem? (i := 5) rfl)) rfl
set_option maxRecDepth 20000 in
theorem q1014 : (Cond.privateMethod yX5_fitsAs) ∈ lw_tbl := m5 (List.mem_of_getElem? (i := 6) rfl)
set_option maxRecDepth 20000 in
theorem q1015 : (Cond.instanceMethod yX5_fitsAs) ∈ lw_g := gm (m5 (List.mem_of_getElem? (i := 7) rfl)) rfl
set_option maxRecDepth 20000 in
theorem q1016 : (Cond.code yX5_fitsAs cX5_fitsAs (8 : Nat) (Option.some FieldType.boolean)) ∈ lw_g := gm (m5 (List.mem_of_getElem? (i := 8) rfl)) rfl
set_option maxRecDepth 20000 in
theorem q1017 : (Cond.methodLink RX5 (176 : Nat) yX5_told) ∈ lw_g := gm (m5 (List.mem_of_getElem? (i := 9) rfl)) rfl
set_option maxRecDepth 20000 in
theorem q1018 : (Cond.privateMethod yX5_told) ∈ lw_tbl := m5 (List.mem_of_getElem? (i := 10) rfl)
set_option maxRecDepth 20000 in
theorem q1019 : (Cond.instanceMethod yX5_told) ∈ lw_g := gm (m5 (List.mem_of_getElem? (i := 11) rfl)) rfl
set_option maxRecDepth 20000 in
theorem q1020 : (Cond.code yX5_told cX5_told (3 : Nat) (Option.some FieldType.int)) ∈ lw_g := gm (m5 (List.mem_of_getElem? (i := 12) rfl)) rfl
set_option maxRecDepth 20000 in
theorem q1021 : (Cond.methodLink RL (108 : Nat) yX5_kinds) ∈ lw_g := gm (m5 (List.mem_of_getElem? (i := 13) rfl)) rfl
set_option maxRecDepth 20000 in
theorem q1022 : (Cond.instanceMethod yX5_kinds) ∈ lw_g := gm (m5 (List.mem_of_getElem? (i := 14) rfl)) rfl
set_option maxRecDepth 20000 in
theorem q1023 : (Cond.selects RX5 yX5_kinds yX5_kinds) ∈ lw_g := gm (m5 (List.mem_of_getElem? (i := 15) rfl)) rfl
set_option maxRecDepth 20000 in
theorem q1024 : (Cond.code yX5_kinds cX5_kinds (5 : Nat) (Option.some FieldType.int)) ∈ lw_g := gm (m5 (List.mem_of_getElem? (i := 16) rfl)) rfl
set_option maxRecDepth 20000 in
theorem q1025 : (Cond.methodLink RL (112 : Nat) yX5_comings) ∈ lw_g := gm (m5 (List.mem_of_getElem? (i := 17) rfl)) rfl
set_option maxRecDepth 20000 in
theorem q1026 : (Cond.instanceMethod yX5_comings) ∈ lw_g := gm (m5 (List.mem_of_getElem? (i := 18) rfl)) rfl
set_option maxRecDepth 20000 in
theorem q1027 : (Cond.selects RX5 yX5_comings yX5_comings) ∈ lw_g := gm (m5 (List.mem_of_getElem? (i := 19) rfl)) rfl
set_option maxRecDepth 20000 in
theorem q1028 : (Cond.code yX5_comings cX5_comings (6 : Nat) (Option.some FieldType.int)) ∈ lw_g := gm (m5 (List.mem_of_getElem? (i := 20) rfl)) rfl
set_option maxRecDepth 20000 in
theorem q1029 : (Cond.methodLink RX5 (191 : Nat) yX5_draw) ∈ lw_g := gm (m5 (List.mem_of_getElem? (i := 21) rfl)) rfl
set_option maxRecDepth 20000 in
theorem q1030 : (Cond.privateMethod yX5_draw) ∈ lw_tbl := m5 (List.mem_of_getElem? (i := 22) rfl)
set_option maxRecDepth 20000 in
theorem q1031 : (Cond.instanceMethod yX5_draw) ∈ lw_g := gm (m5 (List.mem_of_getElem? (i := 23) rfl)) rfl
set_option maxRecDepth 20000 in
theorem q1032 : (Cond.code yX5_draw cX5_draw (1 : Nat) (Option.some FieldType.int)) ∈ lw_g := gm (m5 (List.mem_of_getElem? (i := 24) rfl)) rfl
set_option maxRecDepth 20000 in
theorem q1033 : (Cond.constant RX5 (190 : Nat) (1103515245 : Int32)) ∈ lw_g := gm (m5 (List.mem_of_getElem? (i := 25) rfl)) rfl
set_option maxRecDepth 20000 in
theorem q1034 : (Cond.methodLink RL (117 : Nat) yX5_odds) ∈ lw_g := gm (m5 (List.mem_of_getElem? (i := 26) rfl)) rfl
set_option maxRecDepth 20000 in
theorem q1035 : (Cond.instanceMethod yX5_odds) ∈ lw_g := gm (m5 (List.mem_of_getElem? (i := 27) rfl)) rfl
set_option maxRecDepth 20000 in
theorem q1036 : (Cond.selects RX5 yX5_odds yX5_odds) ∈ lw_g := gm (m5 (List.mem_of_getElem? (i := 28) rfl)) rfl
set_option maxRecDepth 20000 in
theorem q1037 : (Cond.code yX5_odds cX5_odds (14 : Nat) (Option.some FieldType.long)) ∈ lw_g := gm (m5 (List.mem_of_getElem? (i := 29) rfl)) rfl
set_option maxRecDepth 20000 in
theorem q1038 : (Cond.constantLong RX5 (194 : Nat) (16 : Int64)) ∈ lw_g := gm (m5 (List.mem_of_getElem? (i := 30) rfl)) rfl
set_option maxRecDepth 20000 in
theorem q1039 : (Cond.methodLink RL (121 : Nat) yX5_seed) ∈ lw_g := gm (m5 (List.mem_of_getElem? (i := 31) rfl)) rfl
set_option maxRecDepth 20000 in
theorem q1040 : (Cond.instanceMethod yX5_seed) ∈ lw_g := gm (m5 (List.mem_of_getElem? (i := 32) rfl)) rfl
set_option maxRecDepth 20000 in
theorem q1041 : (Cond.selects RX5 yX5_seed yX5_seed) ∈ lw_g := gm (m5 (List.mem_of_getElem? (i := 33) rfl)) rfl
set_option maxRecDepth 20000 in
theorem q1042 : (Cond.code yX5_seed cX5_seed (3 : Nat) (Option.some FieldType.int)) ∈ lw_g := gm (m5 (List.mem_of_getElem? (i := 34) rfl)) rfl
set_option maxRecDepth 20000 in
theorem q1043 : (Cond.methodLink RL (125 : Nat) yX5_feed) ∈ lw_g := gm (m5 (List.mem_of_getElem? (i := 35) rfl)) rfl
set_option maxRecDepth 20000 in
theorem q1044 : (Cond.instanceMethod yX5_feed) ∈ lw_g := gm (m5 (List.mem_of_getElem? (i := 36) rfl)) rfl
set_option maxRecDepth 20000 in
theorem q1045 : (Cond.selects RX5 yX5_feed yX5_feed) ∈ lw_g := gm (m5 (List.mem_of_getElem? (i := 37) rfl)) rfl
set_option maxRecDepth 20000 in
theorem q1046 : (Cond.code yX5_feed cX5_feed (4 : Nat) (Option.some FieldType.int)) ∈ lw_g := gm (m5 (List.mem_of_getElem? (i := 38) rfl)) rfl
set_option maxRecDepth 20000 in
theorem q1047 : (Cond.methodLink RL (129 : Nat) yX5_wipe) ∈ lw_g := gm (m5 (List.mem_of_getElem? (i := 39) rfl)) rfl
set_option maxRecDepth 20000 in
theorem q1048 : (Cond.instanceMethod yX5_wipe) ∈ lw_g := gm (m5 (List.mem_of_getElem? (i := 40) rfl)) rfl
set_option maxRecDepth 20000 in
theorem q1049 : (Cond.selects RX5 yX5_wipe yX5_wipe) ∈ lw_g := gm (m5 (List.mem_of_getElem? (i := 41) rfl)) rfl
set_option maxRecDepth 20000 in
theorem q1050 : (Cond.code yX5_wipe cX5_wipe (2 : Nat) (Option.some FieldType.int)) ∈ lw_g := gm (m5 (List.mem_of_getElem? (i := 42) rfl)) rfl
set_option maxRecDepth 20000 in
theorem q1051 : (Cond.methodLink RL (133 : Nat) yX5_text) ∈ lw_g := gm (m5 (List.mem_of_getElem? (i := 43) rfl)) rfl
set_option maxRecDepth 20000 in
theorem q1052 : (Cond.instanceMethod yX5_text) ∈ lw_g := gm (m5 (List.mem_of_getElem? (i := 44) rfl)) rfl
set_option maxRecDepth 20000 in
theorem q1053 : (Cond.selects RX5 yX5_text yX5_text) ∈ lw_g := gm (m5 (List.mem_of_getElem? (i := 45) rfl)) rfl
set_option maxRecDepth 20000 in
theorem q1054 : (Cond.code yX5_text cX5_text (3 : Nat) (Option.some FieldType.int)) ∈ lw_g := gm (m5 (List.mem_of_getElem? (i := 46) rfl)) rfl
set_option maxRecDepth 20000 in
theorem q1055 : (Cond.methodLink RX5 (230 : Nat) yX5_nextToken) ∈ lw_g := gm (m5 (List.mem_of_getElem? (i := 47) rfl)) rfl
set_option maxRecDepth 20000 in
theorem q1056 : (Cond.privateMethod yX5_nextToken) ∈ lw_tbl := m5 (List.mem_of_getElem? (i := 48) rfl)
set_option maxRecDepth 20000 in
theorem q1057 : (Cond.instanceMethod yX5_nextToken) ∈ lw_g := gm (m5 (List.mem_of_getElem? (i := 49) rfl)) rfl
set_option maxRecDepth 20000 in
theorem q1058 : (Cond.code yX5_nextToken cX5_nextToken (1 : Nat) (Option.none : Option FieldType)) ∈ lw_g := gm (m5 (List.mem_of_getElem? (i := 50) rfl)) rfl
set_option maxRecDepth 20000 in
theorem q1059 : (Cond.methodLink RX5 (212 : Nat) yX5_isLetter) ∈ lw_g := gm (m5 (List.mem_of_getElem? (i := 51) rfl)) rfl
set_option maxRecDepth 20000 in
theorem q1060 : (Cond.static yX5_isLetter) ∈ lw_g := gm (m5 (List.mem_of_getElem? (i := 52) rfl)) rfl
set_option maxRecDepth 20000 in
theorem q1061 : (Cond.code yX5_isLetter cX5_isLetter (1 : Nat) (Option.some FieldType.boolean)) ∈ lw_g := gm (m5 (List.mem_of_getElem? (i := 53) rfl)) rfl
set_option maxRecDepth 20000 in
theorem q1062 : (Cond.constantLong RX5 (215 : Nat) (9999999999999 : Int64)) ∈ lw_g := gm (m5 (List.mem_of_getElem? (i := 54) rfl)) rfl
set_option maxRecDepth 20000 in
theorem q1063 : (Cond.constantLong RX5 (217 : Nat) (27 : Int64)) ∈ lw_g := gm (m5 (List.mem_of_getElem? (i := 55) rfl)) rfl
set_option maxRecDepth 20000 in
theorem q1064 : (Cond.constantLong RX5 (219 : Nat) (96 : Int64)) ∈ lw_g := gm (m5 (List.mem_of_getElem? (i := 56) rfl)) rfl
set_option maxRecDepth 20000 in
theorem q1065 : (Cond.methodLink RX5 (221 : Nat) yX5_isDigit) ∈ lw_g := gm (m5 (List.mem_of_getElem? (i := 57) rfl)) rfl
set_option maxRecDepth 20000 in
theorem q1066 : (Cond.static yX5_isDigit) ∈ lw_g := gm (m5 (List.mem_of_getElem? (i := 58) rfl)) rfl
set_option maxRecDepth 20000 in
theorem q1067 : (Cond.code yX5_isDigit cX5_isDigit (1 : Nat) (Option.some FieldType.boolean)) ∈ lw_g := gm (m5 (List.mem_of_getElem? (i := 59) rfl)) rfl
set_option maxRecDepth 20000 in
theorem q1068 : (Cond.constantLong RX5 (224 : Nat) (9999 : Int64)) ∈ lw_g := gm (m5 (List.mem_of_getElem? (i := 60) rfl)) rfl
set_option maxRecDepth 20000 in
theorem q1069 : (Cond.constantLong RX5 (226 : Nat) (10 : Int64)) ∈ lw_g := gm (m5 (List.mem_of_getElem? (i := 61) rfl)) rfl
set_option maxRecDepth 20000 in
theorem q1070 : (Cond.constantLong RX5 (228 : Nat) (48 : Int64)) ∈ lw_g := gm (m5 (List.mem_of_getElem? (i := 62) rfl)) rfl
set_option maxRecDepth 20000 in
theorem q1071 : (Cond.methodLink RX5 (243 : Nat) yX5_readsItem) ∈ lw_g := gm (m5 (List.mem_of_getElem? (i := 63) rfl)) rfl
set_option maxRecDepth 20000 in
theorem q1072 : (Cond.privateMethod yX5_readsItem) ∈ lw_tbl := m5 (List.mem_of_getElem? (i := 64) rfl)
set_option maxRecDepth 20000 in
theorem q1073 : (Cond.instanceMethod yX5_readsItem) ∈ lw_g := gm (m5 (List.mem_of_getElem? (i := 65) rfl)) rfl
set_option maxRecDepth 20000 in
theorem q1074 : (Cond.code yX5_readsItem cX5_readsItem (5 : Nat) (Option.some FieldType.boolean)) ∈ lw_g := gm (m5 (List.mem_of_getElem? (i := 66) rfl)) rfl
set_option maxRecDepth 20000 in
theorem q1075 : (Cond.methodLink RX5 (233 : Nat) yX5_wordOf) ∈ lw_g := gm (m5 (List.mem_of_getElem? (i := 67) rfl)) rfl
set_option maxRecDepth 20000 in
theorem q1076 : (Cond.privateMethod yX5_wordOf) ∈ lw_tbl := m5 (List.mem_of_getElem? (i := 68) rfl)
set_option maxRecDepth 20000 in
theorem q1077 : (Cond.instanceMethod yX5_wordOf) ∈ lw_g := gm (m5 (List.mem_of_getElem? (i := 69) rfl)) rfl
set_option maxRecDepth 20000 in
theorem q1078 : (Cond.code yX5_wordOf cX5_wordOf (7 : Nat) (Option.some FieldType.int)) ∈ lw_g := gm (m5 (List.mem_of_getElem? (i := 70) rfl)) rfl
set_option maxRecDepth 20000 in
theorem q1079 : (Cond.methodLink RX5 (240 : Nat) yX5_readsVisitor) ∈ lw_g := gm (m5 (List.mem_of_getElem? (i := 71) rfl)) rfl
set_option maxRecDepth 20000 in
theorem q1080 : (Cond.privateMethod yX5_readsVisitor) ∈ lw_tbl := m5 (List.mem_of_getElem? (i := 72) rfl)
set_option maxRecDepth 20000 in
theorem q1081 : (Cond.instanceMethod yX5_readsVisitor) ∈ lw_g := gm (m5 (List.mem_of_getElem? (i := 73) rfl)) rfl
set_option maxRecDepth 20000 in
theorem q1082 : (Cond.code yX5_readsVisitor cX5_readsVisitor (5 : Nat) (Option.some FieldType.boolean)) ∈ lw_g := gm (m5 (List.mem_of_getElem? (i := 74) rfl)) rfl
set_option maxRecDepth 20000 in
theorem q1083 : (Cond.methodLink RX5 (237 : Nat) yX5_takesNumber) ∈ lw_g := gm (m5 (List.mem_of_getElem? (i := 75) rfl)) rfl
set_option maxRecDepth 20000 in
theorem q1084 : (Cond.privateMethod yX5_takesNumber) ∈ lw_tbl := m5 (List.mem_of_getElem? (i := 76) rfl)
set_option maxRecDepth 20000 in
theorem q1085 : (Cond.instanceMethod yX5_takesNumber) ∈ lw_g := gm (m5 (List.mem_of_getElem? (i := 77) rfl)) rfl
set_option maxRecDepth 20000 in
theorem q1086 : (Cond.code yX5_takesNumber cX5_takesNumber (4 : Nat) (Option.some FieldType.int)) ∈ lw_g := gm (m5 (List.mem_of_getElem? (i := 78) rfl)) rfl
set_option maxRecDepth 20000 in
theorem q1087 : (Cond.methodLink RL (137 : Nat) yX5_hold) ∈ lw_g := gm (m5 (List.mem_of_getElem? (i := 79) rfl)) rfl
set_option maxRecDepth 20000 in
theorem q1088 : (Cond.instanceMethod yX5_hold) ∈ lw_g := gm (m5 (List.mem_of_getElem? (i := 80) rfl)) rfl
set_option maxRecDepth 20000 in
theorem q1089 : (Cond.selects RX5 yX5_hold yX5_hold) ∈ lw_g := gm (m5 (List.mem_of_getElem? (i := 81) rfl)) rfl
set_option maxRecDepth 20000 in
theorem q1090 : (Cond.code yX5_hold cX5_hold (3 : Nat) (Option.some FieldType.int)) ∈ lw_g := gm (m5 (List.mem_of_getElem? (i := 82) rfl)) rfl
set_option maxRecDepth 20000 in
theorem q1091 : (Cond.methodLink RX5 (247 : Nat) yX5_isSpot) ∈ lw_g := gm (m5 (List.mem_of_getElem? (i := 83) rfl)) rfl
set_option maxRecDepth 20000 in
theorem q1092 : (Cond.static yX5_isSpot) ∈ lw_g := gm (m5 (List.mem_of_getElem? (i := 84) rfl)) rfl
set_option maxRecDepth 20000 in
theorem q1093 : (Cond.code yX5_isSpot cX5_isSpot (1 : Nat) (Option.some FieldType.boolean)) ∈ lw_g := gm (m5 (List.mem_of_getElem? (i := 85) rfl)) rfl
set_option maxRecDepth 20000 in
theorem q1094 : (Cond.methodLink RL (141 : Nat) yX5_as) ∈ lw_g := gm (m5 (List.mem_of_getElem? (i := 86) rfl)) rfl
set_option maxRecDepth 20000 in
theorem q1095 : (Cond.instanceMethod yX5_as) ∈ lw_g := gm (m5 (List.mem_of_getElem? (i := 87) rfl)) rfl
set_option maxRecDepth 20000 in
theorem q1096 : (Cond.selects RX5 yX5_as yX5_as) ∈ lw_g := gm (m5 (List.mem_of_getElem? (i := 88) rfl)) rfl
set_option maxRecDepth 20000 in
theorem q1097 : (Cond.code yX5_as cX5_as (5 : Nat) (Option.some FieldType.int)) ∈ lw_g := gm (m5 (List.mem_of_getElem? (i := 89) rfl)) rfl
set_option maxRecDepth 20000 in
theorem q1098 : (Cond.methodLink RX5 (250 : Nat) yX5_above) ∈ lw_g := gm (m5 (List.mem_of_getElem? (i := 90) rfl)) rfl
set_option maxRecDepth 20000 in
theorem q1099 : (Cond.static yX5_above) ∈ lw_g := gm (m5 (List.mem_of_getElem? (i := 91) rfl)) rfl
set_option maxRecDepth 20000 in
theorem q1100 : (Cond.code yX5_above cX5_above (1 : Nat) (Option.some FieldType.int)) ∈ lw_g := gm (m5 (List.mem_of_getElem? (i := 92) rfl)) rfl
set_option maxRecDepth 20000 in
theorem q1101 : (Cond.methodLink RL (145 : Nat) yX5_sheet) ∈ lw_g := gm (m5 (List.mem_of_getElem? (i := 93) rfl)) rfl
set_option maxRecDepth 20000 in
theorem q1102 : (Cond.instanceMethod yX5_sheet) ∈ lw_g := gm (m5 (List.mem_of_getElem? (i := 94) rfl)) rfl
set_option maxRecDepth 20000 in
theorem q1103 : (Cond.selects RX5 yX5_sheet yX5_sheet) ∈ lw_g := gm (m5 (List.mem_of_getElem? (i := 95) rfl)) rfl
set_option maxRecDepth 20000 in
theorem q1104 : (Cond.code yX5_sheet cX5_sheet (5 : Nat) (Option.some FieldType.int)) ∈ lw_g := gm (m5 (List.mem_of_getElem? (i := 96) rfl)) rfl
set_option maxRecDepth 20000 in
theorem q1105 : (Cond.methodLink RL (149 : Nat) yX5_write) ∈ lw_g := gm (m5 (List.mem_of_getElem? (i := 97) rfl)) rfl
set_option maxRecDepth 20000 in
theorem q1106 : (Cond.instanceMethod yX5_write) ∈ lw_g := gm (m5 (List.mem_of_getElem? (i := 98) rfl)) rfl
set_option maxRecDepth 20000 in
theorem q1107 : (Cond.selects RX5 yX5_write yX5_write) ∈ lw_g := gm (m5 (List.mem_of_getElem? (i := 99) rfl)) rfl
set_option maxRecDepth 20000 in
theorem q1108 : (Cond.code yX5_write cX5_write (5 : Nat) (Option.some FieldType.int)) ∈ lw_g := gm (m5 (List.mem_of_getElem? (i := 100) rfl)) rfl
set_option maxRecDepth 20000 in
theorem q1109 : (Cond.methodLink RL (154 : Nat) yX5_copy) ∈ lw_g := gm (m5 (List.mem_of_getElem? (i := 101) rfl)) rfl
set_option maxRecDepth 20000 in
theorem q1110 : (Cond.instanceMethod yX5_copy) ∈ lw_g := gm (m5 (List.mem_of_getElem? (i := 102) rfl)) rfl
set_option maxRecDepth 20000 in
theorem q1111 : (Cond.selects RX5 yX5_copy yX5_copy) ∈ lw_g := gm (m5 (List.mem_of_getElem? (i := 103) rfl)) rfl
set_option maxRecDepth 20000 in
theorem q1112 : (Cond.code yX5_copy cX5_copy (7 : Nat) (Option.some FieldType.int)) ∈ lw_g := gm (m5 (List.mem_of_getElem? (i := 104) rfl)) rfl
set_option maxRecDepth 20000 in
theorem q1113 : (Cond.methodLink RL (158 : Nat) yX5_load) ∈ lw_g := gm (m5 (List.mem_of_getElem? (i := 105) rfl)) rfl
set_option maxRecDepth 20000 in
theorem q1114 : (Cond.instanceMethod yX5_load) ∈ lw_g := gm (m5 (List.mem_of_getElem? (i := 106) rfl)) rfl
set_option maxRecDepth 20000 in
theorem q1115 : (Cond.selects RX5 yX5_load yX5_load) ∈ lw_g := gm (m5 (List.mem_of_getElem? (i := 107) rfl)) rfl
set_option maxRecDepth 20000 in
theorem q1116 : (Cond.code yX5_load cX5_load (4 : Nat) (Option.some FieldType.int)) ∈ lw_g := gm (m5 (List.mem_of_getElem? (i := 108) rfl)) rfl
set_option maxRecDepth 20000 in
theorem q1117 : (Cond.methodLink RL (162 : Nat) yX5_judge) ∈ lw_g := gm (m5 (List.mem_of_getElem? (i := 109) rfl)) rfl
set_option maxRecDepth 20000 in
theorem q1118 : (Cond.instanceMethod yX5_judge) ∈ lw_g := gm (m5 (List.mem_of_getElem? (i := 110) rfl)) rfl
set_option maxRecDepth 20000 in
theorem q1119 : (Cond.selects RX5 yX5_judge yX5_judge) ∈ lw_g := gm (m5 (List.mem_of_getElem? (i := 111) rfl)) rfl
set_option maxRecDepth 20000 in
theorem q1120 : (Cond.code yX5_judge cX5_judge (4 : Nat) (Option.some FieldType.int)) ∈ lw_g := gm (m5 (List.mem_of_getElem? (i := 112) rfl)) rfl
set_option maxRecDepth 20000 in
theorem q1121 : (Cond.methodLink RL (166 : Nat) yX5_image) ∈ lw_g := gm (m5 (List.mem_of_getElem? (i := 113) rfl)) rfl
set_option maxRecDepth 20000 in
theorem q1122 : (Cond.instanceMethod yX5_image) ∈ lw_g := gm (m5 (List.mem_of_getElem? (i := 114) rfl)) rfl
set_option maxRecDepth 20000 in
theorem q1123 : (Cond.selects RX5 yX5_image yX5_image) ∈ lw_g := gm (m5 (List.mem_of_getElem? (i := 115) rfl)) rfl
set_option maxRecDepth 20000 in
theorem q1124 : (Cond.code yX5_image cX5_image (2 : Nat) (Option.some FieldType.int)) ∈ lw_g := gm (m5 (List.mem_of_getElem? (i := 116) rfl)) rfl
set_option maxRecDepth 20000 in
theorem q1125 : (Cond.methodLink RL (170 : Nat) yX5_undo) ∈ lw_g := gm (m5 (List.mem_of_getElem? (i := 117) rfl)) rfl
set_option maxRecDepth 20000 in
theorem q1126 : (Cond.instanceMethod yX5_undo) ∈ lw_g := gm (m5 (List.mem_of_getElem? (i := 118) rfl)) rfl
set_option maxRecDepth 20000 in
theorem q1127 : (Cond.selects RX5 yX5_undo yX5_undo) ∈ lw_g := gm (m5 (List.mem_of_getElem? (i := 119) rfl)) rfl
set_option maxRecDepth 20000 in
theorem q1128 : (Cond.code yX5_undo cX5_undo (2 : Nat) (Option.some FieldType.int)) ∈ lw_g := gm (m5 (List.mem_of_getElem? (i := 120) rfl)) rfl
set_option maxRecDepth 20000 in
theorem q1129 : (Cond.methodLink RL (174 : Nat) yX5_tear) ∈ lw_g := gm (m5 (List.mem_of_getElem? (i := 121) rfl)) rfl
set_option maxRecDepth 20000 in
theorem q1130 : (Cond.instanceMethod yX5_tear) ∈ lw_g := gm (m5 (List.mem_of_getElem? (i := 122) rfl)) rfl
set_option maxRecDepth 20000 in
theorem q1131 : (Cond.selects RX5 yX5_tear yX5_tear) ∈ lw_g := gm (m5 (List.mem_of_getElem? (i := 123) rfl)) rfl
set_option maxRecDepth 20000 in
theorem q1132 : (Cond.code yX5_tear cX5_tear (2 : Nat) (Option.some FieldType.int)) ∈ lw_g := gm (m5 (List.mem_of_getElem? (i := 124) rfl)) rfl
set_option maxRecDepth 20000 in
theorem q1133 : (Cond.methodLink RL (178 : Nat) yX5_count) ∈ lw_g := gm (m5 (List.mem_of_getElem? (i := 125) rfl)) rfl
set_option maxRecDepth 20000 in
theorem q1134 : (Cond.instanceMethod yX5_count) ∈ lw_g := gm (m5 (List.mem_of_getElem? (i := 126) rfl)) rfl
set_option maxRecDepth 20000 in
theorem q1135 : (Cond.selects RX5 yX5_count yX5_count) ∈ lw_g := gm (m5 (List.mem_of_getElem? (i := 127) rfl)) rfl
set_option maxRecDepth 20000 in
theorem q1136 : (Cond.code yX5_count cX5_count (4 : Nat) (Option.some FieldType.int)) ∈ lw_g := gm (m5 (List.mem_of_getElem? (i := 128) rfl)) rfl
set_option maxRecDepth 20000 in
theorem q1137 : (Cond.methodLink RL (182 : Nat) yX5_status) ∈ lw_g := gm (m5 (List.mem_of_getElem? (i := 129) rfl)) rfl
set_option maxRecDepth 20000 in
theorem q1138 : (Cond.instanceMethod yX5_status) ∈ lw_g := gm (m5 (List.mem_of_getElem? (i := 130) rfl)) rfl
set_option maxRecDepth 20000 in
theorem q1139 : (Cond.selects RX5 yX5_status yX5_status) ∈ lw_g := gm (m5 (List.mem_of_getElem? (i := 131) rfl)) rfl
set_option maxRecDepth 20000 in
theorem q1140 : (Cond.code yX5_status cX5_status (4 : Nat) (Option.some FieldType.int)) ∈ lw_g := gm (m5 (List.mem_of_getElem? (i := 132) rfl)) rfl
set_option maxRecDepth 20000 in
theorem q1141 : (Cond.fieldLink RJ0 (9 : Nat) "java/lang/String" "value" "[B") ∈ lw_g := gm (m5 (List.mem_of_getElem? (i := 133) rfl)) rfl
set_option maxRecDepth 20000 in
theorem q1142 : (Cond.fieldLink RJ0 (15 : Nat) "java/lang/String" "coder" "B") ∈ lw_g := gm (m5 (List.mem_of_getElem? (i := 134) rfl)) rfl
