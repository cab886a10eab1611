theorem kF_xT_10 : Cond.fieldLink RxT 10 "ThrowScenario" "classes" "LThrowScenario$Classes;" ∈ big := big_at 251 (by decide +kernel) rfl
theorem kw_xT_60 : ∀ w ∈ ([.methodLink RxT 60 yxC_has, .instanceMethod yxC_has, .selects yxC_has.cls yxC_has yxC_has, .initialized yxC_has.cls] : List Cond), w ∈ big := big_ps [280, 281, 282, 52] _ (by decide +kernel) rfl
theorem kw_xT_64 : ∀ w ∈ ([.methodLink RxT 64 yxC_isFull, .instanceMethod yxC_isFull, .selects yxC_isFull.cls yxC_isFull yxC_isFull, .initialized yxC_isFull.cls] : List Cond), w ∈ big := big_ps [284, 285, 286, 52] _ (by decide +kernel) rfl
theorem kw_xT_68 : ∀ w ∈ ([.methodLink RxT 68 yxC_add, .instanceMethod yxC_add, .selects yxC_add.cls yxC_add yxC_add, .initialized yxC_add.cls] : List Cond), w ∈ big := big_ps [288, 289, 290, 52] _ (by decide +kernel) rfl
theorem kw_xT_83 : ∀ w ∈ ([.methodLink RxT 83 yxP_isRoutine, .static yxP_isRoutine, .initialized yxP_isRoutine.cls] : List Cond), w ∈ big := big_ps [362, 308, 54] _ (by decide +kernel) rfl
theorem kF_xT_21 : Cond.fieldLink RxT 21 "ThrowScenario" "program" "LThrowScenario$Program;" ∈ big := big_at 252 (by decide +kernel) rfl
theorem kw_xT_86 : ∀ w ∈ ([.methodLink RxT 86 yxP_isNode, .instanceMethod yxP_isNode, .selects yxP_isNode.cls yxP_isNode yxP_isNode, .initialized yxP_isNode.cls] : List Cond), w ∈ big := big_ps [363, 304, 305, 54] _ (by decide +kernel) rfl
theorem kw_xT_89 : ∀ w ∈ ([.methodLink RxT 89 yxP_setStatement, .instanceMethod yxP_setStatement, .selects yxP_setStatement.cls yxP_setStatement yxP_setStatement, .initialized yxP_setStatement.cls] : List Cond), w ∈ big := big_ps [364, 365, 366, 54] _ (by decide +kernel) rfl
theorem kF_xT_32 : Cond.fieldLink RxT 32 "ThrowScenario" "dispatchedTo" "I" ∈ big := big_at 255 (by decide +kernel) rfl
theorem kF_xT_99 : Cond.fieldLink RxT 99 "ThrowScenario" "firstThrown" "LThrowScenario$Thrown;" ∈ big := big_at 257 (by decide +kernel) rfl
theorem kw_xT_93 : ∀ w ∈ ([.methodLink RxT 93 yxP_isDefined, .instanceMethod yxP_isDefined, .selects yxP_isDefined.cls yxP_isDefined yxP_isDefined, .initialized yxP_isDefined.cls] : List Cond), w ∈ big := big_ps [376, 377, 378, 54] _ (by decide +kernel) rfl
theorem kF_xT_56 : Cond.fieldLink RxT 56 "ThrowScenario" "machine" "LThrowScenario$Machine;" ∈ big := big_at 254 (by decide +kernel) rfl
theorem kw_xT_106 : ∀ w ∈ ([.methodLink RxT 106 yxM_performRoutine, .instanceMethod yxM_performRoutine, .selects yxM_performRoutine.cls yxM_performRoutine yxM_performRoutine, .initialized yxM_performRoutine.cls] : List Cond), w ∈ big := big_ps [384, 385, 386, 60] _ (by decide +kernel) rfl
theorem kF_xT_110 : Cond.fieldLink RxT 110 "ThrowScenario$Way" "THROWING" "LThrowScenario$Way;" ∈ big := big_at 495 (by decide +kernel) rfl
theorem kw_xT_116 : ∀ w ∈ ([.methodLink RxT 116 yxM_thrown, .instanceMethod yxM_thrown, .selects yxM_thrown.cls yxM_thrown yxM_thrown, .initialized yxM_thrown.cls] : List Cond), w ∈ big := big_ps [496, 497, 498, 60] _ (by decide +kernel) rfl
theorem kF_xT_103 : Cond.fieldLink RxT 103 "ThrowScenario" "secondThrown" "LThrowScenario$Thrown;" ∈ big := big_at 258 (by decide +kernel) rfl
theorem kw_xT_124 : ∀ w ∈ ([.methodLink RxT 124 yxT_outcomeOf, .static yxT_outcomeOf, .initialized yxT_outcomeOf.cls] : List Cond), w ∈ big := big_ps [504, 505, 51] _ (by decide +kernel) rfl
theorem kF_xT_139 : Cond.fieldLink RxT 139 "ThrowScenario$Way" "EXIT" "LThrowScenario$Way;" ∈ big := big_at 507 (by decide +kernel) rfl
theorem kF_xT_142 : Cond.fieldLink RxT 142 "ThrowScenario$Way" "TIRING" "LThrowScenario$Way;" ∈ big := big_at 508 (by decide +kernel) rfl
theorem kw_xT_145 : ∀ w ∈ ([.methodLink RxT 145 yxP_isVariable, .static yxP_isVariable, .initialized yxP_isVariable.cls] : List Cond), w ∈ big := big_ps [747, 301, 54] _ (by decide +kernel) rfl
theorem kw_xT_148 : ∀ w ∈ ([.methodLink RxT 148 yxM_variableAt, .instanceMethod yxM_variableAt, .selects yxM_variableAt.cls yxM_variableAt yxM_variableAt, .initialized yxM_variableAt.cls] : List Cond), w ∈ big := big_ps [748, 749, 750, 60] _ (by decide +kernel) rfl
theorem kL_xT_36 : Cond.constantLong RxT 36 (1000000000000) ∈ big := big_at 162 (by decide +kernel) rfl
theorem kF_xT_38 : Cond.fieldLink RxT 38 "ThrowScenario" "told" "J" ∈ big := big_at 256 (by decide +kernel) rfl
theorem kw_xT_151 : ∀ w ∈ ([.methodLink RxT 151 yxM_logSize, .instanceMethod yxM_logSize, .selects yxM_logSize.cls yxM_logSize yxM_logSize, .initialized yxM_logSize.cls] : List Cond), w ∈ big := big_ps [760, 761, 762, 60] _ (by decide +kernel) rfl
theorem kw_xT_154 : ∀ w ∈ ([.methodLink RxT 154 yxM_logAt, .instanceMethod yxM_logAt, .selects yxM_logAt.cls yxM_logAt yxM_logAt, .initialized yxM_logAt.cls] : List Cond), w ∈ big := big_ps [764, 765, 766, 60] _ (by decide +kernel) rfl
theorem kw_xT_157 : ∀ w ∈ ([.methodLink RxT 157 yxT_partOf, .static yxT_partOf, .initialized yxT_partOf.cls] : List Cond), w ∈ big := big_ps [772, 773, 51] _ (by decide +kernel) rfl
theorem kF_xT_161 : Cond.fieldLink RxT 161 "ThrowScenario$Thrown" "cause" "LThrowScenario$Thrown;" ∈ big := big_at 191 (by decide +kernel) rfl
theorem kF_xT_166 : Cond.fieldLink RxT 166 "ThrowScenario$Thrown" "type" "I" ∈ big := big_at 184 (by decide +kernel) rfl
theorem kF_xT_169 : Cond.fieldLink RxT 169 "ThrowScenario$Thrown" "message" "I" ∈ big := big_at 188 (by decide +kernel) rfl
theorem kF_xT_172 : Cond.fieldLink RxT 172 "ThrowScenario$Thrown" "suppressed" "I" ∈ big := big_at 194 (by decide +kernel) rfl
theorem kw_xT_181 : ∀ w ∈ ([.methodLink RxT 181 yxC_size, .instanceMethod yxC_size, .selects yxC_size.cls yxC_size yxC_size, .initialized yxC_size.cls] : List Cond), w ∈ big := big_ps [807, 808, 809, 52] _ (by decide +kernel) rfl
theorem kw_xT_184 : ∀ w ∈ ([.methodLink RxT 184 yxP_size, .instanceMethod yxP_size, .selects yxP_size.cls yxP_size yxP_size, .initialized yxP_size.cls] : List Cond), w ∈ big := big_ps [811, 812, 813, 54] _ (by decide +kernel) rfl
theorem kw_xT_185 : ∀ w ∈ ([.methodLink RxT 185 yxM_tally, .instanceMethod yxM_tally, .selects yxM_tally.cls yxM_tally yxM_tally, .initialized yxM_tally.cls] : List Cond), w ∈ big := big_ps [815, 816, 817, 60] _ (by decide +kernel) rfl
set_option maxRecDepth 100000 in
theorem kc_xT_outcomeOf : Cond.code yxT_outcomeOf cxT_outcomeOf 2 (some .int) ∈ big := big_at 506 rfl rfl
set_option maxRecDepth 100000 in
theorem kc_xT_partOf : Cond.code yxT_partOf cxT_partOf 5 (some .long) ∈ big := big_at 774 rfl rfl
set_option maxRecDepth 100000 in
theorem kc_xC_add : Cond.code yxC_add cxC_add 2 (some .int) ∈ big := big_at 291 rfl rfl
set_option maxRecDepth 100000 in
theorem kc_xC_isFull : Cond.code yxC_isFull cxC_isFull 1 (some .boolean) ∈ big := big_at 287 rfl rfl
set_option maxRecDepth 100000 in
theorem kc_xC_size : Cond.code yxC_size cxC_size 1 (some .int) ∈ big := big_at 810 rfl rfl
set_option maxRecDepth 100000 in
theorem kc_xM_logAt : Cond.code yxM_logAt cxM_logAt 2 (some .int) ∈ big := big_at 767 rfl rfl
set_option maxRecDepth 100000 in
theorem kc_xM_logSize : Cond.code yxM_logSize cxM_logSize 1 (some .int) ∈ big := big_at 763 rfl rfl
set_option maxRecDepth 100000 in
theorem kc_xM_performRoutine : Cond.code yxM_performRoutine cxM_performRoutine 3 (some (.object "ThrowScenario$Way")) ∈ big := big_at 387 rfl rfl
set_option maxRecDepth 100000 in
theorem kc_xM_tally : Cond.code yxM_tally cxM_tally 2 (some .int) ∈ big := big_at 818 rfl rfl
set_option maxRecDepth 100000 in
theorem kc_xM_thrown : Cond.code yxM_thrown cxM_thrown 1 (some (.object "ThrowScenario$Thrown")) ∈ big := big_at 499 rfl rfl
set_option maxRecDepth 100000 in
theorem kc_xM_variableAt : Cond.code yxM_variableAt cxM_variableAt 2 (some .int) ∈ big := big_at 751 rfl rfl
set_option maxRecDepth 100000 in
theorem kc_xP_setStatement : Cond.code yxP_setStatement cxP_setStatement 3 none ∈ big := big_at 367 rfl rfl
set_option maxRecDepth 100000 in
theorem kc_xP_size : Cond.code yxP_size cxP_size 1 (some .int) ∈ big := big_at 814 rfl rfl
theorem in_xT : ∀ w ∈ u_ws RxT TxT 8, w ∈ big := big_ps [259, 261, 263, 265, 267, 269, 271, 273] _ (by decide +kernel) (by decide +kernel)
