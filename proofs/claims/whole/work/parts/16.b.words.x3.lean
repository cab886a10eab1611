theorem kw_xT_96 : ∀ w ∈ ([.methodLink RxT 96 yxM_prepare, .instanceMethod yxM_prepare, .selects yxM_prepare.cls yxM_prepare yxM_prepare, .initialized yxM_prepare.cls] : List Cond), w ∈ big := big_ps [380, 381, 382, 60] _ (by decide +kernel) rfl
theorem kw_xT_120 : ∀ w ∈ ([.methodLink RxT 120 yxT_afterFailure, .instanceMethod yxT_afterFailure, .selects yxT_afterFailure.cls yxT_afterFailure yxT_afterFailure, .initialized yxT_afterFailure.cls] : List Cond), w ∈ big := big_ps [500, 502, 19, 51] _ (by decide +kernel) rfl
theorem kF_xT_128 : Cond.fieldLink RxT 128 "ThrowScenario$Way" "RETURN" "LThrowScenario$Way;" ∈ big := big_at 509 (by decide +kernel) rfl
theorem kw_xT_131 : ∀ w ∈ ([.methodLink RxT 131 yxM_carried, .instanceMethod yxM_carried, .selects yxM_carried.cls yxM_carried yxM_carried, .initialized yxM_carried.cls] : List Cond), w ∈ big := big_ps [510, 511, 512, 60] _ (by decide +kernel) rfl
theorem kF_xT_28 : Cond.fieldLink RxT 28 "ThrowScenario" "text" "LThrowScenario$Report;" ∈ big := big_at 253 (by decide +kernel) rfl
theorem kw_xT_135 : ∀ w ∈ ([.methodLink RxT 135 yxR_write, .instanceMethod yxR_write, .selects yxR_write.cls yxR_write yxR_write, .initialized yxR_write.cls] : List Cond), w ∈ big := big_ps [514, 515, 516, 55] _ (by decide +kernel) rfl
theorem kw_xT_175 : ∀ w ∈ ([.methodLink RxT 175 yxR_length, .instanceMethod yxR_length, .selects yxR_length.cls yxR_length yxR_length, .initialized yxR_length.cls] : List Cond), w ∈ big := big_ps [783, 784, 785, 55] _ (by decide +kernel) rfl
theorem kw_xT_178 : ∀ w ∈ ([.methodLink RxT 178 yxR_characterAt, .instanceMethod yxR_characterAt, .selects yxR_characterAt.cls yxR_characterAt yxR_characterAt, .initialized yxR_characterAt.cls] : List Cond), w ∈ big := big_ps [787, 788, 789, 55] _ (by decide +kernel) rfl
theorem kF_xR_12 : Cond.fieldLink RxR 12 "ThrowScenario$Report" "text" "Ljava/lang/StringBuilder;" ∈ big := big_at 158 (by decide +kernel) rfl
theorem kw_xR_18 : ∀ w ∈ ([.methodLink RxR 18 yxB_length, .instanceMethod yxB_length, .selects yxB_length.cls yxB_length yxB_length, .initialized yxB_length.cls] : List Cond), w ∈ big := big_ps [734, 735, 736, 57] _ (by decide +kernel) rfl
theorem kw_xR_22 : ∀ w ∈ ([.methodLink RxR 22 yxB_charAt, .instanceMethod yxB_charAt, .selects yxB_charAt.cls yxB_charAt yxB_charAt, .initialized yxB_charAt.cls] : List Cond), w ∈ big := big_ps [791, 792, 793, 57] _ (by decide +kernel) rfl
theorem kw_xR_26 : ∀ w ∈ ([.methodLink RxR 26 yxB_setLength, .instanceMethod yxB_setLength, .selects yxB_setLength.cls yxB_setLength yxB_setLength, .initialized yxB_setLength.cls] : List Cond), w ∈ big := big_ps [518, 519, 520, 57] _ (by decide +kernel) rfl
theorem kw_xR_30 : ∀ w ∈ ([.methodLink RxR 30 yxR_wordsOf, .static yxR_wordsOf, .initialized yxR_wordsOf.cls] : List Cond), w ∈ big := big_ps [572, 573, 55] _ (by decide +kernel) rfl
theorem kw_xR_34 : ∀ w ∈ ([.methodLink RxR 34 yxB_append, .instanceMethod yxB_append, .selects yxB_append.cls yxB_append yxB_append, .initialized yxB_append.cls] : List Cond), w ∈ big := big_ps [581, 582, 583, 57] _ (by decide +kernel) rfl
theorem kL_xR_38 : Cond.constantLong RxR 38 (1000000000000) ∈ big := big_at 661 (by decide +kernel) rfl
theorem kw_xR_40 : ∀ w ∈ ([.methodLink RxR 40 yxB_append2, .instanceMethod yxB_append2, .selects yxB_append2.cls yxB_append2 yxB_append2, .initialized yxB_append2.cls] : List Cond), w ∈ big := big_ps [662, 663, 664, 57] _ (by decide +kernel) rfl
theorem kw_xR_43 : ∀ w ∈ ([.methodLink RxR 43 yxB_append3, .instanceMethod yxB_append3, .selects yxB_append3.cls yxB_append3 yxB_append3, .initialized yxB_append3.cls] : List Cond), w ∈ big := big_ps [684, 685, 686, 57] _ (by decide +kernel) rfl
theorem kw_xR_46 : ∀ w ∈ ([.methodLink RxR 46 yxR_addChain, .instanceMethod yxR_addChain, .selects yxR_addChain.cls yxR_addChain yxR_addChain, .initialized yxR_addChain.cls] : List Cond), w ∈ big := big_ps [709, 711, 20, 55] _ (by decide +kernel) rfl
theorem kw_xR_52 : ∀ w ∈ ([.methodLink RxR 52 yxR_addName, .instanceMethod yxR_addName, .selects yxR_addName.cls yxR_addName yxR_addName, .initialized yxR_addName.cls] : List Cond), w ∈ big := big_ps [713, 715, 21, 55] _ (by decide +kernel) rfl
theorem kF_xR_67 : Cond.fieldLink RxR 67 "ThrowScenario$Thrown" "cause" "LThrowScenario$Thrown;" ∈ big := big_at 190 (by decide +kernel) rfl
theorem kF_xR_75 : Cond.fieldLink RxR 75 "ThrowScenario$Thrown" "type" "I" ∈ big := big_at 183 (by decide +kernel) rfl
theorem kw_xR_79 : ∀ w ∈ ([.methodLink RxR 79 yxC_wordOf, .static yxC_wordOf, .initialized yxC_wordOf.cls] : List Cond), w ∈ big := big_ps [717, 718, 52] _ (by decide +kernel) rfl
theorem kw_xR_84 : ∀ w ∈ ([.methodLink RxR 84 yxC_isOwn, .static yxC_isOwn, .initialized yxC_isOwn.cls] : List Cond), w ∈ big := big_ps [731, 732, 52] _ (by decide +kernel) rfl
theorem kF_xR_88 : Cond.fieldLink RxR 88 "ThrowScenario$Thrown" "message" "I" ∈ big := big_at 187 (by decide +kernel) rfl
theorem kF_xR_91 : Cond.fieldLink RxR 91 "ThrowScenario$Thrown" "suppressed" "I" ∈ big := big_at 193 (by decide +kernel) rfl
set_option maxRecDepth 100000 in
theorem kc_xT_afterFailure : Cond.code yxT_afterFailure cxT_afterFailure 3 (some .int) ∈ big := big_at 503 rfl rfl
set_option maxRecDepth 100000 in
theorem kc_xC_isOwn : Cond.code yxC_isOwn cxC_isOwn 1 (some .boolean) ∈ big := big_at 733 rfl rfl
set_option maxRecDepth 100000 in
theorem kc_xC_wordOf : Cond.code yxC_wordOf cxC_wordOf 1 (some (.object "java/lang/String")) ∈ big := big_at 719 rfl rfl
set_option maxRecDepth 100000 in
theorem kc_xM_carried : Cond.code yxM_carried cxM_carried 1 (some .int) ∈ big := big_at 513 rfl rfl
set_option maxRecDepth 100000 in
theorem kc_xM_prepare : Cond.code yxM_prepare cxM_prepare 3 none ∈ big := big_at 383 rfl rfl
set_option maxRecDepth 100000 in
theorem kc_xR_addChain : Cond.code yxR_addChain cxR_addChain 3 none ∈ big := big_at 712 rfl rfl
set_option maxRecDepth 100000 in
theorem kc_xR_addName : Cond.code yxR_addName cxR_addName 2 none ∈ big := big_at 716 rfl rfl
set_option maxRecDepth 100000 in
theorem kc_xR_characterAt : Cond.code yxR_characterAt cxR_characterAt 2 (some .int) ∈ big := big_at 790 rfl rfl
set_option maxRecDepth 100000 in
theorem kc_xR_length : Cond.code yxR_length cxR_length 1 (some .int) ∈ big := big_at 786 rfl rfl
set_option maxRecDepth 100000 in
theorem kc_xR_wordsOf : Cond.code yxR_wordsOf cxR_wordsOf 1 (some (.object "java/lang/String")) ∈ big := big_at 574 rfl rfl
set_option maxRecDepth 100000 in
theorem kc_xR_write : Cond.code yxR_write cxR_write 6 none ∈ big := big_at 517 rfl rfl
set_option maxRecDepth 100000 in
theorem kc_xB_append2 : Cond.code yxB_append2 cxB_append2 2 (some (.object "java/lang/StringBuilder")) ∈ big := big_at 665 rfl rfl
set_option maxRecDepth 100000 in
theorem kc_xB_append3 : Cond.code yxB_append3 cxB_append3 2 (some (.object "java/lang/StringBuilder")) ∈ big := big_at 687 rfl rfl
set_option maxRecDepth 100000 in
theorem kc_xB_append : Cond.code yxB_append cxB_append 2 (some (.object "java/lang/StringBuilder")) ∈ big := big_at 584 rfl rfl
set_option maxRecDepth 100000 in
theorem kc_xB_charAt : Cond.code yxB_charAt cxB_charAt 2 (some .char) ∈ big := big_at 794 rfl rfl
set_option maxRecDepth 100000 in
theorem kc_xB_length : Cond.code yxB_length cxB_length 1 (some .int) ∈ big := big_at 737 rfl rfl
set_option maxRecDepth 100000 in
theorem kc_xB_setLength : Cond.code yxB_setLength cxB_setLength 2 none ∈ big := big_at 521 rfl rfl
theorem in_xR : ∀ w ∈ u_ws RxR TxR 1, w ∈ big := big_ps [159] _ (by decide +kernel) (by decide +kernel)
