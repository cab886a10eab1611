theorem kw_xT_72 : ∀ w ∈ ([.methodLink RxT 72 yxP_fits, .instanceMethod yxP_fits, .selects yxP_fits.cls yxP_fits yxP_fits, .initialized yxP_fits.cls] : List Cond), w ∈ big := big_ps [296, 297, 298, 54] _ (by decide +kernel) rfl
theorem kw_xT_76 : ∀ w ∈ ([.methodLink RxT 76 yxP_levelOf, .instanceMethod yxP_levelOf, .selects yxP_levelOf.cls yxP_levelOf yxP_levelOf, .initialized yxP_levelOf.cls] : List Cond), w ∈ big := big_ps [314, 315, 316, 54] _ (by decide +kernel) rfl
theorem kw_xT_80 : ∀ w ∈ ([.methodLink RxT 80 yxP_isFull, .instanceMethod yxP_isFull, .selects yxP_isFull.cls yxP_isFull yxP_isFull, .initialized yxP_isFull.cls] : List Cond), w ∈ big := big_ps [323, 324, 325, 54] _ (by decide +kernel) rfl
theorem kw_xT_81 : ∀ w ∈ ([.methodLink RxT 81 yxP_add, .instanceMethod yxP_add, .selects yxP_add.cls yxP_add yxP_add, .initialized yxP_add.cls] : List Cond), w ∈ big := big_ps [327, 328, 329, 54] _ (by decide +kernel) rfl
theorem kF_xN_7 : Cond.fieldLink RxN 7 "ThrowScenario$Node" "kind" "I" ∈ big := big_at 337 (by decide +kernel) rfl
theorem kF_xN_13 : Cond.fieldLink RxN 13 "ThrowScenario$Node" "a" "I" ∈ big := big_at 339 (by decide +kernel) rfl
theorem kF_xN_16 : Cond.fieldLink RxN 16 "ThrowScenario$Node" "b" "I" ∈ big := big_at 341 (by decide +kernel) rfl
theorem kF_xN_19 : Cond.fieldLink RxN 19 "ThrowScenario$Node" "c" "I" ∈ big := big_at 343 (by decide +kernel) rfl
theorem kF_xN_22 : Cond.fieldLink RxN 22 "ThrowScenario$Node" "level" "I" ∈ big := big_at 345 (by decide +kernel) rfl
theorem kw_xP_27 : ∀ w ∈ ([.methodLink RxP 27 yxP_levelOf, .instanceMethod yxP_levelOf, .selects yxP_levelOf.cls yxP_levelOf yxP_levelOf, .initialized yxP_levelOf.cls] : List Cond), w ∈ big := big_ps [332, 315, 316, 54] _ (by decide +kernel) rfl
theorem kw_xP_31 : ∀ w ∈ ([.methodLink RxP 31 yxN_init, .instanceMethod yxN_init, .initialized yxN_init.cls] : List Cond), w ∈ big := big_ps [333, 334, 64] _ (by decide +kernel) rfl
set_option maxRecDepth 100000 in
theorem kc_xN_init : Cond.code yxN_init cxN_init 6 none ∈ big := big_at 335 rfl rfl
set_option maxRecDepth 100000 in
theorem kc_xP_add : Cond.code yxP_add cxP_add 5 (some .int) ∈ big := big_at 330 rfl rfl
set_option maxRecDepth 100000 in
theorem kc_xP_fits : Cond.code yxP_fits cxP_fits 5 (some .boolean) ∈ big := big_at 299 rfl rfl
set_option maxRecDepth 100000 in
theorem kc_xP_isFull : Cond.code yxP_isFull cxP_isFull 1 (some .boolean) ∈ big := big_at 326 rfl rfl
set_option maxRecDepth 100000 in
theorem kc_xP_levelOf : Cond.code yxP_levelOf cxP_levelOf 5 (some .int) ∈ big := big_at 317 rfl rfl
theorem k_clN : Cond.classLink RxP 9 RxN ∈ big := big_at 105 (by decide +kernel) rfl
theorem k_insN : Cond.instantiable RxN 5 ∈ big := big_at 331 (by decide +kernel) rfl
theorem k_iniN : Cond.initialized RxN ∈ big := big_at 64 (by decide +kernel) rfl
