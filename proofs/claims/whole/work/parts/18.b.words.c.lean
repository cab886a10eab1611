theorem kw_xT_9 : ∀ w ∈ ([.methodLink RxT 9 yxC_init, .instanceMethod yxC_init, .initialized yxC_init.cls] : List Cond), w ∈ big := big_ps [82, 83, 52] _ (by decide +kernel) rfl
theorem kw_xT_18 : ∀ w ∈ ([.methodLink RxT 18 yxP_init, .instanceMethod yxP_init, .initialized yxP_init.cls] : List Cond), w ∈ big := big_ps [101, 102, 54] _ (by decide +kernel) rfl
theorem kM_xT_44 : Cond.methodLink RxT 44 Lib.Math.min.name ∈ big ∧ Cond.static Lib.Math.min.name ∈ big ∧ Cond.initialized "java/lang/Math" ∈ big ∧ Cond.code Lib.Math.min.name Lib.Math.min.code 2 (some .int) ∈ big := ⟨big_at 165 (by decide +kernel) rfl, big_at 166 (by decide +kernel) rfl, big_at 61 (by decide +kernel) rfl, big_at 167 (by decide +kernel) rfl⟩
theorem kM_xT_50 : Cond.methodLink RxT 50 Lib.Math.max.name ∈ big ∧ Cond.static Lib.Math.max.name ∈ big ∧ Cond.initialized "java/lang/Math" ∈ big ∧ Cond.code Lib.Math.max.name Lib.Math.max.code 2 (some .int) ∈ big := ⟨big_at 168 (by decide +kernel) rfl, big_at 169 (by decide +kernel) rfl, big_at 61 (by decide +kernel) rfl, big_at 170 (by decide +kernel) rfl⟩
theorem kw_xT_53 : ∀ w ∈ ([.methodLink RxT 53 yxM_init, .instanceMethod yxM_init, .initialized yxM_init.cls] : List Cond), w ∈ big := big_ps [171, 172, 60] _ (by decide +kernel) rfl
theorem kL_xQ_7 : Cond.constantLong RxQ 7 (22284965284229) ∈ big := big_at 828 (by decide +kernel) rfl
theorem kL_xQ_9 : Cond.constantLong RxQ 9 (480652) ∈ big := big_at 829 (by decide +kernel) rfl
theorem kL_xQ_11 : Cond.constantLong RxQ 11 (55306576122147) ∈ big := big_at 830 (by decide +kernel) rfl
theorem kL_xQ_13 : Cond.constantLong RxQ 13 (9900216) ∈ big := big_at 831 (by decide +kernel) rfl
theorem kL_xQ_15 : Cond.constantLong RxQ 15 (99956) ∈ big := big_at 832 (by decide +kernel) rfl
theorem kL_xQ_17 : Cond.constantLong RxQ 17 (4375176) ∈ big := big_at 833 (by decide +kernel) rfl
theorem kL_xQ_19 : Cond.constantLong RxQ 19 (14476956146) ∈ big := big_at 834 (by decide +kernel) rfl
theorem kL_xQ_21 : Cond.constantLong RxQ 21 (20047340965) ∈ big := big_at 835 (by decide +kernel) rfl
theorem kL_xQ_23 : Cond.constantLong RxQ 23 (5851634) ∈ big := big_at 836 (by decide +kernel) rfl
theorem kL_xQ_25 : Cond.constantLong RxQ 25 (6325598299630) ∈ big := big_at 837 (by decide +kernel) rfl
theorem kF_xC_17 : Cond.fieldLink RxC 17 "ThrowScenario$Classes" "GIVEN_PARENTS" "[I" ∈ big := big_at 86 (by decide +kernel) rfl
theorem kY_xC_20 : Cond.methodLink RxC 20 arraycopyName ∈ big ∧ Cond.native arraycopyName ∈ big ∧ Cond.static arraycopyName ∈ big ∧ Cond.initialized "java/lang/System" ∈ big := ⟨big_at 88 (by decide +kernel) rfl, big_at 90 (by decide +kernel) rfl, big_at 89 (by decide +kernel) rfl, big_at 53 (by decide +kernel) rfl⟩
theorem kw_xR_11 : ∀ w ∈ ([.methodLink RxR 11 yxB_init, .instanceMethod yxB_init, .initialized yxB_init.cls] : List Cond), w ∈ big := big_ps [128, 129, 57] _ (by decide +kernel) rfl
set_option maxRecDepth 100000 in
theorem kc_xC_init : Cond.code yxC_init cxC_init 1 none ∈ big := big_at 84 rfl rfl
set_option maxRecDepth 100000 in
theorem kc_xM_init : Cond.code yxM_init cxM_init 5 none ∈ big := big_at 173 rfl rfl
set_option maxRecDepth 100000 in
theorem kc_xP_init : Cond.code yxP_init cxP_init 3 none ∈ big := big_at 103 rfl rfl
set_option maxRecDepth 100000 in
theorem kc_xB_init : Cond.code yxB_init cxB_init 1 none ∈ big := big_at 130 rfl rfl
theorem k_oi_xT : Cond.methodLink RxT 1 Lib.objectInit ∈ big := big_at 77 (by decide +kernel) rfl
theorem k_cl_xT_7 : Cond.classLink RxT 7 RxC ∈ big := big_at 80 (by decide +kernel) rfl
theorem k_cl_xT_16 : Cond.classLink RxT 16 RxP ∈ big := big_at 99 (by decide +kernel) rfl
theorem k_cl_xT_25 : Cond.classLink RxT 25 RxR ∈ big := big_at 120 (by decide +kernel) rfl
theorem k_cl_xT_42 : Cond.classLink RxT 42 RxM ∈ big := big_at 163 (by decide +kernel) rfl
theorem k_oi_xQ : Cond.methodLink RxQ 1 Lib.objectInit ∈ big := big_at 827 (by decide +kernel) rfl
theorem k_oi_xC : Cond.methodLink RxC 1 Lib.objectInit ∈ big := big_at 85 (by decide +kernel) rfl
theorem k_oi_xM : Cond.methodLink RxM 3 Lib.objectInit ∈ big := big_at 174 (by decide +kernel) rfl
theorem k_cl_xM_23 : Cond.classLink RxM 23 RxH ∈ big := big_at 175 (by decide +kernel) rfl
theorem k_oi_xP : Cond.methodLink RxP 1 Lib.objectInit ∈ big := big_at 104 (by decide +kernel) rfl
theorem k_cl_xP_9 : Cond.classLink RxP 9 RxN ∈ big := big_at 105 (by decide +kernel) rfl
theorem k_oi_xR : Cond.methodLink RxR 3 Lib.objectInit ∈ big := big_at 125 (by decide +kernel) rfl
theorem k_cl_xR_9 : Cond.classLink RxR 9 RxB ∈ big := big_at 126 (by decide +kernel) rfl
theorem k_oi_xH : Cond.methodLink RxH 1 Lib.objectInit ∈ big := big_at 181 (by decide +kernel) rfl
theorem k_oi_xA : Cond.methodLink RxA 3 Lib.objectInit ∈ big := big_at 134 (by decide +kernel) rfl
theorem k_is_xT : Cond.instantiable RxT 8 ∈ big := big_at 73 (by decide +kernel) rfl
theorem k_in_xT : Cond.initialized RxT ∈ big := big_at 51 (by decide +kernel) rfl
theorem k_is_xC : Cond.instantiable RxC 2 ∈ big := big_at 81 (by decide +kernel) rfl
theorem k_in_xC : Cond.initialized RxC ∈ big := big_at 52 (by decide +kernel) rfl
theorem k_is_xP : Cond.instantiable RxP 4 ∈ big := big_at 100 (by decide +kernel) rfl
theorem k_in_xP : Cond.initialized RxP ∈ big := big_at 54 (by decide +kernel) rfl
theorem k_is_xM : Cond.instantiable RxM 15 ∈ big := big_at 164 (by decide +kernel) rfl
theorem k_in_xM : Cond.initialized RxM ∈ big := big_at 60 (by decide +kernel) rfl
theorem k_is_xR : Cond.instantiable RxR 1 ∈ big := big_at 121 (by decide +kernel) rfl
theorem k_in_xR : Cond.initialized RxR ∈ big := big_at 55 (by decide +kernel) rfl
theorem k_is_xH : Cond.instantiable RxH 4 ∈ big := big_at 177 (by decide +kernel) rfl
theorem k_in_xH : Cond.initialized RxH ∈ big := big_at 62 (by decide +kernel) rfl
theorem k_is_xB : Cond.instantiable RxB 4 ∈ big := big_at 127 (by decide +kernel) rfl
theorem k_in_xB : Cond.initialized RxB ∈ big := big_at 57 (by decide +kernel) rfl
theorem k_is_xQ : Cond.instantiable RxQ 45 ∈ big := big_at 823 (by decide +kernel) rfl
theorem k_in_xQ : Cond.initialized RxQ ∈ big := big_at 63 (by decide +kernel) rfl
theorem k_ac_int : Cond.arrayClass FieldType.int ∈ big := big_at 98 (by decide +kernel) rfl
theorem k_ac_byte : Cond.arrayClass FieldType.byte ∈ big := big_at 157 (by decide +kernel) rfl
theorem k_ac_long : Cond.arrayClass FieldType.long ∈ big := big_at 974 (by decide +kernel) rfl
theorem kz_xT_27 : Cond.instanceMethod yxR_init ∈ big ∧ Cond.initialized yxR_init.cls ∈ big := ⟨big_at 123 (by decide +kernel) rfl, big_at 55 (by decide +kernel) rfl⟩
set_option maxRecDepth 100000 in
theorem kc_xR_init : Cond.code yxR_init cxR_init 1 none ∈ big := big_at 124 rfl rfl
theorem kz_xM_62 : Cond.instanceMethod yxH_init ∈ big ∧ Cond.initialized yxH_init.cls ∈ big := ⟨big_at 179 (by decide +kernel) rfl, big_at 62 (by decide +kernel) rfl⟩
set_option maxRecDepth 100000 in
theorem kc_xH_init : Cond.code yxH_init cxH_init 1 none ∈ big := big_at 180 rfl rfl
