theorem kw_xB_1 : ∀ w ∈ ([.methodLink RxB 1 yxA_init, .instanceMethod yxA_init, .initialized yxA_init.cls] : List Cond), w ∈ big := big_ps [131, 132, 56] _ (by decide +kernel) rfl
theorem kF_xA_18 : Cond.fieldLink RxA 18 "java/lang/String" "COMPACT_STRINGS" "Z" ∈ big := big_at 135 (by decide +kernel) rfl
theorem kF_xA_15 : Cond.fieldLink RxA 15 "java/lang/AbstractStringBuilder" "value" "[B" ∈ big := big_at 144 (by decide +kernel) rfl
theorem kF_xA_22 : Cond.fieldLink RxA 22 "java/lang/AbstractStringBuilder" "coder" "B" ∈ big := big_at 145 (by decide +kernel) rfl
theorem kw_xB_333 : ∀ w ∈ ([.methodLink RxB 333 yxA_setLength, .sameMethod yxA_setLength.cls yxA_setLength.cls yxA_setLength.name yxA_setLength.desc, .superclass RxB yxA_setLength.cls, .instanceMethod yxA_setLength, .initialized yxA_setLength.cls] : List Cond), w ∈ big := big_ps [522, 1153, 156, 523, 56] _ (by decide +kernel) rfl
theorem k_lat : Cond.selects RxB yxA_isLatin1 yxA_isLatin1 ∈ big := big_at 557 (by decide +kernel) rfl
theorem ks_xA_ensureCapacityInternal {p : Program} {m : MethodId} {c : Code} {cc : ByteArray} {nL : Nat} {s : State} {args : Array Value} {own : String} (X : CallFix p m c cc nL s args big own) : (Cond.selects RxB yxA_ensureCapacityInternal yxA_ensureCapacityInternal).before args s = true := X.2.2.2.2 _ (big_sel 0 rfl)
theorem kw_xA_100 : ∀ w ∈ ([.methodLink RxA 100 yxA_ensureCapacityInternal, .sameMethod yxA_ensureCapacityInternal.cls yxA_ensureCapacityInternal.cls yxA_ensureCapacityInternal.name yxA_ensureCapacityInternal.desc, .instanceMethod yxA_ensureCapacityInternal, .initialized yxA_ensureCapacityInternal.cls] : List Cond), w ∈ big := big_ps [525, 1154, 527, 56] _ (by decide +kernel) rfl
theorem kF_xA_79 : Cond.fieldLink RxA 79 "java/lang/AbstractStringBuilder" "count" "I" ∈ big := big_at 147 (by decide +kernel) rfl
theorem ks_xA_isLatin1 {p : Program} {m : MethodId} {c : Code} {cc : ByteArray} {nL : Nat} {s : State} {args : Array Value} {own : String} (X : CallFix p m c cc nL s args big own) : (Cond.selects RxB yxA_isLatin1 yxA_isLatin1).before args s = true := X.2.2.2.2 _ k_lat
theorem kw_xA_83 : ∀ w ∈ ([.methodLink RxA 83 yxA_isLatin1, .sameMethod yxA_isLatin1.cls yxA_isLatin1.cls yxA_isLatin1.name yxA_isLatin1.desc, .instanceMethod yxA_isLatin1, .initialized yxA_isLatin1.cls] : List Cond), w ∈ big := big_ps [554, 556, 555, 56] _ (by decide +kernel) rfl
theorem kF_xA_73 : Cond.fieldLink RxA 73 "java/lang/AbstractStringBuilder" "maybeLatin1" "Z" ∈ big := big_at 146 (by decide +kernel) rfl
theorem ks_xA_newCapacity {p : Program} {m : MethodId} {c : Code} {cc : ByteArray} {nL : Nat} {s : State} {args : Array Value} {own : String} (X : CallFix p m c cc nL s args big own) : (Cond.selects RxB yxA_newCapacity yxA_newCapacity).before args s = true := X.2.2.2.2 _ (big_sel 1 rfl)
theorem kw_xA_104 : ∀ w ∈ ([.methodLink RxA 104 yxA_newCapacity, .sameMethod yxA_newCapacity.cls yxA_newCapacity.cls yxA_newCapacity.name yxA_newCapacity.desc, .instanceMethod yxA_newCapacity, .initialized yxA_newCapacity.cls] : List Cond), w ∈ big := big_ps [529, 1155, 531, 56] _ (by decide +kernel) rfl
theorem kw_xA_108 : ∀ w ∈ ([.methodLink RxA 108 yxY_copyOf, .static yxY_copyOf, .initialized yxY_copyOf.cls] : List Cond), w ∈ big := big_ps [542, 543, 68] _ (by decide +kernel) rfl
theorem kw_xA_114 : ∀ w ∈ ([.methodLink RxA 114 yxZ_newLength, .static yxZ_newLength, .initialized yxZ_newLength.cls] : List Cond), w ∈ big := big_ps [533, 534, 67] _ (by decide +kernel) rfl
theorem kI_xA_39 : Cond.constant RxA 39 (2147483647) ∈ big := big_at 541 (by decide +kernel) rfl
theorem kM_xZ_194 : Cond.methodLink RxZ 194 Lib.Math.max.name ∈ big ∧ Cond.static Lib.Math.max.name ∈ big ∧ Cond.initialized "java/lang/Math" ∈ big ∧ Cond.code Lib.Math.max.name Lib.Math.max.code 2 (some .int) ∈ big := ⟨big_at 536 (by decide +kernel) rfl, big_at 169 (by decide +kernel) rfl, big_at 61 (by decide +kernel) rfl, big_at 170 (by decide +kernel) rfl⟩
theorem kI_xZ_200 : Cond.constant RxZ 200 (2147483639) ∈ big := big_at 537 (by decide +kernel) rfl
theorem kM_xY_304 : Cond.methodLink RxY 304 Lib.Math.min.name ∈ big ∧ Cond.static Lib.Math.min.name ∈ big ∧ Cond.initialized "java/lang/Math" ∈ big ∧ Cond.code Lib.Math.min.name Lib.Math.min.code 2 (some .int) ∈ big := ⟨big_at 552 (by decide +kernel) rfl, big_at 166 (by decide +kernel) rfl, big_at 61 (by decide +kernel) rfl, big_at 167 (by decide +kernel) rfl⟩
theorem kY_xY_150 : Cond.methodLink RxY 150 arraycopyName ∈ big ∧ Cond.native arraycopyName ∈ big ∧ Cond.static arraycopyName ∈ big ∧ Cond.initialized "java/lang/System" ∈ big := ⟨big_at 553 (by decide +kernel) rfl, big_at 90 (by decide +kernel) rfl, big_at 89 (by decide +kernel) rfl, big_at 53 (by decide +kernel) rfl⟩
theorem kw_xB_29 : ∀ w ∈ ([.methodLink RxB 29 yxA_append, .sameMethod yxA_append.cls yxA_append.cls yxA_append.name yxA_append.desc, .superclass RxB yxA_append.cls, .instanceMethod yxA_append, .initialized yxA_append.cls] : List Cond), w ∈ big := big_ps [585, 1156, 156, 586, 56] _ (by decide +kernel) rfl
theorem kw_xA_32 : ∀ w ∈ ([.methodLink RxA 32 yxS_length, .instanceMethod yxS_length, .selects yxS_length.cls yxS_length yxS_length, .initialized yxS_length.cls] : List Cond), w ∈ big := big_ps [618, 619, 620, 58] _ (by decide +kernel) rfl
theorem ks_xA_putStringAt {p : Program} {m : MethodId} {c : Code} {cc : ByteArray} {nL : Nat} {s : State} {args : Array Value} {own : String} (X : CallFix p m c cc nL s args big own) : (Cond.selects RxB yxA_putStringAt yxA_putStringAt).before args s = true := X.2.2.2.2 _ (big_sel 2 rfl)
theorem kw_xA_208 : ∀ w ∈ ([.methodLink RxA 208 yxA_putStringAt, .sameMethod yxA_putStringAt.cls yxA_putStringAt.cls yxA_putStringAt.name yxA_putStringAt.desc, .instanceMethod yxA_putStringAt, .initialized yxA_putStringAt.cls] : List Cond), w ∈ big := big_ps [627, 1158, 629, 56] _ (by decide +kernel) rfl
theorem kF_xS_9 : Cond.fieldLink RxS 9 "java/lang/String" "value" "[B" ∈ big := big_at 1166 (by decide +kernel) rfl
theorem kw_xS_335 : ∀ w ∈ ([.methodLink RxS 335 yxS_coder, .instanceMethod yxS_coder, .selects yxS_coder.cls yxS_coder yxS_coder, .initialized yxS_coder.cls] : List Cond), w ∈ big := big_ps [622, 623, 624, 58] _ (by decide +kernel) rfl
theorem kF_xS_38 : Cond.fieldLink RxS 38 "java/lang/String" "COMPACT_STRINGS" "Z" ∈ big := big_at 626 (by decide +kernel) rfl
theorem kF_xS_15 : Cond.fieldLink RxS 15 "java/lang/String" "coder" "B" ∈ big := big_at 1167 (by decide +kernel) rfl
theorem ks_xA_inflateIfNeededFor {p : Program} {m : MethodId} {c : Code} {cc : ByteArray} {nL : Nat} {s : State} {args : Array Value} {own : String} (X : CallFix p m c cc nL s args big own) : (Cond.selects RxB yxA_inflateIfNeededFor yxA_inflateIfNeededFor).before args s = true := X.2.2.2.2 _ (big_sel 3 rfl)
theorem kw_xA_397 : ∀ w ∈ ([.methodLink RxA 397 yxA_inflateIfNeededFor, .sameMethod yxA_inflateIfNeededFor.cls yxA_inflateIfNeededFor.cls yxA_inflateIfNeededFor.name yxA_inflateIfNeededFor.desc, .instanceMethod yxA_inflateIfNeededFor, .initialized yxA_inflateIfNeededFor.cls] : List Cond), w ∈ big := big_ps [631, 1159, 633, 56] _ (by decide +kernel) rfl
theorem kw_xA_399 : ∀ w ∈ ([.methodLink RxA 399 yxS_getBytes, .instanceMethod yxS_getBytes, .selects yxS_getBytes.cls yxS_getBytes yxS_getBytes, .initialized yxS_getBytes.cls] : List Cond), w ∈ big := big_ps [655, 656, 657, 58] _ (by decide +kernel) rfl
theorem kw_xA_40 : ∀ w ∈ ([.methodLink RxA 40 yxS_coder, .instanceMethod yxS_coder, .selects yxS_coder.cls yxS_coder yxS_coder, .initialized yxS_coder.cls] : List Cond), w ∈ big := big_ps [635, 623, 624, 58] _ (by decide +kernel) rfl
theorem kY_xS_212 : Cond.methodLink RxS 212 arraycopyName ∈ big ∧ Cond.native arraycopyName ∈ big ∧ Cond.static arraycopyName ∈ big ∧ Cond.initialized "java/lang/System" ∈ big := ⟨big_at 659 (by decide +kernel) rfl, big_at 90 (by decide +kernel) rfl, big_at 89 (by decide +kernel) rfl, big_at 53 (by decide +kernel) rfl⟩
theorem kw_xB_50 : ∀ w ∈ ([.methodLink RxB 50 yxA_append2, .sameMethod yxA_append2.cls yxA_append2.cls yxA_append2.name yxA_append2.desc, .superclass RxB yxA_append2.cls, .instanceMethod yxA_append2, .initialized yxA_append2.cls] : List Cond), w ∈ big := big_ps [666, 1161, 156, 667, 56] _ (by decide +kernel) rfl
theorem kw_xA_191 : ∀ w ∈ ([.methodLink RxA 191 yxU_canEncode, .static yxU_canEncode, .initialized yxU_canEncode.cls] : List Cond), w ∈ big := big_ps [669, 670, 69] _ (by decide +kernel) rfl
theorem kF_xS_1053 : Cond.fieldLink RxS 1053 "jdk/internal/util/Preconditions" "SIOOBE_FORMATTER" "Ljava/util/function/BiFunction;" ∈ big := big_at 604 (by decide +kernel) rfl
theorem kw_xS_1059 : ∀ w ∈ ([.methodLink RxS 1059 yxX_checkIndex, .static yxX_checkIndex, .initialized yxX_checkIndex.cls] : List Cond), w ∈ big := big_ps [681, 682, 70] _ (by decide +kernel) rfl
theorem kw_xB_53 : ∀ w ∈ ([.methodLink RxB 53 yxA_append3, .sameMethod yxA_append3.cls yxA_append3.cls yxA_append3.name yxA_append3.desc, .superclass RxB yxA_append3.cls, .instanceMethod yxA_append3, .initialized yxA_append3.cls] : List Cond), w ∈ big := big_ps [688, 1162, 156, 689, 56] _ (by decide +kernel) rfl
theorem kw_xA_245 : ∀ w ∈ ([.methodLink RxA 245 yxI_stringSize, .static yxI_stringSize, .initialized yxI_stringSize.cls] : List Cond), w ∈ big := big_ps [691, 692, 71] _ (by decide +kernel) rfl
theorem kw_xA_248 : ∀ w ∈ ([.methodLink RxA 248 yxI_getChars, .static yxI_getChars, .initialized yxI_getChars.cls] : List Cond), w ∈ big := big_ps [694, 695, 71] _ (by decide +kernel) rfl
theorem kF_xI_83 : Cond.fieldLink RxI 83 "java/lang/Integer" "DigitOnes" "[B" ∈ big := big_at 697 (by decide +kernel) rfl
theorem kF_xI_87 : Cond.fieldLink RxI 87 "java/lang/Integer" "DigitTens" "[B" ∈ big := big_at 699 (by decide +kernel) rfl
theorem kw_xB_343 : ∀ w ∈ ([.methodLink RxB 343 yxA_length, .sameMethod yxA_length.cls yxA_length.cls yxA_length.name yxA_length.desc, .superclass RxB yxA_length.cls, .instanceMethod yxA_length, .initialized yxA_length.cls] : List Cond), w ∈ big := big_ps [738, 1163, 156, 739, 56] _ (by decide +kernel) rfl
theorem kw_xB_329 : ∀ w ∈ ([.methodLink RxB 329 yxA_charAt, .sameMethod yxA_charAt.cls yxA_charAt.cls yxA_charAt.name yxA_charAt.desc, .superclass RxB yxA_charAt.cls, .instanceMethod yxA_charAt, .initialized yxA_charAt.cls] : List Cond), w ∈ big := big_ps [795, 1164, 156, 796, 56] _ (by decide +kernel) rfl
theorem kM_xA_138 : Cond.methodLink RxA 138 Lib.Math.min.name ∈ big ∧ Cond.static Lib.Math.min.name ∈ big ∧ Cond.initialized "java/lang/Math" ∈ big ∧ Cond.code Lib.Math.min.name Lib.Math.min.code 2 (some .int) ∈ big := ⟨big_at 798 (by decide +kernel) rfl, big_at 166 (by decide +kernel) rfl, big_at 61 (by decide +kernel) rfl, big_at 167 (by decide +kernel) rfl⟩
theorem kw_xA_144 : ∀ w ∈ ([.methodLink RxA 144 yxS_checkIndex, .static yxS_checkIndex, .initialized yxS_checkIndex.cls] : List Cond), w ∈ big := big_ps [799, 679, 58] _ (by decide +kernel) rfl
set_option maxRecDepth 100000 in
theorem kc_xA_init : Cond.code yxA_init cxA_init 2 none ∈ big := big_at 133 rfl rfl
set_option maxRecDepth 100000 in
theorem kc_xA_append2 : Cond.code yxA_append2 cxA_append2 2 (some (.object "java/lang/AbstractStringBuilder")) ∈ big := big_at 668 rfl rfl
set_option maxRecDepth 100000 in
theorem kc_xA_append3 : Cond.code yxA_append3 cxA_append3 4 (some (.object "java/lang/AbstractStringBuilder")) ∈ big := big_at 690 rfl rfl
set_option maxRecDepth 100000 in
theorem kc_xA_append : Cond.code yxA_append cxA_append 3 (some (.object "java/lang/AbstractStringBuilder")) ∈ big := big_at 587 rfl rfl
set_option maxRecDepth 100000 in
theorem kc_xA_charAt : Cond.code yxA_charAt cxA_charAt 5 (some .char) ∈ big := big_at 797 rfl rfl
set_option maxRecDepth 100000 in
theorem kc_xA_ensureCapacityInternal : Cond.code yxA_ensureCapacityInternal cxA_ensureCapacityInternal 3 none ∈ big := big_at 528 rfl rfl
set_option maxRecDepth 100000 in
theorem kc_xA_inflateIfNeededFor : Cond.code yxA_inflateIfNeededFor cxA_inflateIfNeededFor 2 none ∈ big := big_at 634 rfl rfl
set_option maxRecDepth 100000 in
theorem kc_xA_isLatin1 : Cond.code yxA_isLatin1 cxA_isLatin1 1 (some .boolean) ∈ big := big_at 558 rfl rfl
set_option maxRecDepth 100000 in
theorem kc_xA_length : Cond.code yxA_length cxA_length 1 (some .int) ∈ big := big_at 740 rfl rfl
set_option maxRecDepth 100000 in
theorem kc_xA_newCapacity : Cond.code yxA_newCapacity cxA_newCapacity 6 (some .int) ∈ big := big_at 532 rfl rfl
set_option maxRecDepth 100000 in
theorem kc_xA_putStringAt : Cond.code yxA_putStringAt cxA_putStringAt 3 none ∈ big := big_at 630 rfl rfl
set_option maxRecDepth 100000 in
theorem kc_xA_setLength : Cond.code yxA_setLength cxA_setLength 2 none ∈ big := big_at 524 rfl rfl
set_option maxRecDepth 100000 in
theorem kc_xI_getChars : Cond.code yxI_getChars cxI_getChars 7 (some .int) ∈ big := big_at 696 rfl rfl
set_option maxRecDepth 100000 in
theorem kc_xI_stringSize : Cond.code yxI_stringSize cxI_stringSize 4 (some .int) ∈ big := big_at 693 rfl rfl
set_option maxRecDepth 100000 in
theorem kc_xS_checkIndex : Cond.code yxS_checkIndex cxS_checkIndex 2 none ∈ big := big_at 680 rfl rfl
set_option maxRecDepth 100000 in
theorem kc_xS_coder : Cond.code yxS_coder cxS_coder 1 (some .byte) ∈ big := big_at 625 rfl rfl
set_option maxRecDepth 100000 in
theorem kc_xS_getBytes : Cond.code yxS_getBytes cxS_getBytes 4 none ∈ big := big_at 658 rfl rfl
set_option maxRecDepth 100000 in
theorem kc_xS_length : Cond.code yxS_length cxS_length 1 (some .int) ∈ big := big_at 621 rfl rfl
set_option maxRecDepth 100000 in
theorem kc_xU_canEncode : Cond.code yxU_canEncode cxU_canEncode 1 (some .boolean) ∈ big := big_at 671 rfl rfl
set_option maxRecDepth 100000 in
theorem kc_xY_copyOf : Cond.code yxY_copyOf cxY_copyOf 3 (some (.array .byte)) ∈ big := big_at 544 rfl rfl
set_option maxRecDepth 100000 in
theorem kc_xZ_newLength : Cond.code yxZ_newLength cxZ_newLength 4 (some .int) ∈ big := big_at 535 rfl rfl
set_option maxRecDepth 100000 in
theorem kc_xX_checkIndex : Cond.code yxX_checkIndex cxX_checkIndex 3 (some .int) ∈ big := big_at 683 rfl rfl
theorem in_xB : ∀ w ∈ u_ws RxB TxB 4, w ∈ big := big_ps [148, 150, 152, 154] _ (by decide +kernel) (by decide +kernel)
