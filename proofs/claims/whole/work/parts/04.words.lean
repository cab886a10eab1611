/-! base rows: words -/
/-- what is selected of the private methods above a StringBuilder: shown at the law's start -/
def selB : List Cond := [.selects "java/lang/StringBuilder" ⟨"java/lang/AbstractStringBuilder", "ensureCapacityInternal", "(I)V"⟩ ⟨"java/lang/AbstractStringBuilder", "ensureCapacityInternal", "(I)V"⟩, .selects "java/lang/StringBuilder" ⟨"java/lang/AbstractStringBuilder", "newCapacity", "(I)I"⟩ ⟨"java/lang/AbstractStringBuilder", "newCapacity", "(I)I"⟩, .selects "java/lang/StringBuilder" ⟨"java/lang/AbstractStringBuilder", "putStringAt", "(ILjava/lang/String;)V"⟩ ⟨"java/lang/AbstractStringBuilder", "putStringAt", "(ILjava/lang/String;)V"⟩, .selects "java/lang/StringBuilder" ⟨"java/lang/AbstractStringBuilder", "inflateIfNeededFor", "(Ljava/lang/String;)V"⟩ ⟨"java/lang/AbstractStringBuilder", "inflateIfNeededFor", "(Ljava/lang/String;)V"⟩]
def big : List Cond := selB ++ lw_tbl.filter goodWord
theorem big_at {w : Cond} (i : Nat) (h : lw_tbl[i]? = some w) (hg : goodWord w = true) : w ∈ big := List.mem_append_right _ (List.mem_filter.mpr ⟨List.mem_of_getElem? h, hg⟩)
theorem big_sel {w : Cond} (i : Nat) (h : selB[i]? = some w) : w ∈ big := List.mem_append_left _ (List.mem_of_getElem? h)
theorem selB_good : selB.all goodWord = true := by decide +kernel
theorem big_good : ∀ w ∈ big, (w.onTables && w.keeps) = true ∨ ∃ ty, w = .arrayClass ty := fun w h => by
  rcases List.mem_append.mp h with h | h
  · exact good_of_word (List.all_eq_true.mp selB_good w h)
  · exact good_of_word (List.mem_filter.mp h).2
theorem big_GoodIn {L : List Cond} (h : ∀ w ∈ L, w ∈ big) : GoodIn big L := fun w hw => ⟨h w hw, big_good w (h w hw)⟩
abbrev wz (y : MethodName) (cc : ByteArray) (n : Nat) (ret : Option FieldType) : List Cond := Cond.code y cc n ret :: big
theorem wz_in {y : MethodName} {cc : ByteArray} {n : Nat} {ret : Option FieldType} (hc : Cond.code y cc n ret ∈ big) : ∀ w ∈ wz y cc n ret, w ∈ big := fun w hw => by
  rcases List.mem_cons.mp hw with h | h
  · rw [h]; exact hc
  · exact h
theorem big_ps (ps : List Nat) (L : List Cond) (h : L = ps.filterMap (fun i => lw_tbl[i]?)) (hg : L.all goodWord = true) : ∀ w ∈ L, w ∈ big := fun w hw => by
  have h1 := List.all_eq_true.mp hg w hw
  rw [h] at hw
  obtain ⟨i, -, hi⟩ := List.mem_filterMap.mp hw
  exact big_at i hi h1
theorem kF_xC_13 : Cond.fieldLink RxC 13 "ThrowScenario$Classes" "size" "I" ∈ big := big_at 92 (by decide +kernel) rfl
theorem kw_xC_26 : ∀ w ∈ ([.methodLink RxC 26 yxC_has, .instanceMethod yxC_has, .selects yxC_has.cls yxC_has yxC_has, .initialized yxC_has.cls] : List Cond), w ∈ big := big_ps [448, 281, 282, 52] _ (by decide +kernel) rfl
theorem kF_xC_9 : Cond.fieldLink RxC 9 "ThrowScenario$Classes" "parents" "[I" ∈ big := big_at 91 (by decide +kernel) rfl
theorem kF_xM_11 : Cond.fieldLink RxM 11 "ThrowScenario$Machine" "variables" "[I" ∈ big := big_at 208 (by decide +kernel) rfl
theorem kF_xM_17 : Cond.fieldLink RxM 17 "ThrowScenario$Machine" "held" "[I" ∈ big := big_at 209 (by decide +kernel) rfl
theorem kF_xM_29 : Cond.fieldLink RxM 29 "ThrowScenario$Machine" "logSize" "I" ∈ big := big_at 212 (by decide +kernel) rfl
theorem kF_xM_33 : Cond.fieldLink RxM 33 "ThrowScenario$Machine" "made" "I" ∈ big := big_at 213 (by decide +kernel) rfl
theorem kF_xM_36 : Cond.fieldLink RxM 36 "ThrowScenario$Machine" "begun" "I" ∈ big := big_at 214 (by decide +kernel) rfl
theorem kF_xM_39 : Cond.fieldLink RxM 39 "ThrowScenario$Machine" "handlers" "I" ∈ big := big_at 215 (by decide +kernel) rfl
theorem kF_xM_42 : Cond.fieldLink RxM 42 "ThrowScenario$Machine" "secondParts" "I" ∈ big := big_at 216 (by decide +kernel) rfl
theorem kF_xM_45 : Cond.fieldLink RxM 45 "ThrowScenario$Machine" "deepest" "I" ∈ big := big_at 217 (by decide +kernel) rfl
theorem kF_xM_20 : Cond.fieldLink RxM 20 "ThrowScenario$Machine" "log" "[I" ∈ big := big_at 210 (by decide +kernel) rfl
theorem kF_xM_48 : Cond.fieldLink RxM 48 "ThrowScenario$Machine" "carried" "I" ∈ big := big_at 218 (by decide +kernel) rfl
theorem kF_xM_63 : Cond.fieldLink RxM 63 "ThrowScenario$Machine" "thrown" "LThrowScenario$Thrown;" ∈ big := big_at 219 (by decide +kernel) rfl
theorem kw_xM_75 : ∀ w ∈ ([.methodLink RxM 75 yxM_mayBegin, .instanceMethod yxM_mayBegin, .selects yxM_mayBegin.cls yxM_mayBegin yxM_mayBegin, .initialized yxM_mayBegin.cls] : List Cond), w ∈ big := big_ps [396, 398, 2, 60] _ (by decide +kernel) rfl
theorem kF_xM_79 : Cond.fieldLink RxM 79 "ThrowScenario$Way" "TIRING" "LThrowScenario$Way;" ∈ big := big_at 400 (by decide +kernel) rfl
theorem kM_xM_85 : Cond.methodLink RxM 85 Lib.Math.max.name ∈ big ∧ Cond.static Lib.Math.max.name ∈ big ∧ Cond.initialized "java/lang/Math" ∈ big ∧ Cond.code Lib.Math.max.name Lib.Math.max.code 2 (some .int) ∈ big := ⟨big_at 402 (by decide +kernel) rfl, big_at 169 (by decide +kernel) rfl, big_at 61 (by decide +kernel) rfl, big_at 170 (by decide +kernel) rfl⟩
theorem kF_xM_51 : Cond.fieldLink RxM 51 "ThrowScenario$Machine" "program" "LThrowScenario$Program;" ∈ big := big_at 205 (by decide +kernel) rfl
theorem kw_xM_91 : ∀ w ∈ ([.methodLink RxM 91 yxP_at, .instanceMethod yxP_at, .selects yxP_at.cls yxP_at yxP_at, .initialized yxP_at.cls] : List Cond), w ∈ big := big_ps [403, 404, 405, 54] _ (by decide +kernel) rfl
theorem kF_xM_95 : Cond.fieldLink RxM 95 "ThrowScenario$Node" "kind" "I" ∈ big := big_at 338 (by decide +kernel) rfl
theorem kw_xM_100 : ∀ w ∈ ([.methodLink RxM 100 yxM_sequence, .instanceMethod yxM_sequence, .selects yxM_sequence.cls yxM_sequence yxM_sequence, .initialized yxM_sequence.cls] : List Cond), w ∈ big := big_ps [407, 409, 3, 60] _ (by decide +kernel) rfl
theorem kw_xM_104 : ∀ w ∈ ([.methodLink RxM 104 yxM_choose, .instanceMethod yxM_choose, .selects yxM_choose.cls yxM_choose yxM_choose, .initialized yxM_choose.cls] : List Cond), w ∈ big := big_ps [413, 415, 4, 60] _ (by decide +kernel) rfl
theorem kw_xM_107 : ∀ w ∈ ([.methodLink RxM 107 yxM_loop, .instanceMethod yxM_loop, .selects yxM_loop.cls yxM_loop yxM_loop, .initialized yxM_loop.cls] : List Cond), w ∈ big := big_ps [417, 419, 5, 60] _ (by decide +kernel) rfl
theorem kw_xM_110 : ∀ w ∈ ([.methodLink RxM 110 yxM_call, .instanceMethod yxM_call, .selects yxM_call.cls yxM_call yxM_call, .initialized yxM_call.cls] : List Cond), w ∈ big := big_ps [423, 425, 6, 60] _ (by decide +kernel) rfl
theorem kw_xM_114 : ∀ w ∈ ([.methodLink RxM 114 yxM_tryAndCatch, .instanceMethod yxM_tryAndCatch, .selects yxM_tryAndCatch.cls yxM_tryAndCatch yxM_tryAndCatch, .initialized yxM_tryAndCatch.cls] : List Cond), w ∈ big := big_ps [440, 442, 8, 60] _ (by decide +kernel) rfl
theorem kw_xM_117 : ∀ w ∈ ([.methodLink RxM 117 yxM_doBoth, .instanceMethod yxM_doBoth, .selects yxM_doBoth.cls yxM_doBoth yxM_doBoth, .initialized yxM_doBoth.cls] : List Cond), w ∈ big := big_ps [449, 451, 9, 60] _ (by decide +kernel) rfl
theorem kw_xM_120 : ∀ w ∈ ([.methodLink RxM 120 yxM_lock, .instanceMethod yxM_lock, .selects yxM_lock.cls yxM_lock yxM_lock, .initialized yxM_lock.cls] : List Cond), w ∈ big := big_ps [453, 455, 10, 60] _ (by decide +kernel) rfl
theorem kF_xM_123 : Cond.fieldLink RxM 123 "ThrowScenario$Way" "BREAK" "LThrowScenario$Way;" ∈ big := big_at 421 (by decide +kernel) rfl
theorem kF_xM_126 : Cond.fieldLink RxM 126 "ThrowScenario$Node" "a" "I" ∈ big := big_at 340 (by decide +kernel) rfl
theorem kF_xM_129 : Cond.fieldLink RxM 129 "ThrowScenario$Way" "RETURN" "LThrowScenario$Way;" ∈ big := big_at 438 (by decide +kernel) rfl
theorem kw_xM_132 : ∀ w ∈ ([.methodLink RxM 132 yxM_carry, .instanceMethod yxM_carry, .selects yxM_carry.cls yxM_carry yxM_carry, .initialized yxM_carry.cls] : List Cond), w ∈ big := big_ps [457, 459, 11, 60] _ (by decide +kernel) rfl
theorem kF_xM_136 : Cond.fieldLink RxM 136 "ThrowScenario$Way" "EXIT" "LThrowScenario$Way;" ∈ big := big_at 461 (by decide +kernel) rfl
theorem kF_xM_139 : Cond.fieldLink RxM 139 "ThrowScenario$Node" "b" "I" ∈ big := big_at 342 (by decide +kernel) rfl
theorem kw_xM_142 : ∀ w ∈ ([.methodLink RxM 142 yxM_raise, .instanceMethod yxM_raise, .selects yxM_raise.cls yxM_raise yxM_raise, .initialized yxM_raise.cls] : List Cond), w ∈ big := big_ps [428, 430, 7, 60] _ (by decide +kernel) rfl
theorem kw_xM_145 : ∀ w ∈ ([.methodLink RxM 145 yxM_rethrow, .instanceMethod yxM_rethrow, .selects yxM_rethrow.cls yxM_rethrow yxM_rethrow, .initialized yxM_rethrow.cls] : List Cond), w ∈ big := big_ps [463, 465, 12, 60] _ (by decide +kernel) rfl
theorem kw_xM_149 : ∀ w ∈ ([.methodLink RxM 149 yxM_divide, .instanceMethod yxM_divide, .selects yxM_divide.cls yxM_divide yxM_divide, .initialized yxM_divide.cls] : List Cond), w ∈ big := big_ps [467, 469, 13, 60] _ (by decide +kernel) rfl
theorem kw_xM_153 : ∀ w ∈ ([.methodLink RxM 153 yxM_index, .instanceMethod yxM_index, .selects yxM_index.cls yxM_index yxM_index, .initialized yxM_index.cls] : List Cond), w ∈ big := big_ps [471, 473, 14, 60] _ (by decide +kernel) rfl
theorem kw_xM_156 : ∀ w ∈ ([.methodLink RxM 156 yxM_cast, .instanceMethod yxM_cast, .selects yxM_cast.cls yxM_cast yxM_cast, .initialized yxM_cast.cls] : List Cond), w ∈ big := big_ps [475, 477, 15, 60] _ (by decide +kernel) rfl
theorem kw_xM_160 : ∀ w ∈ ([.methodLink RxM 160 yxM_wake, .instanceMethod yxM_wake, .selects yxM_wake.cls yxM_wake yxM_wake, .initialized yxM_wake.cls] : List Cond), w ∈ big := big_ps [479, 481, 16, 60] _ (by decide +kernel) rfl
theorem kw_xM_163 : ∀ w ∈ ([.methodLink RxM 163 yxM_note, .instanceMethod yxM_note, .selects yxM_note.cls yxM_note yxM_note, .initialized yxM_note.cls] : List Cond), w ∈ big := big_ps [487, 489, 18, 60] _ (by decide +kernel) rfl
theorem kw_xM_71 : ∀ w ∈ ([.methodLink RxM 71 yxM_perform, .instanceMethod yxM_perform, .selects yxM_perform.cls yxM_perform yxM_perform, .initialized yxM_perform.cls] : List Cond), w ∈ big := big_ps [392, 394, 1, 60] _ (by decide +kernel) rfl
theorem kF_xM_166 : Cond.fieldLink RxM 166 "ThrowScenario$Way" "NORMALLY" "LThrowScenario$Way;" ∈ big := big_at 411 (by decide +kernel) rfl
theorem kF_xM_169 : Cond.fieldLink RxM 169 "ThrowScenario$Node" "c" "I" ∈ big := big_at 344 (by decide +kernel) rfl
theorem kw_xM_172 : ∀ w ∈ ([.methodLink RxM 172 yxP_isDefined, .instanceMethod yxP_isDefined, .selects yxP_isDefined.cls yxP_isDefined yxP_isDefined, .initialized yxP_isDefined.cls] : List Cond), w ∈ big := big_ps [427, 377, 378, 54] _ (by decide +kernel) rfl
theorem kF_xM_59 : Cond.fieldLink RxM 59 "ThrowScenario$Machine" "limit" "I" ∈ big := big_at 207 (by decide +kernel) rfl
theorem kw_xM_67 : ∀ w ∈ ([.methodLink RxM 67 yxP_statementOf, .instanceMethod yxP_statementOf, .selects yxP_statementOf.cls yxP_statementOf yxP_statementOf, .initialized yxP_statementOf.cls] : List Cond), w ∈ big := big_ps [388, 389, 390, 54] _ (by decide +kernel) rfl
theorem kF_xM_178 : Cond.fieldLink RxM 178 "ThrowScenario$Way" "THROWING" "LThrowScenario$Way;" ∈ big := big_at 436 (by decide +kernel) rfl
theorem kF_xM_181 : Cond.fieldLink RxM 181 "ThrowScenario$Way" "endsRun" "Z" ∈ big := big_at 1165 (by decide +kernel) rfl
theorem kF_xM_55 : Cond.fieldLink RxM 55 "ThrowScenario$Machine" "classes" "LThrowScenario$Classes;" ∈ big := big_at 206 (by decide +kernel) rfl
theorem kF_xM_185 : Cond.fieldLink RxM 185 "ThrowScenario$Thrown" "type" "I" ∈ big := big_at 185 (by decide +kernel) rfl
theorem kw_xM_188 : ∀ w ∈ ([.methodLink RxM 188 yxC_is, .instanceMethod yxC_is, .selects yxC_is.cls yxC_is yxC_is, .initialized yxC_is.cls] : List Cond), w ∈ big := big_ps [444, 445, 446, 52] _ (by decide +kernel) rfl
theorem kF_xM_194 : Cond.fieldLink RxM 194 "ThrowScenario$Thrown" "suppressed" "I" ∈ big := big_at 195 (by decide +kernel) rfl
theorem kF_xM_25 : Cond.fieldLink RxM 25 "ThrowScenario$Machine" "throwables" "[LThrowScenario$Thrown;" ∈ big := big_at 211 (by decide +kernel) rfl
theorem kw_xM_197 : ∀ w ∈ ([.methodLink RxM 197 yxH_become, .instanceMethod yxH_become, .selects yxH_become.cls yxH_become yxH_become, .initialized yxH_become.cls] : List Cond), w ∈ big := big_ps [432, 433, 434, 62] _ (by decide +kernel) rfl
theorem kw_xM_201 : ∀ w ∈ ([.methodLink RxM 201 yxM_addToLog, .instanceMethod yxM_addToLog, .selects yxM_addToLog.cls yxM_addToLog yxM_addToLog, .initialized yxM_addToLog.cls] : List Cond), w ∈ big := big_ps [483, 485, 17, 60] _ (by decide +kernel) rfl
theorem kw_xM_205 : ∀ w ∈ ([.methodLink RxM 205 yxH_origin, .instanceMethod yxH_origin, .selects yxH_origin.cls yxH_origin yxH_origin, .initialized yxH_origin.cls] : List Cond), w ∈ big := big_ps [491, 492, 493, 62] _ (by decide +kernel) rfl
theorem kF_xP_19 : Cond.fieldLink RxP 19 "ThrowScenario$Program" "size" "I" ∈ big := big_at 110 (by decide +kernel) rfl
theorem kF_xP_11 : Cond.fieldLink RxP 11 "ThrowScenario$Program" "nodes" "[LThrowScenario$Node;" ∈ big := big_at 108 (by decide +kernel) rfl
theorem kF_xP_15 : Cond.fieldLink RxP 15 "ThrowScenario$Program" "statements" "[I" ∈ big := big_at 109 (by decide +kernel) rfl
theorem kw_xP_34 : ∀ w ∈ ([.methodLink RxP 34 yxP_isRoutine, .static yxP_isRoutine, .initialized yxP_isRoutine.cls] : List Cond), w ∈ big := big_ps [307, 308, 54] _ (by decide +kernel) rfl
theorem kw_xP_38 : ∀ w ∈ ([.methodLink RxP 38 yxP_isVariable, .static yxP_isVariable, .initialized yxP_isVariable.cls] : List Cond), w ∈ big := big_ps [300, 301, 54] _ (by decide +kernel) rfl
theorem kw_xP_41 : ∀ w ∈ ([.methodLink RxP 41 yxP_isNode, .instanceMethod yxP_isNode, .selects yxP_isNode.cls yxP_isNode yxP_isNode, .initialized yxP_isNode.cls] : List Cond), w ∈ big := big_ps [303, 304, 305, 54] _ (by decide +kernel) rfl
theorem kF_xP_23 : Cond.fieldLink RxP 23 "ThrowScenario$Program" "classes" "LThrowScenario$Classes;" ∈ big := big_at 107 (by decide +kernel) rfl
theorem kw_xP_44 : ∀ w ∈ ([.methodLink RxP 44 yxC_has, .instanceMethod yxC_has, .selects yxC_has.cls yxC_has yxC_has, .initialized yxC_has.cls] : List Cond), w ∈ big := big_ps [310, 281, 282, 52] _ (by decide +kernel) rfl
theorem kw_xP_49 : ∀ w ∈ ([.methodLink RxP 49 yxP_isMonitor, .static yxP_isMonitor, .initialized yxP_isMonitor.cls] : List Cond), w ∈ big := big_ps [311, 312, 54] _ (by decide +kernel) rfl
theorem kw_xP_52 : ∀ w ∈ ([.methodLink RxP 52 yxP_levelAt, .instanceMethod yxP_levelAt, .selects yxP_levelAt.cls yxP_levelAt yxP_levelAt, .initialized yxP_levelAt.cls] : List Cond), w ∈ big := big_ps [318, 320, 0, 54] _ (by decide +kernel) rfl
theorem kM_xP_56 : Cond.methodLink RxP 56 Lib.Math.max.name ∈ big ∧ Cond.static Lib.Math.max.name ∈ big ∧ Cond.initialized "java/lang/Math" ∈ big ∧ Cond.code Lib.Math.max.name Lib.Math.max.code 2 (some .int) ∈ big := ⟨big_at 322 (by decide +kernel) rfl, big_at 169 (by decide +kernel) rfl, big_at 61 (by decide +kernel) rfl, big_at 170 (by decide +kernel) rfl⟩
theorem kF_xP_62 : Cond.fieldLink RxP 62 "ThrowScenario$Node" "level" "I" ∈ big := big_at 346 (by decide +kernel) rfl
theorem kF_xH_7 : Cond.fieldLink RxH 7 "ThrowScenario$Thrown" "type" "I" ∈ big := big_at 182 (by decide +kernel) rfl
theorem kF_xH_13 : Cond.fieldLink RxH 13 "ThrowScenario$Thrown" "message" "I" ∈ big := big_at 186 (by decide +kernel) rfl
theorem kF_xH_16 : Cond.fieldLink RxH 16 "ThrowScenario$Thrown" "cause" "LThrowScenario$Thrown;" ∈ big := big_at 189 (by decide +kernel) rfl
theorem kF_xH_20 : Cond.fieldLink RxH 20 "ThrowScenario$Thrown" "suppressed" "I" ∈ big := big_at 192 (by decide +kernel) rfl
set_option maxRecDepth 100000 in
theorem kc_xC_has : Cond.code yxC_has cxC_has 2 (some .boolean) ∈ big := big_at 283 rfl rfl
set_option maxRecDepth 100000 in
theorem kc_xC_is : Cond.code yxC_is cxC_is 5 (some .boolean) ∈ big := big_at 447 rfl rfl
set_option maxRecDepth 100000 in
theorem kc_xM_addToLog : Cond.code yxM_addToLog cxM_addToLog 2 none ∈ big := big_at 486 rfl rfl
set_option maxRecDepth 100000 in
theorem kc_xM_call : Cond.code yxM_call cxM_call 4 (some (.object "ThrowScenario$Way")) ∈ big := big_at 426 rfl rfl
set_option maxRecDepth 100000 in
theorem kc_xM_carry : Cond.code yxM_carry cxM_carry 3 (some (.object "ThrowScenario$Way")) ∈ big := big_at 460 rfl rfl
set_option maxRecDepth 100000 in
theorem kc_xM_cast : Cond.code yxM_cast cxM_cast 3 (some (.object "ThrowScenario$Way")) ∈ big := big_at 478 rfl rfl
set_option maxRecDepth 100000 in
theorem kc_xM_choose : Cond.code yxM_choose cxM_choose 5 (some (.object "ThrowScenario$Way")) ∈ big := big_at 416 rfl rfl
set_option maxRecDepth 100000 in
theorem kc_xM_divide : Cond.code yxM_divide cxM_divide 3 (some (.object "ThrowScenario$Way")) ∈ big := big_at 470 rfl rfl
set_option maxRecDepth 100000 in
theorem kc_xM_doBoth : Cond.code yxM_doBoth cxM_doBoth 9 (some (.object "ThrowScenario$Way")) ∈ big := big_at 452 rfl rfl
set_option maxRecDepth 100000 in
theorem kc_xM_index : Cond.code yxM_index cxM_index 4 (some (.object "ThrowScenario$Way")) ∈ big := big_at 474 rfl rfl
set_option maxRecDepth 100000 in
theorem kc_xM_lock : Cond.code yxM_lock cxM_lock 5 (some (.object "ThrowScenario$Way")) ∈ big := big_at 456 rfl rfl
set_option maxRecDepth 100000 in
theorem kc_xM_loop : Cond.code yxM_loop cxM_loop 6 (some (.object "ThrowScenario$Way")) ∈ big := big_at 420 rfl rfl
set_option maxRecDepth 100000 in
theorem kc_xM_mayBegin : Cond.code yxM_mayBegin cxM_mayBegin 1 (some .boolean) ∈ big := big_at 399 rfl rfl
set_option maxRecDepth 100000 in
theorem kc_xM_note : Cond.code yxM_note cxM_note 3 (some (.object "ThrowScenario$Way")) ∈ big := big_at 490 rfl rfl
set_option maxRecDepth 100000 in
theorem kc_xM_perform : Cond.code yxM_perform cxM_perform 5 (some (.object "ThrowScenario$Way")) ∈ big := big_at 395 rfl rfl
set_option maxRecDepth 100000 in
theorem kc_xM_raise : Cond.code yxM_raise cxM_raise 4 (some (.object "ThrowScenario$Way")) ∈ big := big_at 431 rfl rfl
set_option maxRecDepth 100000 in
theorem kc_xM_rethrow : Cond.code yxM_rethrow cxM_rethrow 2 (some (.object "ThrowScenario$Way")) ∈ big := big_at 466 rfl rfl
set_option maxRecDepth 100000 in
theorem kc_xM_sequence : Cond.code yxM_sequence cxM_sequence 5 (some (.object "ThrowScenario$Way")) ∈ big := big_at 410 rfl rfl
set_option maxRecDepth 100000 in
theorem kc_xM_tryAndCatch : Cond.code yxM_tryAndCatch cxM_tryAndCatch 5 (some (.object "ThrowScenario$Way")) ∈ big := big_at 443 rfl rfl
set_option maxRecDepth 100000 in
theorem kc_xM_wake : Cond.code yxM_wake cxM_wake 2 (some (.object "ThrowScenario$Way")) ∈ big := big_at 482 rfl rfl
set_option maxRecDepth 100000 in
theorem kc_xP_at : Cond.code yxP_at cxP_at 2 (some (.object "ThrowScenario$Node")) ∈ big := big_at 406 rfl rfl
set_option maxRecDepth 100000 in
theorem kc_xP_isDefined : Cond.code yxP_isDefined cxP_isDefined 2 (some .boolean) ∈ big := big_at 379 rfl rfl
set_option maxRecDepth 100000 in
theorem kc_xP_isMonitor : Cond.code yxP_isMonitor cxP_isMonitor 1 (some .boolean) ∈ big := big_at 313 rfl rfl
set_option maxRecDepth 100000 in
theorem kc_xP_isNode : Cond.code yxP_isNode cxP_isNode 2 (some .boolean) ∈ big := big_at 306 rfl rfl
set_option maxRecDepth 100000 in
theorem kc_xP_isRoutine : Cond.code yxP_isRoutine cxP_isRoutine 1 (some .boolean) ∈ big := big_at 309 rfl rfl
set_option maxRecDepth 100000 in
theorem kc_xP_isVariable : Cond.code yxP_isVariable cxP_isVariable 1 (some .boolean) ∈ big := big_at 302 rfl rfl
set_option maxRecDepth 100000 in
theorem kc_xP_levelAt : Cond.code yxP_levelAt cxP_levelAt 2 (some .int) ∈ big := big_at 321 rfl rfl
set_option maxRecDepth 100000 in
theorem kc_xP_statementOf : Cond.code yxP_statementOf cxP_statementOf 2 (some .int) ∈ big := big_at 391 rfl rfl
set_option maxRecDepth 100000 in
theorem kc_xH_become : Cond.code yxH_become cxH_become 4 none ∈ big := big_at 435 rfl rfl
set_option maxRecDepth 100000 in
theorem kc_xH_origin : Cond.code yxH_origin cxH_origin 2 (some (.object "ThrowScenario$Thrown")) ∈ big := big_at 494 rfl rfl
theorem in_xC : ∀ w ∈ u_ws RxC TxC 2, w ∈ big := big_ps [93, 95] _ (by decide +kernel) (by decide +kernel)
theorem in_xM : ∀ w ∈ u_ws RxM TxM 15, w ∈ big := big_ps [220, 222, 224, 226, 228, 230, 232, 234, 236, 238, 240, 242, 244, 246, 248] _ (by decide +kernel) (by decide +kernel)
theorem in_xN : ∀ w ∈ u_ws RxN TxN 5, w ∈ big := big_ps [347, 349, 351, 353, 355] _ (by decide +kernel) (by decide +kernel)
theorem in_xP : ∀ w ∈ u_ws RxP TxP 4, w ∈ big := big_ps [111, 113, 115, 117] _ (by decide +kernel) (by decide +kernel)
theorem in_xH : ∀ w ∈ u_ws RxH TxH 4, w ∈ big := big_ps [196, 198, 200, 202] _ (by decide +kernel) (by decide +kernel)
