theorem kF_xQ_33 : Cond.fieldLink RxQ 33 "ThrowScenarioModel" "parent" "[I" ∈ big := big_at 840 (by decide +kernel) rfl
theorem kF_xQ_37 : Cond.fieldLink RxQ 37 "ThrowScenarioModel" "classes" "I" ∈ big := big_at 841 (by decide +kernel) rfl
theorem kw_xQ_113 : ∀ w ∈ ([.methodLink RxQ 113 yxQ_out, .static yxQ_out, .initialized yxQ_out.cls] : List Cond), w ∈ big := big_ps [979, 980, 63] _ (by decide +kernel) rfl
theorem kF_xQ_117 : Cond.fieldLink RxQ 117 "ThrowScenarioModel" "nodes" "I" ∈ big := big_at 847 (by decide +kernel) rfl
theorem kw_xQ_120 : ∀ w ∈ ([.methodLink RxQ 120 yxQ_noNode, .instanceMethod yxQ_noNode, .selects yxQ_noNode.cls yxQ_noNode yxQ_noNode, .initialized yxQ_noNode.cls] : List Cond), w ∈ big := big_ps [990, 992, 23, 63] _ (by decide +kernel) rfl
theorem kF_xQ_53 : Cond.fieldLink RxQ 53 "ThrowScenarioModel" "level" "[I" ∈ big := big_at 846 (by decide +kernel) rfl
theorem kw_xQ_124 : ∀ w ∈ ([.methodLink RxQ 124 yxQ_badA, .instanceMethod yxQ_badA, .selects yxQ_badA.cls yxQ_badA yxQ_badA, .initialized yxQ_badA.cls] : List Cond), w ∈ big := big_ps [986, 988, 22, 63] _ (by decide +kernel) rfl
theorem kw_xQ_128 : ∀ w ∈ ([.methodLink RxQ 128 yxQ_badB, .instanceMethod yxQ_badB, .selects yxQ_badB.cls yxQ_badB yxQ_badB, .initialized yxQ_badB.cls] : List Cond), w ∈ big := big_ps [994, 996, 24, 63] _ (by decide +kernel) rfl
theorem kw_xQ_131 : ∀ w ∈ ([.methodLink RxQ 131 yxQ_levelOf, .instanceMethod yxQ_levelOf, .selects yxQ_levelOf.cls yxQ_levelOf yxQ_levelOf, .initialized yxQ_levelOf.cls] : List Cond), w ∈ big := big_ps [998, 1000, 25, 63] _ (by decide +kernel) rfl
theorem kF_xQ_41 : Cond.fieldLink RxQ 41 "ThrowScenarioModel" "kind" "[I" ∈ big := big_at 842 (by decide +kernel) rfl
theorem kF_xQ_44 : Cond.fieldLink RxQ 44 "ThrowScenarioModel" "a" "[I" ∈ big := big_at 843 (by decide +kernel) rfl
theorem kF_xQ_47 : Cond.fieldLink RxQ 47 "ThrowScenarioModel" "b" "[I" ∈ big := big_at 844 (by decide +kernel) rfl
theorem kF_xQ_50 : Cond.fieldLink RxQ 50 "ThrowScenarioModel" "c" "[I" ∈ big := big_at 845 (by decide +kernel) rfl
theorem kF_xQ_56 : Cond.fieldLink RxQ 56 "ThrowScenarioModel" "routine" "[I" ∈ big := big_at 848 (by decide +kernel) rfl
theorem kF_xQ_59 : Cond.fieldLink RxQ 59 "ThrowScenarioModel" "dispatched" "I" ∈ big := big_at 849 (by decide +kernel) rfl
theorem kF_xQ_135 : Cond.fieldLink RxQ 135 "ThrowScenarioModel" "begun" "I" ∈ big := big_at 859 (by decide +kernel) rfl
theorem kF_xQ_138 : Cond.fieldLink RxQ 138 "ThrowScenarioModel" "outcome" "I" ∈ big := big_at 866 (by decide +kernel) rfl
theorem kF_xQ_141 : Cond.fieldLink RxQ 141 "ThrowScenarioModel" "over" "Z" ∈ big := big_at 880 (by decide +kernel) rfl
theorem kF_xQ_89 : Cond.fieldLink RxQ 89 "ThrowScenarioModel" "fNode" "[I" ∈ big := big_at 869 (by decide +kernel) rfl
theorem kF_xQ_145 : Cond.fieldLink RxQ 145 "ThrowScenarioModel" "top" "I" ∈ big := big_at 875 (by decide +kernel) rfl
theorem kF_xQ_92 : Cond.fieldLink RxQ 92 "ThrowScenarioModel" "fPhase" "[I" ∈ big := big_at 870 (by decide +kernel) rfl
theorem kF_xQ_95 : Cond.fieldLink RxQ 95 "ThrowScenarioModel" "fCount" "[I" ∈ big := big_at 871 (by decide +kernel) rfl
theorem kF_xQ_148 : Cond.fieldLink RxQ 148 "ThrowScenarioModel" "doneKind" "I" ∈ big := big_at 878 (by decide +kernel) rfl
theorem kF_xQ_151 : Cond.fieldLink RxQ 151 "ThrowScenarioModel" "doneValue" "I" ∈ big := big_at 879 (by decide +kernel) rfl
theorem kF_xQ_62 : Cond.fieldLink RxQ 62 "ThrowScenarioModel" "tClass" "[I" ∈ big := big_at 850 (by decide +kernel) rfl
theorem kF_xQ_154 : Cond.fieldLink RxQ 154 "ThrowScenarioModel" "throwables" "I" ∈ big := big_at 854 (by decide +kernel) rfl
theorem kF_xQ_65 : Cond.fieldLink RxQ 65 "ThrowScenarioModel" "tMessage" "[I" ∈ big := big_at 851 (by decide +kernel) rfl
theorem kF_xQ_68 : Cond.fieldLink RxQ 68 "ThrowScenarioModel" "tCause" "[I" ∈ big := big_at 852 (by decide +kernel) rfl
theorem kF_xQ_71 : Cond.fieldLink RxQ 71 "ThrowScenarioModel" "tSuppressed" "[I" ∈ big := big_at 853 (by decide +kernel) rfl
theorem kw_xQ_157 : ∀ w ∈ ([.methodLink RxQ 157 yxQ_end, .instanceMethod yxQ_end, .selects yxQ_end.cls yxQ_end yxQ_end, .initialized yxQ_end.cls] : List Cond), w ∈ big := big_ps [1037, 1039, 31, 63] _ (by decide +kernel) rfl
theorem kF_xQ_80 : Cond.fieldLink RxQ 80 "ThrowScenarioModel" "log" "[I" ∈ big := big_at 857 (by decide +kernel) rfl
theorem kF_xQ_161 : Cond.fieldLink RxQ 161 "ThrowScenarioModel" "logs" "I" ∈ big := big_at 858 (by decide +kernel) rfl
theorem kw_xQ_164 : ∀ w ∈ ([.methodLink RxQ 164 yxQ_note, .instanceMethod yxQ_note, .selects yxQ_note.cls yxQ_note yxQ_note, .initialized yxQ_note.cls] : List Cond), w ∈ big := big_ps [1033, 1035, 30, 63] _ (by decide +kernel) rfl
theorem kF_xQ_74 : Cond.fieldLink RxQ 74 "ThrowScenarioModel" "variables" "[I" ∈ big := big_at 855 (by decide +kernel) rfl
theorem kw_xQ_168 : ∀ w ∈ ([.methodLink RxQ 168 yxQ_endThrow, .instanceMethod yxQ_endThrow, .selects yxQ_endThrow.cls yxQ_endThrow yxQ_endThrow, .initialized yxQ_endThrow.cls] : List Cond), w ∈ big := big_ps [1041, 1043, 32, 63] _ (by decide +kernel) rfl
theorem kF_xQ_172 : Cond.fieldLink RxQ 172 "ThrowScenarioModel" "hand" "I" ∈ big := big_at 877 (by decide +kernel) rfl
theorem kw_xQ_175 : ∀ w ∈ ([.methodLink RxQ 175 yxQ_machine, .instanceMethod yxQ_machine, .selects yxQ_machine.cls yxQ_machine yxQ_machine, .initialized yxQ_machine.cls] : List Cond), w ∈ big := big_ps [1045, 1047, 33, 63] _ (by decide +kernel) rfl
theorem kw_xQ_178 : ∀ w ∈ ([.methodLink RxQ 178 yxQ_is, .instanceMethod yxQ_is, .selects yxQ_is.cls yxQ_is yxQ_is, .initialized yxQ_is.cls] : List Cond), w ∈ big := big_ps [1049, 1051, 34, 63] _ (by decide +kernel) rfl
theorem kF_xQ_181 : Cond.fieldLink RxQ 181 "ThrowScenarioModel" "value" "I" ∈ big := big_at 868 (by decide +kernel) rfl
theorem kF_xQ_77 : Cond.fieldLink RxQ 77 "ThrowScenarioModel" "monitors" "[I" ∈ big := big_at 856 (by decide +kernel) rfl
theorem kw_xQ_184 : ∀ w ∈ ([.methodLink RxQ 184 yxQ_lastOf, .instanceMethod yxQ_lastOf, .selects yxQ_lastOf.cls yxQ_lastOf yxQ_lastOf, .initialized yxQ_lastOf.cls] : List Cond), w ∈ big := big_ps [1053, 1055, 35, 63] _ (by decide +kernel) rfl
theorem kw_xQ_188 : ∀ w ∈ ([.methodLink RxQ 188 yxQ_hasParts, .static yxQ_hasParts, .initialized yxQ_hasParts.cls] : List Cond), w ∈ big := big_ps [1026, 1027, 63] _ (by decide +kernel) rfl
theorem kw_xQ_191 : ∀ w ∈ ([.methodLink RxQ 191 yxQ_simple, .instanceMethod yxQ_simple, .selects yxQ_simple.cls yxQ_simple yxQ_simple, .initialized yxQ_simple.cls] : List Cond), w ∈ big := big_ps [1029, 1031, 29, 63] _ (by decide +kernel) rfl
theorem kw_xQ_194 : ∀ w ∈ ([.methodLink RxQ 194 yxQ_begin, .instanceMethod yxQ_begin, .selects yxQ_begin.cls yxQ_begin yxQ_begin, .initialized yxQ_begin.cls] : List Cond), w ∈ big := big_ps [1018, 1020, 27, 63] _ (by decide +kernel) rfl
theorem kw_xQ_197 : ∀ w ∈ ([.methodLink RxQ 197 yxQ_branch, .instanceMethod yxQ_branch, .selects yxQ_branch.cls yxQ_branch yxQ_branch, .initialized yxQ_branch.cls] : List Cond), w ∈ big := big_ps [1057, 1059, 36, 63] _ (by decide +kernel) rfl
theorem kw_xQ_200 : ∀ w ∈ ([.methodLink RxQ 200 yxQ_loop, .instanceMethod yxQ_loop, .selects yxQ_loop.cls yxQ_loop yxQ_loop, .initialized yxQ_loop.cls] : List Cond), w ∈ big := big_ps [1061, 1063, 37, 63] _ (by decide +kernel) rfl
theorem kw_xQ_203 : ∀ w ∈ ([.methodLink RxQ 203 yxQ_call, .instanceMethod yxQ_call, .selects yxQ_call.cls yxQ_call yxQ_call, .initialized yxQ_call.cls] : List Cond), w ∈ big := big_ps [1065, 1067, 38, 63] _ (by decide +kernel) rfl
theorem kw_xQ_206 : ∀ w ∈ ([.methodLink RxQ 206 yxQ_attempt, .instanceMethod yxQ_attempt, .selects yxQ_attempt.cls yxQ_attempt yxQ_attempt, .initialized yxQ_attempt.cls] : List Cond), w ∈ big := big_ps [1069, 1071, 39, 63] _ (by decide +kernel) rfl
theorem kw_xQ_209 : ∀ w ∈ ([.methodLink RxQ 209 yxQ_lock, .instanceMethod yxQ_lock, .selects yxQ_lock.cls yxQ_lock yxQ_lock, .initialized yxQ_lock.cls] : List Cond), w ∈ big := big_ps [1073, 1075, 40, 63] _ (by decide +kernel) rfl
theorem kw_xQ_212 : ∀ w ∈ ([.methodLink RxQ 212 yxQ_atLast, .instanceMethod yxQ_atLast, .selects yxQ_atLast.cls yxQ_atLast yxQ_atLast, .initialized yxQ_atLast.cls] : List Cond), w ∈ big := big_ps [1077, 1079, 41, 63] _ (by decide +kernel) rfl
theorem kF_xQ_215 : Cond.fieldLink RxQ 215 "ThrowScenarioModel" "depth" "I" ∈ big := big_at 876 (by decide +kernel) rfl
theorem kF_xQ_110 : Cond.fieldLink RxQ 110 "ThrowScenarioModel" "limit" "I" ∈ big := big_at 839 (by decide +kernel) rfl
theorem kF_xQ_104 : Cond.fieldLink RxQ 104 "ThrowScenarioModel" "fHand" "[I" ∈ big := big_at 874 (by decide +kernel) rfl
theorem kF_xQ_218 : Cond.fieldLink RxQ 218 "ThrowScenarioModel" "deepest" "I" ∈ big := big_at 862 (by decide +kernel) rfl
theorem kF_xQ_221 : Cond.fieldLink RxQ 221 "ThrowScenarioModel" "handlers" "I" ∈ big := big_at 860 (by decide +kernel) rfl
theorem kF_xQ_98 : Cond.fieldLink RxQ 98 "ThrowScenarioModel" "fKind" "[I" ∈ big := big_at 872 (by decide +kernel) rfl
theorem kF_xQ_101 : Cond.fieldLink RxQ 101 "ThrowScenarioModel" "fValue" "[I" ∈ big := big_at 873 (by decide +kernel) rfl
theorem kF_xQ_224 : Cond.fieldLink RxQ 224 "ThrowScenarioModel" "lasts" "I" ∈ big := big_at 861 (by decide +kernel) rfl
theorem kw_xQ_227 : ∀ w ∈ ([.methodLink RxQ 227 yxQ_go, .instanceMethod yxQ_go, .selects yxQ_go.cls yxQ_go yxQ_go, .initialized yxQ_go.cls] : List Cond), w ∈ big := big_ps [1022, 1024, 28, 63] _ (by decide +kernel) rfl
theorem kF_xQ_230 : Cond.fieldLink RxQ 230 "ThrowScenarioModel" "ran" "Z" ∈ big := big_at 863 (by decide +kernel) rfl
theorem kF_xQ_86 : Cond.fieldLink RxQ 86 "ThrowScenarioModel" "second" "I" ∈ big := big_at 865 (by decide +kernel) rfl
theorem kF_xQ_83 : Cond.fieldLink RxQ 83 "ThrowScenarioModel" "failure" "I" ∈ big := big_at 864 (by decide +kernel) rfl
theorem kF_xQ_233 : Cond.fieldLink RxQ 233 "ThrowScenarioModel" "returned" "Z" ∈ big := big_at 867 (by decide +kernel) rfl
theorem kw_xQ_236 : ∀ w ∈ ([.methodLink RxQ 236 yxQ_complete, .instanceMethod yxQ_complete, .selects yxQ_complete.cls yxQ_complete yxQ_complete, .initialized yxQ_complete.cls] : List Cond), w ∈ big := big_ps [1014, 1016, 26, 63] _ (by decide +kernel) rfl
theorem kw_xQ_239 : ∀ w ∈ ([.methodLink RxQ 239 yxQ_settle, .instanceMethod yxQ_settle, .selects yxQ_settle.cls yxQ_settle yxQ_settle, .initialized yxQ_settle.cls] : List Cond), w ∈ big := big_ps [1081, 1083, 42, 63] _ (by decide +kernel) rfl
theorem kw_xQ_242 : ∀ w ∈ ([.methodLink RxQ 242 yxQ_write, .instanceMethod yxQ_write, .selects yxQ_write.cls yxQ_write yxQ_write, .initialized yxQ_write.cls] : List Cond), w ∈ big := big_ps [1085, 1087, 43, 63] _ (by decide +kernel) rfl
theorem kF_xQ_107 : Cond.fieldLink RxQ 107 "ThrowScenarioModel" "text" "[I" ∈ big := big_at 881 (by decide +kernel) rfl
theorem kF_xQ_245 : Cond.fieldLink RxQ 245 "ThrowScenarioModel" "textLength" "I" ∈ big := big_at 882 (by decide +kernel) rfl
theorem kw_xQ_248 : ∀ w ∈ ([.methodLink RxQ 248 yxQ_letter, .instanceMethod yxQ_letter, .selects yxQ_letter.cls yxQ_letter yxQ_letter, .initialized yxQ_letter.cls] : List Cond), w ∈ big := big_ps [1098, 1100, 46, 63] _ (by decide +kernel) rfl
theorem kL_xQ_251 : Cond.constantLong RxQ 251 (10) ∈ big := big_at 1112 (by decide +kernel) rfl
theorem kF_xQ_27 : Cond.fieldLink RxQ 27 "ThrowScenarioModel" "words" "[J" ∈ big := big_at 838 (by decide +kernel) rfl
theorem kw_xQ_253 : ∀ w ∈ ([.methodLink RxQ 253 yxQ_word, .instanceMethod yxQ_word, .selects yxQ_word.cls yxQ_word yxQ_word, .initialized yxQ_word.cls] : List Cond), w ∈ big := big_ps [1094, 1096, 45, 63] _ (by decide +kernel) rfl
theorem kL_xQ_257 : Cond.constantLong RxQ 257 (16110) ∈ big := big_at 1117 (by decide +kernel) rfl
theorem kw_xQ_259 : ∀ w ∈ ([.methodLink RxQ 259 yxQ_number, .instanceMethod yxQ_number, .selects yxQ_number.cls yxQ_number yxQ_number, .initialized yxQ_number.cls] : List Cond), w ∈ big := big_ps [1108, 1110, 47, 63] _ (by decide +kernel) rfl
theorem kL_xQ_262 : Cond.constantLong RxQ 262 (5705892) ∈ big := big_at 1093 (by decide +kernel) rfl
theorem kL_xQ_264 : Cond.constantLong RxQ 264 (736689298708) ∈ big := big_at 1102 (by decide +kernel) rfl
theorem kL_xQ_266 : Cond.constantLong RxQ 266 (151303162536100) ∈ big := big_at 1103 (by decide +kernel) rfl
theorem kL_xQ_268 : Cond.constantLong RxQ 268 (188724) ∈ big := big_at 1104 (by decide +kernel) rfl
theorem kL_xQ_270 : Cond.constantLong RxQ 270 (21285028) ∈ big := big_at 1105 (by decide +kernel) rfl
theorem kL_xQ_272 : Cond.constantLong RxQ 272 (8638312626) ∈ big := big_at 1106 (by decide +kernel) rfl
theorem kL_xQ_274 : Cond.constantLong RxQ 274 (21252279) ∈ big := big_at 1107 (by decide +kernel) rfl
theorem kw_xQ_276 : ∀ w ∈ ([.methodLink RxQ 276 yxQ_outcomeWord, .instanceMethod yxQ_outcomeWord, .selects yxQ_outcomeWord.cls yxQ_outcomeWord yxQ_outcomeWord, .initialized yxQ_outcomeWord.cls] : List Cond), w ∈ big := big_ps [1089, 1091, 44, 63] _ (by decide +kernel) rfl
theorem kw_xQ_279 : ∀ w ∈ ([.methodLink RxQ 279 yxQ_name, .instanceMethod yxQ_name, .selects yxQ_name.cls yxQ_name yxQ_name, .initialized yxQ_name.cls] : List Cond), w ∈ big := big_ps [1113, 1115, 48, 63] _ (by decide +kernel) rfl
theorem kL_xQ_282 : Cond.constantLong RxQ 282 (215533) ∈ big := big_at 1118 (by decide +kernel) rfl
theorem kL_xQ_284 : Cond.constantLong RxQ 284 (663726) ∈ big := big_at 1119 (by decide +kernel) rfl
theorem kL_xQ_286 : Cond.constantLong RxQ 286 (1000000000000) ∈ big := big_at 1124 (by decide +kernel) rfl
theorem kw_xQ_288 : ∀ w ∈ ([.methodLink RxQ 288 yxQ_chained, .instanceMethod yxQ_chained, .selects yxQ_chained.cls yxQ_chained yxQ_chained, .initialized yxQ_chained.cls] : List Cond), w ∈ big := big_ps [1137, 1139, 49, 63] _ (by decide +kernel) rfl
set_option maxRecDepth 100000 in
theorem kc_xQ_atLast : Cond.code yxQ_atLast cxQ_atLast 5 none ∈ big := big_at 1080 rfl rfl
set_option maxRecDepth 100000 in
theorem kc_xQ_attempt : Cond.code yxQ_attempt cxQ_attempt 5 none ∈ big := big_at 1072 rfl rfl
set_option maxRecDepth 100000 in
theorem kc_xQ_badA : Cond.code yxQ_badA cxQ_badA 3 (some .boolean) ∈ big := big_at 989 rfl rfl
set_option maxRecDepth 100000 in
theorem kc_xQ_badB : Cond.code yxQ_badB cxQ_badB 3 (some .boolean) ∈ big := big_at 997 rfl rfl
set_option maxRecDepth 100000 in
theorem kc_xQ_begin : Cond.code yxQ_begin cxQ_begin 2 (some .boolean) ∈ big := big_at 1021 rfl rfl
set_option maxRecDepth 100000 in
theorem kc_xQ_branch : Cond.code yxQ_branch cxQ_branch 4 none ∈ big := big_at 1060 rfl rfl
set_option maxRecDepth 100000 in
theorem kc_xQ_call : Cond.code yxQ_call cxQ_call 4 none ∈ big := big_at 1068 rfl rfl
set_option maxRecDepth 100000 in
theorem kc_xQ_chained : Cond.code yxQ_chained cxQ_chained 6 (some .long) ∈ big := big_at 1140 rfl rfl
set_option maxRecDepth 100000 in
theorem kc_xQ_complete : Cond.code yxQ_complete cxQ_complete 3 (some .boolean) ∈ big := big_at 1017 rfl rfl
set_option maxRecDepth 100000 in
theorem kc_xQ_end : Cond.code yxQ_end cxQ_end 3 none ∈ big := big_at 1040 rfl rfl
set_option maxRecDepth 100000 in
theorem kc_xQ_endThrow : Cond.code yxQ_endThrow cxQ_endThrow 4 none ∈ big := big_at 1044 rfl rfl
set_option maxRecDepth 100000 in
theorem kc_xQ_go : Cond.code yxQ_go cxQ_go 4 none ∈ big := big_at 1025 rfl rfl
set_option maxRecDepth 100000 in
theorem kc_xQ_hasParts : Cond.code yxQ_hasParts cxQ_hasParts 1 (some .boolean) ∈ big := big_at 1028 rfl rfl
set_option maxRecDepth 100000 in
theorem kc_xQ_is : Cond.code yxQ_is cxQ_is 4 (some .boolean) ∈ big := big_at 1052 rfl rfl
set_option maxRecDepth 100000 in
theorem kc_xQ_lastOf : Cond.code yxQ_lastOf cxQ_lastOf 3 (some .int) ∈ big := big_at 1056 rfl rfl
set_option maxRecDepth 100000 in
theorem kc_xQ_letter : Cond.code yxQ_letter cxQ_letter 2 none ∈ big := big_at 1101 rfl rfl
set_option maxRecDepth 100000 in
theorem kc_xQ_levelOf : Cond.code yxQ_levelOf cxQ_levelOf 6 (some .int) ∈ big := big_at 1001 rfl rfl
set_option maxRecDepth 100000 in
theorem kc_xQ_lock : Cond.code yxQ_lock cxQ_lock 3 none ∈ big := big_at 1076 rfl rfl
set_option maxRecDepth 100000 in
theorem kc_xQ_loop : Cond.code yxQ_loop cxQ_loop 4 none ∈ big := big_at 1064 rfl rfl
set_option maxRecDepth 100000 in
theorem kc_xQ_machine : Cond.code yxQ_machine cxQ_machine 4 none ∈ big := big_at 1048 rfl rfl
set_option maxRecDepth 100000 in
theorem kc_xQ_name : Cond.code yxQ_name cxQ_name 3 none ∈ big := big_at 1116 rfl rfl
set_option maxRecDepth 100000 in
theorem kc_xQ_noNode : Cond.code yxQ_noNode cxQ_noNode 2 (some .boolean) ∈ big := big_at 993 rfl rfl
set_option maxRecDepth 100000 in
theorem kc_xQ_note : Cond.code yxQ_note cxQ_note 2 none ∈ big := big_at 1036 rfl rfl
set_option maxRecDepth 100000 in
theorem kc_xQ_number : Cond.code yxQ_number cxQ_number 6 none ∈ big := big_at 1111 rfl rfl
set_option maxRecDepth 100000 in
theorem kc_xQ_out : Cond.code yxQ_out cxQ_out 3 (some .boolean) ∈ big := big_at 981 rfl rfl
set_option maxRecDepth 100000 in
theorem kc_xQ_outcomeWord : Cond.code yxQ_outcomeWord cxQ_outcomeWord 1 none ∈ big := big_at 1092 rfl rfl
set_option maxRecDepth 100000 in
theorem kc_xQ_settle : Cond.code yxQ_settle cxQ_settle 1 none ∈ big := big_at 1084 rfl rfl
set_option maxRecDepth 100000 in
theorem kc_xQ_simple : Cond.code yxQ_simple cxQ_simple 3 none ∈ big := big_at 1032 rfl rfl
set_option maxRecDepth 100000 in
theorem kc_xQ_word : Cond.code yxQ_word cxQ_word 7 none ∈ big := big_at 1097 rfl rfl
set_option maxRecDepth 100000 in
theorem kc_xQ_write : Cond.code yxQ_write cxQ_write 2 none ∈ big := big_at 1088 rfl rfl
theorem in_xQ : ∀ w ∈ u_ws RxQ TxQ 45, w ∈ big := big_ps [883, 885, 887, 889, 891, 893, 895, 897, 899, 901, 903, 905, 907, 909, 911, 913, 915, 917, 919, 921, 923, 925, 927, 929, 931, 933, 935, 937, 939, 941, 943, 945, 947, 949, 951, 953, 955, 957, 959, 961, 963, 965, 967, 969, 971] _ (by decide +kernel) (by decide +kernel)
