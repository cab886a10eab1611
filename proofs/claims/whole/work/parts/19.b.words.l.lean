theorem kw_xL_9 : ∀ w ∈ ([.methodLink RxL 9 yxL_cell, .static yxL_cell, .initialized yxL_cell.cls] : List Cond), w ∈ big := big_ps [819, 820, 50] _ (by decide +kernel) rfl
theorem kw_xL_15 : ∀ w ∈ ([.methodLink RxL 15 yxT_init, .instanceMethod yxT_init, .initialized yxT_init.cls] : List Cond), w ∈ big := big_ps [74, 75, 51] _ (by decide +kernel) rfl
theorem kw_xL_20 : ∀ w ∈ ([.methodLink RxL 20 yxQ_init, .instanceMethod yxQ_init, .initialized yxQ_init.cls] : List Cond), w ∈ big := big_ps [824, 825, 63] _ (by decide +kernel) rfl
theorem kw_xL_21 : ∀ w ∈ ([.methodLink RxL 21 yxT_declare, .instanceMethod yxT_declare, .selects yxT_declare.cls yxT_declare yxT_declare, .initialized yxT_declare.cls] : List Cond), w ∈ big := big_ps [276, 277, 278, 51] _ (by decide +kernel) rfl
theorem kw_xL_25 : ∀ w ∈ ([.methodLink RxL 25 yxQ_declare, .instanceMethod yxQ_declare, .selects yxQ_declare.cls yxQ_declare yxQ_declare, .initialized yxQ_declare.cls] : List Cond), w ∈ big := big_ps [975, 976, 977, 63] _ (by decide +kernel) rfl
theorem kw_xL_26 : ∀ w ∈ ([.methodLink RxL 26 yxT_node, .instanceMethod yxT_node, .selects yxT_node.cls yxT_node yxT_node, .initialized yxT_node.cls] : List Cond), w ∈ big := big_ps [292, 293, 294, 51] _ (by decide +kernel) rfl
theorem kw_xL_30 : ∀ w ∈ ([.methodLink RxL 30 yxQ_node, .instanceMethod yxQ_node, .selects yxQ_node.cls yxQ_node yxQ_node, .initialized yxQ_node.cls] : List Cond), w ∈ big := big_ps [982, 983, 984, 63] _ (by decide +kernel) rfl
theorem kw_xL_31 : ∀ w ∈ ([.methodLink RxL 31 yxT_define, .instanceMethod yxT_define, .selects yxT_define.cls yxT_define yxT_define, .initialized yxT_define.cls] : List Cond), w ∈ big := big_ps [358, 359, 360, 51] _ (by decide +kernel) rfl
theorem kw_xL_35 : ∀ w ∈ ([.methodLink RxL 35 yxQ_define, .instanceMethod yxQ_define, .selects yxQ_define.cls yxQ_define yxQ_define, .initialized yxQ_define.cls] : List Cond), w ∈ big := big_ps [1002, 1003, 1004, 63] _ (by decide +kernel) rfl
theorem kw_xL_36 : ∀ w ∈ ([.methodLink RxL 36 yxT_dispatch, .instanceMethod yxT_dispatch, .selects yxT_dispatch.cls yxT_dispatch yxT_dispatch, .initialized yxT_dispatch.cls] : List Cond), w ∈ big := big_ps [368, 369, 370, 51] _ (by decide +kernel) rfl
theorem kw_xL_39 : ∀ w ∈ ([.methodLink RxL 39 yxQ_dispatch, .instanceMethod yxQ_dispatch, .selects yxQ_dispatch.cls yxQ_dispatch yxQ_dispatch, .initialized yxQ_dispatch.cls] : List Cond), w ∈ big := big_ps [1006, 1007, 1008, 63] _ (by decide +kernel) rfl
theorem kw_xL_40 : ∀ w ∈ ([.methodLink RxL 40 yxT_run, .instanceMethod yxT_run, .selects yxT_run.cls yxT_run yxT_run, .initialized yxT_run.cls] : List Cond), w ∈ big := big_ps [372, 373, 374, 51] _ (by decide +kernel) rfl
theorem kw_xL_44 : ∀ w ∈ ([.methodLink RxL 44 yxQ_run, .instanceMethod yxQ_run, .selects yxQ_run.cls yxQ_run yxQ_run, .initialized yxQ_run.cls] : List Cond), w ∈ big := big_ps [1010, 1011, 1012, 63] _ (by decide +kernel) rfl
theorem kw_xL_45 : ∀ w ∈ ([.methodLink RxL 45 yxT_variable, .instanceMethod yxT_variable, .selects yxT_variable.cls yxT_variable yxT_variable, .initialized yxT_variable.cls] : List Cond), w ∈ big := big_ps [743, 744, 745, 51] _ (by decide +kernel) rfl
theorem kw_xL_49 : ∀ w ∈ ([.methodLink RxL 49 yxQ_variable, .instanceMethod yxQ_variable, .selects yxQ_variable.cls yxQ_variable yxQ_variable, .initialized yxQ_variable.cls] : List Cond), w ∈ big := big_ps [1120, 1121, 1122, 63] _ (by decide +kernel) rfl
theorem kw_xL_50 : ∀ w ∈ ([.methodLink RxL 50 yxT_value, .instanceMethod yxT_value, .selects yxT_value.cls yxT_value yxT_value, .initialized yxT_value.cls] : List Cond), w ∈ big := big_ps [752, 753, 754, 51] _ (by decide +kernel) rfl
theorem kw_xL_54 : ∀ w ∈ ([.methodLink RxL 54 yxQ_value, .instanceMethod yxQ_value, .selects yxQ_value.cls yxQ_value yxQ_value, .initialized yxQ_value.cls] : List Cond), w ∈ big := big_ps [1125, 1126, 1127, 63] _ (by decide +kernel) rfl
theorem kw_xL_55 : ∀ w ∈ ([.methodLink RxL 55 yxT_logged, .instanceMethod yxT_logged, .selects yxT_logged.cls yxT_logged yxT_logged, .initialized yxT_logged.cls] : List Cond), w ∈ big := big_ps [756, 757, 758, 51] _ (by decide +kernel) rfl
theorem kw_xL_58 : ∀ w ∈ ([.methodLink RxL 58 yxQ_logged, .instanceMethod yxQ_logged, .selects yxQ_logged.cls yxQ_logged yxQ_logged, .initialized yxQ_logged.cls] : List Cond), w ∈ big := big_ps [1129, 1130, 1131, 63] _ (by decide +kernel) rfl
theorem kw_xL_59 : ∀ w ∈ ([.methodLink RxL 59 yxT_failure, .instanceMethod yxT_failure, .selects yxT_failure.cls yxT_failure yxT_failure, .initialized yxT_failure.cls] : List Cond), w ∈ big := big_ps [768, 769, 770, 51] _ (by decide +kernel) rfl
theorem kw_xL_63 : ∀ w ∈ ([.methodLink RxL 63 yxQ_failure, .instanceMethod yxQ_failure, .selects yxQ_failure.cls yxQ_failure yxQ_failure, .initialized yxQ_failure.cls] : List Cond), w ∈ big := big_ps [1133, 1134, 1135, 63] _ (by decide +kernel) rfl
theorem kw_xL_64 : ∀ w ∈ ([.methodLink RxL 64 yxT_second, .instanceMethod yxT_second, .selects yxT_second.cls yxT_second yxT_second, .initialized yxT_second.cls] : List Cond), w ∈ big := big_ps [775, 776, 777, 51] _ (by decide +kernel) rfl
theorem kw_xL_67 : ∀ w ∈ ([.methodLink RxL 67 yxQ_second, .instanceMethod yxQ_second, .selects yxQ_second.cls yxQ_second yxQ_second, .initialized yxQ_second.cls] : List Cond), w ∈ big := big_ps [1141, 1142, 1143, 63] _ (by decide +kernel) rfl
theorem kw_xL_68 : ∀ w ∈ ([.methodLink RxL 68 yxT_report, .instanceMethod yxT_report, .selects yxT_report.cls yxT_report yxT_report, .initialized yxT_report.cls] : List Cond), w ∈ big := big_ps [779, 780, 781, 51] _ (by decide +kernel) rfl
theorem kw_xL_71 : ∀ w ∈ ([.methodLink RxL 71 yxQ_report, .instanceMethod yxQ_report, .selects yxQ_report.cls yxQ_report yxQ_report, .initialized yxQ_report.cls] : List Cond), w ∈ big := big_ps [1145, 1146, 1147, 63] _ (by decide +kernel) rfl
theorem kw_xL_72 : ∀ w ∈ ([.methodLink RxL 72 yxT_count, .instanceMethod yxT_count, .selects yxT_count.cls yxT_count yxT_count, .initialized yxT_count.cls] : List Cond), w ∈ big := big_ps [803, 804, 805, 51] _ (by decide +kernel) rfl
theorem kw_xL_75 : ∀ w ∈ ([.methodLink RxL 75 yxQ_count, .instanceMethod yxQ_count, .selects yxQ_count.cls yxQ_count yxQ_count, .initialized yxQ_count.cls] : List Cond), w ∈ big := big_ps [1149, 1150, 1151, 63] _ (by decide +kernel) rfl
set_option maxRecDepth 100000 in
theorem kc_xT_init : Cond.code yxT_init cxT_init 2 none ∈ big := big_at 76 rfl rfl
set_option maxRecDepth 100000 in
theorem kc_xT_count : Cond.code yxT_count cxT_count 2 (some .int) ∈ big := big_at 806 rfl rfl
set_option maxRecDepth 100000 in
theorem kc_xT_declare : Cond.code yxT_declare cxT_declare 2 (some .int) ∈ big := big_at 279 rfl rfl
set_option maxRecDepth 100000 in
theorem kc_xT_define : Cond.code yxT_define cxT_define 3 (some .int) ∈ big := big_at 361 rfl rfl
set_option maxRecDepth 100000 in
theorem kc_xT_dispatch : Cond.code yxT_dispatch cxT_dispatch 2 (some .int) ∈ big := big_at 371 rfl rfl
set_option maxRecDepth 100000 in
theorem kc_xT_failure : Cond.code yxT_failure cxT_failure 3 (some .long) ∈ big := big_at 771 rfl rfl
set_option maxRecDepth 100000 in
theorem kc_xT_logged : Cond.code yxT_logged cxT_logged 2 (some .long) ∈ big := big_at 759 rfl rfl
set_option maxRecDepth 100000 in
theorem kc_xT_node : Cond.code yxT_node cxT_node 5 (some .int) ∈ big := big_at 295 rfl rfl
set_option maxRecDepth 100000 in
theorem kc_xT_report : Cond.code yxT_report cxT_report 2 (some .int) ∈ big := big_at 782 rfl rfl
set_option maxRecDepth 100000 in
theorem kc_xT_run : Cond.code yxT_run cxT_run 7 (some .int) ∈ big := big_at 375 rfl rfl
set_option maxRecDepth 100000 in
theorem kc_xT_second : Cond.code yxT_second cxT_second 3 (some .long) ∈ big := big_at 778 rfl rfl
set_option maxRecDepth 100000 in
theorem kc_xT_value : Cond.code yxT_value cxT_value 1 (some .long) ∈ big := big_at 755 rfl rfl
set_option maxRecDepth 100000 in
theorem kc_xT_variable : Cond.code yxT_variable cxT_variable 2 (some .long) ∈ big := big_at 746 rfl rfl
set_option maxRecDepth 100000 in
theorem kc_xL_cell : Cond.code yxL_cell cxL_cell 2 (some .int) ∈ big := big_at 821 rfl rfl
set_option maxRecDepth 100000 in
theorem kc_xQ_init : Cond.code yxQ_init cxQ_init 2 none ∈ big := big_at 826 rfl rfl
set_option maxRecDepth 100000 in
theorem kc_xQ_count : Cond.code yxQ_count cxQ_count 2 (some .int) ∈ big := big_at 1152 rfl rfl
set_option maxRecDepth 100000 in
theorem kc_xQ_declare : Cond.code yxQ_declare cxQ_declare 2 (some .int) ∈ big := big_at 978 rfl rfl
set_option maxRecDepth 100000 in
theorem kc_xQ_define : Cond.code yxQ_define cxQ_define 3 (some .int) ∈ big := big_at 1005 rfl rfl
set_option maxRecDepth 100000 in
theorem kc_xQ_dispatch : Cond.code yxQ_dispatch cxQ_dispatch 2 (some .int) ∈ big := big_at 1009 rfl rfl
set_option maxRecDepth 100000 in
theorem kc_xQ_failure : Cond.code yxQ_failure cxQ_failure 3 (some .long) ∈ big := big_at 1136 rfl rfl
set_option maxRecDepth 100000 in
theorem kc_xQ_logged : Cond.code yxQ_logged cxQ_logged 2 (some .long) ∈ big := big_at 1132 rfl rfl
set_option maxRecDepth 100000 in
theorem kc_xQ_node : Cond.code yxQ_node cxQ_node 6 (some .int) ∈ big := big_at 985 rfl rfl
set_option maxRecDepth 100000 in
theorem kc_xQ_report : Cond.code yxQ_report cxQ_report 2 (some .int) ∈ big := big_at 1148 rfl rfl
set_option maxRecDepth 100000 in
theorem kc_xQ_run : Cond.code yxQ_run cxQ_run 4 (some .int) ∈ big := big_at 1013 rfl rfl
set_option maxRecDepth 100000 in
theorem kc_xQ_second : Cond.code yxQ_second cxQ_second 3 (some .long) ∈ big := big_at 1144 rfl rfl
set_option maxRecDepth 100000 in
theorem kc_xQ_value : Cond.code yxQ_value cxQ_value 1 (some .long) ∈ big := big_at 1128 rfl rfl
set_option maxRecDepth 100000 in
theorem kc_xQ_variable : Cond.code yxQ_variable cxQ_variable 2 (some .long) ∈ big := big_at 1123 rfl rfl
