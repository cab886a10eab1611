theorem dxT_declare_0 : decode cxT_declare 0 = .ok (.aload_n 0, 1) := by decide +kernel
theorem dxT_declare_1 : decode cxT_declare 1 = .ok (.getfield 10, 3) := by decide +kernel
theorem dxT_declare_4 : decode cxT_declare 4 = .ok (.iload_n 1, 1) := by decide +kernel
theorem dxT_declare_5 : decode cxT_declare 5 = .ok (.invokevirtual 60, 3) := by decide +kernel
theorem dxT_declare_8 : decode cxT_declare 8 = .ok (.ifCond .ne 5, 3) := by decide +kernel
theorem dxT_declare_11 : decode cxT_declare 11 = .ok (.iconst (-1), 1) := by decide +kernel
theorem dxT_declare_12 : decode cxT_declare 12 = .ok (.ireturn, 1) := by decide +kernel
theorem dxT_declare_13 : decode cxT_declare 13 = .ok (.aload_n 0, 1) := by decide +kernel
theorem dxT_declare_14 : decode cxT_declare 14 = .ok (.getfield 10, 3) := by decide +kernel
theorem dxT_declare_17 : decode cxT_declare 17 = .ok (.invokevirtual 64, 3) := by decide +kernel
theorem dxT_declare_20 : decode cxT_declare 20 = .ok (.ifCond .eq 8, 3) := by decide +kernel
theorem dxT_declare_23 : decode cxT_declare 23 = .ok (.bipush (-2), 2) := by decide +kernel
theorem dxT_declare_25 : decode cxT_declare 25 = .ok (.goto 11, 3) := by decide +kernel
theorem dxT_declare_28 : decode cxT_declare 28 = .ok (.aload_n 0, 1) := by decide +kernel
theorem dxT_declare_29 : decode cxT_declare 29 = .ok (.getfield 10, 3) := by decide +kernel
theorem dxT_declare_32 : decode cxT_declare 32 = .ok (.iload_n 1, 1) := by decide +kernel
theorem dxT_declare_33 : decode cxT_declare 33 = .ok (.invokevirtual 68, 3) := by decide +kernel
theorem dxT_declare_36 : decode cxT_declare 36 = .ok (.ireturn, 1) := by decide +kernel
theorem dxT_define_0 : decode cxT_define 0 = .ok (.iload_n 1, 1) := by decide +kernel
theorem dxT_define_1 : decode cxT_define 1 = .ok (.invokestatic 83, 3) := by decide +kernel
theorem dxT_define_4 : decode cxT_define 4 = .ok (.ifCond .eq 14, 3) := by decide +kernel
theorem dxT_define_7 : decode cxT_define 7 = .ok (.aload_n 0, 1) := by decide +kernel
theorem dxT_define_8 : decode cxT_define 8 = .ok (.getfield 21, 3) := by decide +kernel
theorem dxT_define_11 : decode cxT_define 11 = .ok (.iload_n 2, 1) := by decide +kernel
theorem dxT_define_12 : decode cxT_define 12 = .ok (.invokevirtual 86, 3) := by decide +kernel
theorem dxT_define_15 : decode cxT_define 15 = .ok (.ifCond .ne 5, 3) := by decide +kernel
theorem dxT_define_18 : decode cxT_define 18 = .ok (.iconst (-1), 1) := by decide +kernel
theorem dxT_define_19 : decode cxT_define 19 = .ok (.ireturn, 1) := by decide +kernel
theorem dxT_define_20 : decode cxT_define 20 = .ok (.aload_n 0, 1) := by decide +kernel
theorem dxT_define_21 : decode cxT_define 21 = .ok (.getfield 21, 3) := by decide +kernel
theorem dxT_define_24 : decode cxT_define 24 = .ok (.iload_n 1, 1) := by decide +kernel
theorem dxT_define_25 : decode cxT_define 25 = .ok (.iload_n 2, 1) := by decide +kernel
theorem dxT_define_26 : decode cxT_define 26 = .ok (.invokevirtual 89, 3) := by decide +kernel
theorem dxT_define_29 : decode cxT_define 29 = .ok (.iconst 0, 1) := by decide +kernel
theorem dxT_define_30 : decode cxT_define 30 = .ok (.ireturn, 1) := by decide +kernel
theorem dxT_dispatch_0 : decode cxT_dispatch 0 = .ok (.iload_n 1, 1) := by decide +kernel
theorem dxT_dispatch_1 : decode cxT_dispatch 1 = .ok (.iconst (-1), 1) := by decide +kernel
theorem dxT_dispatch_2 : decode cxT_dispatch 2 = .ok (.if_icmp .eq 12, 3) := by decide +kernel
theorem dxT_dispatch_5 : decode cxT_dispatch 5 = .ok (.iload_n 1, 1) := by decide +kernel
theorem dxT_dispatch_6 : decode cxT_dispatch 6 = .ok (.invokestatic 83, 3) := by decide +kernel
theorem dxT_dispatch_9 : decode cxT_dispatch 9 = .ok (.ifCond .ne 5, 3) := by decide +kernel
theorem dxT_dispatch_12 : decode cxT_dispatch 12 = .ok (.iconst (-1), 1) := by decide +kernel
theorem dxT_dispatch_13 : decode cxT_dispatch 13 = .ok (.ireturn, 1) := by decide +kernel
theorem dxT_dispatch_14 : decode cxT_dispatch 14 = .ok (.aload_n 0, 1) := by decide +kernel
theorem dxT_dispatch_15 : decode cxT_dispatch 15 = .ok (.iload_n 1, 1) := by decide +kernel
theorem dxT_dispatch_16 : decode cxT_dispatch 16 = .ok (.putfield 32, 3) := by decide +kernel
theorem dxT_dispatch_19 : decode cxT_dispatch 19 = .ok (.iconst 0, 1) := by decide +kernel
theorem dxT_dispatch_20 : decode cxT_dispatch 20 = .ok (.ireturn, 1) := by decide +kernel
theorem dxT_afterFailure_0 : decode cxT_afterFailure 0 = .ok (.aload_n 0, 1) := by decide +kernel
theorem dxT_afterFailure_1 : decode cxT_afterFailure 1 = .ok (.aload_n 1, 1) := by decide +kernel
theorem dxT_afterFailure_2 : decode cxT_afterFailure 2 = .ok (.putfield 99, 3) := by decide +kernel
theorem dxT_afterFailure_5 : decode cxT_afterFailure 5 = .ok (.aload_n 0, 1) := by decide +kernel
theorem dxT_afterFailure_6 : decode cxT_afterFailure 6 = .ok (.getfield 21, 3) := by decide +kernel
theorem dxT_afterFailure_9 : decode cxT_afterFailure 9 = .ok (.aload_n 0, 1) := by decide +kernel
theorem dxT_afterFailure_10 : decode cxT_afterFailure 10 = .ok (.getfield 32, 3) := by decide +kernel
theorem dxT_afterFailure_13 : decode cxT_afterFailure 13 = .ok (.invokevirtual 93, 3) := by decide +kernel
theorem dxT_afterFailure_16 : decode cxT_afterFailure 16 = .ok (.ifCond .ne 5, 3) := by decide +kernel
theorem dxT_afterFailure_19 : decode cxT_afterFailure 19 = .ok (.iconst 1, 1) := by decide +kernel
theorem dxT_afterFailure_20 : decode cxT_afterFailure 20 = .ok (.ireturn, 1) := by decide +kernel
theorem dxT_afterFailure_21 : decode cxT_afterFailure 21 = .ok (.aload_n 0, 1) := by decide +kernel
theorem dxT_afterFailure_22 : decode cxT_afterFailure 22 = .ok (.getfield 56, 3) := by decide +kernel
theorem dxT_afterFailure_25 : decode cxT_afterFailure 25 = .ok (.aload_n 0, 1) := by decide +kernel
theorem dxT_afterFailure_26 : decode cxT_afterFailure 26 = .ok (.getfield 32, 3) := by decide +kernel
theorem dxT_afterFailure_29 : decode cxT_afterFailure 29 = .ok (.aload_n 1, 1) := by decide +kernel
theorem dxT_afterFailure_30 : decode cxT_afterFailure 30 = .ok (.invokevirtual 106, 3) := by decide +kernel
theorem dxT_afterFailure_33 : decode cxT_afterFailure 33 = .ok (.astore_n 2, 1) := by decide +kernel
theorem dxT_afterFailure_34 : decode cxT_afterFailure 34 = .ok (.aload_n 2, 1) := by decide +kernel
theorem dxT_afterFailure_35 : decode cxT_afterFailure 35 = .ok (.getstatic 110, 3) := by decide +kernel
theorem dxT_afterFailure_38 : decode cxT_afterFailure 38 = .ok (.if_acmp .ne 16, 3) := by decide +kernel
theorem dxT_afterFailure_41 : decode cxT_afterFailure 41 = .ok (.aload_n 0, 1) := by decide +kernel
theorem dxT_afterFailure_42 : decode cxT_afterFailure 42 = .ok (.aload_n 0, 1) := by decide +kernel
theorem dxT_afterFailure_43 : decode cxT_afterFailure 43 = .ok (.getfield 56, 3) := by decide +kernel
theorem dxT_afterFailure_46 : decode cxT_afterFailure 46 = .ok (.invokevirtual 116, 3) := by decide +kernel
theorem dxT_afterFailure_49 : decode cxT_afterFailure 49 = .ok (.putfield 103, 3) := by decide +kernel
theorem dxT_afterFailure_52 : decode cxT_afterFailure 52 = .ok (.iconst 3, 1) := by decide +kernel
theorem dxT_afterFailure_53 : decode cxT_afterFailure 53 = .ok (.ireturn, 1) := by decide +kernel
theorem dxT_afterFailure_54 : decode cxT_afterFailure 54 = .ok (.aload_n 2, 1) := by decide +kernel
theorem dxT_afterFailure_55 : decode cxT_afterFailure 55 = .ok (.iconst 2, 1) := by decide +kernel
theorem dxT_afterFailure_56 : decode cxT_afterFailure 56 = .ok (.invokestatic 124, 3) := by decide +kernel
theorem dxT_afterFailure_59 : decode cxT_afterFailure 59 = .ok (.ireturn, 1) := by decide +kernel
theorem dxT_outcomeOf_0 : decode cxT_outcomeOf 0 = .ok (.aload_n 0, 1) := by decide +kernel
theorem dxT_outcomeOf_1 : decode cxT_outcomeOf 1 = .ok (.getstatic 139, 3) := by decide +kernel
theorem dxT_outcomeOf_4 : decode cxT_outcomeOf 4 = .ok (.if_acmp .ne 5, 3) := by decide +kernel
theorem dxT_outcomeOf_7 : decode cxT_outcomeOf 7 = .ok (.iconst 4, 1) := by decide +kernel
theorem dxT_outcomeOf_8 : decode cxT_outcomeOf 8 = .ok (.ireturn, 1) := by decide +kernel
theorem dxT_outcomeOf_9 : decode cxT_outcomeOf 9 = .ok (.aload_n 0, 1) := by decide +kernel
theorem dxT_outcomeOf_10 : decode cxT_outcomeOf 10 = .ok (.getstatic 142, 3) := by decide +kernel
theorem dxT_outcomeOf_13 : decode cxT_outcomeOf 13 = .ok (.if_acmp .ne 7, 3) := by decide +kernel
theorem dxT_outcomeOf_16 : decode cxT_outcomeOf 16 = .ok (.iconst 5, 1) := by decide +kernel
theorem dxT_outcomeOf_17 : decode cxT_outcomeOf 17 = .ok (.goto 4, 3) := by decide +kernel
theorem dxT_outcomeOf_20 : decode cxT_outcomeOf 20 = .ok (.iload_n 1, 1) := by decide +kernel
theorem dxT_outcomeOf_21 : decode cxT_outcomeOf 21 = .ok (.ireturn, 1) := by decide +kernel
theorem dxT_variable_0 : decode cxT_variable 0 = .ok (.iload_n 1, 1) := by decide +kernel
theorem dxT_variable_1 : decode cxT_variable 1 = .ok (.invokestatic 145, 3) := by decide +kernel
theorem dxT_variable_4 : decode cxT_variable 4 = .ok (.ifCond .eq 15, 3) := by decide +kernel
theorem dxT_variable_7 : decode cxT_variable 7 = .ok (.aload_n 0, 1) := by decide +kernel
theorem dxT_variable_8 : decode cxT_variable 8 = .ok (.getfield 56, 3) := by decide +kernel
theorem dxT_variable_11 : decode cxT_variable 11 = .ok (.iload_n 1, 1) := by decide +kernel
theorem dxT_variable_12 : decode cxT_variable 12 = .ok (.invokevirtual 148, 3) := by decide +kernel
theorem dxT_variable_15 : decode cxT_variable 15 = .ok (.i2l, 1) := by decide +kernel
theorem dxT_variable_16 : decode cxT_variable 16 = .ok (.goto 6, 3) := by decide +kernel
theorem dxT_variable_19 : decode cxT_variable 19 = .ok (.ldc2_w 36, 3) := by decide +kernel
theorem dxT_variable_22 : decode cxT_variable 22 = .ok (.lreturn, 1) := by decide +kernel
theorem dxT_value_0 : decode cxT_value 0 = .ok (.aload_n 0, 1) := by decide +kernel
theorem dxT_value_1 : decode cxT_value 1 = .ok (.getfield 38, 3) := by decide +kernel
theorem dxT_value_4 : decode cxT_value 4 = .ok (.lreturn, 1) := by decide +kernel
theorem dxT_logged_0 : decode cxT_logged 0 = .ok (.iload_n 1, 1) := by decide +kernel
theorem dxT_logged_1 : decode cxT_logged 1 = .ok (.ifCond .lt 26, 3) := by decide +kernel
theorem dxT_logged_4 : decode cxT_logged 4 = .ok (.iload_n 1, 1) := by decide +kernel
theorem dxT_logged_5 : decode cxT_logged 5 = .ok (.aload_n 0, 1) := by decide +kernel
theorem dxT_logged_6 : decode cxT_logged 6 = .ok (.getfield 56, 3) := by decide +kernel
theorem dxT_logged_9 : decode cxT_logged 9 = .ok (.invokevirtual 151, 3) := by decide +kernel
theorem dxT_logged_12 : decode cxT_logged 12 = .ok (.if_icmp .ge 15, 3) := by decide +kernel
theorem dxT_logged_15 : decode cxT_logged 15 = .ok (.aload_n 0, 1) := by decide +kernel
theorem dxT_logged_16 : decode cxT_logged 16 = .ok (.getfield 56, 3) := by decide +kernel
theorem dxT_logged_19 : decode cxT_logged 19 = .ok (.iload_n 1, 1) := by decide +kernel
theorem dxT_logged_20 : decode cxT_logged 20 = .ok (.invokevirtual 154, 3) := by decide +kernel
theorem dxT_logged_23 : decode cxT_logged 23 = .ok (.i2l, 1) := by decide +kernel
theorem dxT_logged_24 : decode cxT_logged 24 = .ok (.goto 6, 3) := by decide +kernel
theorem dxT_logged_27 : decode cxT_logged 27 = .ok (.ldc2_w 36, 3) := by decide +kernel
theorem dxT_logged_30 : decode cxT_logged 30 = .ok (.lreturn, 1) := by decide +kernel
theorem dxT_failure_0 : decode cxT_failure 0 = .ok (.aload_n 0, 1) := by decide +kernel
theorem dxT_failure_1 : decode cxT_failure 1 = .ok (.getfield 99, 3) := by decide +kernel
theorem dxT_failure_4 : decode cxT_failure 4 = .ok (.iload_n 1, 1) := by decide +kernel
theorem dxT_failure_5 : decode cxT_failure 5 = .ok (.iload_n 2, 1) := by decide +kernel
theorem dxT_failure_6 : decode cxT_failure 6 = .ok (.invokestatic 157, 3) := by decide +kernel
theorem dxT_failure_9 : decode cxT_failure 9 = .ok (.lreturn, 1) := by decide +kernel
theorem dxT_second_0 : decode cxT_second 0 = .ok (.aload_n 0, 1) := by decide +kernel
theorem dxT_second_1 : decode cxT_second 1 = .ok (.getfield 103, 3) := by decide +kernel
theorem dxT_second_4 : decode cxT_second 4 = .ok (.iload_n 1, 1) := by decide +kernel
theorem dxT_second_5 : decode cxT_second 5 = .ok (.iload_n 2, 1) := by decide +kernel
theorem dxT_second_6 : decode cxT_second 6 = .ok (.invokestatic 157, 3) := by decide +kernel
theorem dxT_second_9 : decode cxT_second 9 = .ok (.lreturn, 1) := by decide +kernel
theorem dxT_partOf_0 : decode cxT_partOf 0 = .ok (.iload_n 1, 1) := by decide +kernel
theorem dxT_partOf_1 : decode cxT_partOf 1 = .ok (.ifCond .ge 7, 3) := by decide +kernel
theorem dxT_partOf_4 : decode cxT_partOf 4 = .ok (.aconst_null, 1) := by decide +kernel
theorem dxT_partOf_5 : decode cxT_partOf 5 = .ok (.goto 4, 3) := by decide +kernel
theorem dxT_partOf_8 : decode cxT_partOf 8 = .ok (.aload_n 0, 1) := by decide +kernel
theorem dxT_partOf_9 : decode cxT_partOf 9 = .ok (.astore_n 3, 1) := by decide +kernel
theorem dxT_partOf_10 : decode cxT_partOf 10 = .ok (.iconst 0, 1) := by decide +kernel
theorem dxT_partOf_11 : decode cxT_partOf 11 = .ok (.istore 4, 2) := by decide +kernel
theorem dxT_partOf_13 : decode cxT_partOf 13 = .ok (.iload 4, 2) := by decide +kernel
theorem dxT_partOf_15 : decode cxT_partOf 15 = .ok (.iload_n 1, 1) := by decide +kernel
theorem dxT_partOf_16 : decode cxT_partOf 16 = .ok (.if_icmp .ge 18, 3) := by decide +kernel
theorem dxT_partOf_19 : decode cxT_partOf 19 = .ok (.aload_n 3, 1) := by decide +kernel
theorem dxT_partOf_20 : decode cxT_partOf 20 = .ok (.ifnull 14, 3) := by decide +kernel
theorem dxT_partOf_23 : decode cxT_partOf 23 = .ok (.aload_n 3, 1) := by decide +kernel
theorem dxT_partOf_24 : decode cxT_partOf 24 = .ok (.getfield 161, 3) := by decide +kernel
theorem dxT_partOf_27 : decode cxT_partOf 27 = .ok (.astore_n 3, 1) := by decide +kernel
theorem dxT_partOf_28 : decode cxT_partOf 28 = .ok (.iinc 4 1, 3) := by decide +kernel
theorem dxT_partOf_31 : decode cxT_partOf 31 = .ok (.goto (-18), 3) := by decide +kernel
theorem dxT_partOf_34 : decode cxT_partOf 34 = .ok (.aload_n 3, 1) := by decide +kernel
theorem dxT_partOf_35 : decode cxT_partOf 35 = .ok (.ifnonnull 7, 3) := by decide +kernel
theorem dxT_partOf_38 : decode cxT_partOf 38 = .ok (.ldc2_w 36, 3) := by decide +kernel
theorem dxT_partOf_41 : decode cxT_partOf 41 = .ok (.lreturn, 1) := by decide +kernel
theorem dxT_partOf_42 : decode cxT_partOf 42 = .ok (.iload_n 2, 1) := by decide +kernel
theorem dxT_partOf_43 : decode cxT_partOf 43 = .ok (.tableswitch 43 0 2 #[25, 31, 37], 25) := by decide +kernel
theorem dxT_partOf_68 : decode cxT_partOf 68 = .ok (.aload_n 3, 1) := by decide +kernel
theorem dxT_partOf_69 : decode cxT_partOf 69 = .ok (.getfield 166, 3) := by decide +kernel
theorem dxT_partOf_72 : decode cxT_partOf 72 = .ok (.i2l, 1) := by decide +kernel
theorem dxT_partOf_73 : decode cxT_partOf 73 = .ok (.lreturn, 1) := by decide +kernel
theorem dxT_partOf_74 : decode cxT_partOf 74 = .ok (.aload_n 3, 1) := by decide +kernel
theorem dxT_partOf_75 : decode cxT_partOf 75 = .ok (.getfield 169, 3) := by decide +kernel
theorem dxT_partOf_78 : decode cxT_partOf 78 = .ok (.i2l, 1) := by decide +kernel
theorem dxT_partOf_79 : decode cxT_partOf 79 = .ok (.lreturn, 1) := by decide +kernel
theorem dxT_partOf_80 : decode cxT_partOf 80 = .ok (.aload_n 3, 1) := by decide +kernel
theorem dxT_partOf_81 : decode cxT_partOf 81 = .ok (.getfield 172, 3) := by decide +kernel
theorem dxT_partOf_84 : decode cxT_partOf 84 = .ok (.i2l, 1) := by decide +kernel
theorem dxT_partOf_85 : decode cxT_partOf 85 = .ok (.lreturn, 1) := by decide +kernel
theorem dxT_partOf_86 : decode cxT_partOf 86 = .ok (.ldc2_w 36, 3) := by decide +kernel
theorem dxT_partOf_89 : decode cxT_partOf 89 = .ok (.lreturn, 1) := by decide +kernel
theorem dxT_count_0 : decode cxT_count 0 = .ok (.iload_n 1, 1) := by decide +kernel
theorem dxT_count_1 : decode cxT_count 1 = .ok (.lookupswitch 43 #[(0, 27), (1, 35)], 27) := by decide +kernel
theorem dxT_count_28 : decode cxT_count 28 = .ok (.aload_n 0, 1) := by decide +kernel
theorem dxT_count_29 : decode cxT_count 29 = .ok (.getfield 10, 3) := by decide +kernel
theorem dxT_count_32 : decode cxT_count 32 = .ok (.invokevirtual 181, 3) := by decide +kernel
theorem dxT_count_35 : decode cxT_count 35 = .ok (.ireturn, 1) := by decide +kernel
theorem dxT_count_36 : decode cxT_count 36 = .ok (.aload_n 0, 1) := by decide +kernel
theorem dxT_count_37 : decode cxT_count 37 = .ok (.getfield 21, 3) := by decide +kernel
theorem dxT_count_40 : decode cxT_count 40 = .ok (.invokevirtual 184, 3) := by decide +kernel
theorem dxT_count_43 : decode cxT_count 43 = .ok (.ireturn, 1) := by decide +kernel
theorem dxT_count_44 : decode cxT_count 44 = .ok (.aload_n 0, 1) := by decide +kernel
theorem dxT_count_45 : decode cxT_count 45 = .ok (.getfield 56, 3) := by decide +kernel
theorem dxT_count_48 : decode cxT_count 48 = .ok (.iload_n 1, 1) := by decide +kernel
theorem dxT_count_49 : decode cxT_count 49 = .ok (.invokevirtual 185, 3) := by decide +kernel
theorem dxT_count_52 : decode cxT_count 52 = .ok (.ireturn, 1) := by decide +kernel
theorem dxC_add_0 : decode cxC_add 0 = .ok (.aload_n 0, 1) := by decide +kernel
theorem dxC_add_1 : decode cxC_add 1 = .ok (.getfield 9, 3) := by decide +kernel
theorem dxC_add_4 : decode cxC_add 4 = .ok (.aload_n 0, 1) := by decide +kernel
theorem dxC_add_5 : decode cxC_add 5 = .ok (.getfield 13, 3) := by decide +kernel
theorem dxC_add_8 : decode cxC_add 8 = .ok (.iload_n 1, 1) := by decide +kernel
theorem dxC_add_9 : decode cxC_add 9 = .ok (.iastore, 1) := by decide +kernel
theorem dxC_add_10 : decode cxC_add 10 = .ok (.aload_n 0, 1) := by decide +kernel
theorem dxC_add_11 : decode cxC_add 11 = .ok (.dup, 1) := by decide +kernel
theorem dxC_add_12 : decode cxC_add 12 = .ok (.getfield 13, 3) := by decide +kernel
theorem dxC_add_15 : decode cxC_add 15 = .ok (.iconst 1, 1) := by decide +kernel
theorem dxC_add_16 : decode cxC_add 16 = .ok (.iadd, 1) := by decide +kernel
theorem dxC_add_17 : decode cxC_add 17 = .ok (.putfield 13, 3) := by decide +kernel
theorem dxC_add_20 : decode cxC_add 20 = .ok (.aload_n 0, 1) := by decide +kernel
theorem dxC_add_21 : decode cxC_add 21 = .ok (.getfield 13, 3) := by decide +kernel
theorem dxC_add_24 : decode cxC_add 24 = .ok (.iconst 1, 1) := by decide +kernel
theorem dxC_add_25 : decode cxC_add 25 = .ok (.isub, 1) := by decide +kernel
theorem dxC_add_26 : decode cxC_add 26 = .ok (.ireturn, 1) := by decide +kernel
theorem dxM_performRoutine_0 : decode cxM_performRoutine 0 = .ok (.aload_n 0, 1) := by decide +kernel
theorem dxM_performRoutine_1 : decode cxM_performRoutine 1 = .ok (.aload_n 0, 1) := by decide +kernel
theorem dxM_performRoutine_2 : decode cxM_performRoutine 2 = .ok (.getfield 51, 3) := by decide +kernel
theorem dxM_performRoutine_5 : decode cxM_performRoutine 5 = .ok (.iload_n 1, 1) := by decide +kernel
theorem dxM_performRoutine_6 : decode cxM_performRoutine 6 = .ok (.invokevirtual 67, 3) := by decide +kernel
theorem dxM_performRoutine_9 : decode cxM_performRoutine 9 = .ok (.iconst 1, 1) := by decide +kernel
theorem dxM_performRoutine_10 : decode cxM_performRoutine 10 = .ok (.aload_n 2, 1) := by decide +kernel
theorem dxM_performRoutine_11 : decode cxM_performRoutine 11 = .ok (.invokevirtual 71, 3) := by decide +kernel
theorem dxM_performRoutine_14 : decode cxM_performRoutine 14 = .ok (.areturn, 1) := by decide +kernel
theorem dxP_setStatement_0 : decode cxP_setStatement 0 = .ok (.aload_n 0, 1) := by decide +kernel
theorem dxP_setStatement_1 : decode cxP_setStatement 1 = .ok (.getfield 15, 3) := by decide +kernel
theorem dxP_setStatement_4 : decode cxP_setStatement 4 = .ok (.iload_n 1, 1) := by decide +kernel
theorem dxP_setStatement_5 : decode cxP_setStatement 5 = .ok (.iload_n 2, 1) := by decide +kernel
theorem dxP_setStatement_6 : decode cxP_setStatement 6 = .ok (.iastore, 1) := by decide +kernel
theorem dxP_setStatement_7 : decode cxP_setStatement 7 = .ok (.return_, 1) := by decide +kernel
