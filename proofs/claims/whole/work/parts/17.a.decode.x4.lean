theorem dxT_node_0 : decode cxT_node 0 = .ok (.aload_n 0, 1) := by decide +kernel
theorem dxT_node_1 : decode cxT_node 1 = .ok (.getfield 21, 3) := by decide +kernel
theorem dxT_node_4 : decode cxT_node 4 = .ok (.iload_n 1, 1) := by decide +kernel
theorem dxT_node_5 : decode cxT_node 5 = .ok (.iload_n 2, 1) := by decide +kernel
theorem dxT_node_6 : decode cxT_node 6 = .ok (.iload_n 3, 1) := by decide +kernel
theorem dxT_node_7 : decode cxT_node 7 = .ok (.iload 4, 2) := by decide +kernel
theorem dxT_node_9 : decode cxT_node 9 = .ok (.invokevirtual 72, 3) := by decide +kernel
theorem dxT_node_12 : decode cxT_node 12 = .ok (.ifCond .eq 20, 3) := by decide +kernel
theorem dxT_node_15 : decode cxT_node 15 = .ok (.aload_n 0, 1) := by decide +kernel
theorem dxT_node_16 : decode cxT_node 16 = .ok (.getfield 21, 3) := by decide +kernel
theorem dxT_node_19 : decode cxT_node 19 = .ok (.iload_n 1, 1) := by decide +kernel
theorem dxT_node_20 : decode cxT_node 20 = .ok (.iload_n 2, 1) := by decide +kernel
theorem dxT_node_21 : decode cxT_node 21 = .ok (.iload_n 3, 1) := by decide +kernel
theorem dxT_node_22 : decode cxT_node 22 = .ok (.iload 4, 2) := by decide +kernel
theorem dxT_node_24 : decode cxT_node 24 = .ok (.invokevirtual 76, 3) := by decide +kernel
theorem dxT_node_27 : decode cxT_node 27 = .ok (.bipush 8, 2) := by decide +kernel
theorem dxT_node_29 : decode cxT_node 29 = .ok (.if_icmp .le 5, 3) := by decide +kernel
theorem dxT_node_32 : decode cxT_node 32 = .ok (.iconst (-1), 1) := by decide +kernel
theorem dxT_node_33 : decode cxT_node 33 = .ok (.ireturn, 1) := by decide +kernel
theorem dxT_node_34 : decode cxT_node 34 = .ok (.aload_n 0, 1) := by decide +kernel
theorem dxT_node_35 : decode cxT_node 35 = .ok (.getfield 21, 3) := by decide +kernel
theorem dxT_node_38 : decode cxT_node 38 = .ok (.invokevirtual 80, 3) := by decide +kernel
theorem dxT_node_41 : decode cxT_node 41 = .ok (.ifCond .eq 8, 3) := by decide +kernel
theorem dxT_node_44 : decode cxT_node 44 = .ok (.bipush (-2), 2) := by decide +kernel
theorem dxT_node_46 : decode cxT_node 46 = .ok (.goto 15, 3) := by decide +kernel
theorem dxT_node_49 : decode cxT_node 49 = .ok (.aload_n 0, 1) := by decide +kernel
theorem dxT_node_50 : decode cxT_node 50 = .ok (.getfield 21, 3) := by decide +kernel
theorem dxT_node_53 : decode cxT_node 53 = .ok (.iload_n 1, 1) := by decide +kernel
theorem dxT_node_54 : decode cxT_node 54 = .ok (.iload_n 2, 1) := by decide +kernel
theorem dxT_node_55 : decode cxT_node 55 = .ok (.iload_n 3, 1) := by decide +kernel
theorem dxT_node_56 : decode cxT_node 56 = .ok (.iload 4, 2) := by decide +kernel
theorem dxT_node_58 : decode cxT_node 58 = .ok (.invokevirtual 81, 3) := by decide +kernel
theorem dxT_node_61 : decode cxT_node 61 = .ok (.ireturn, 1) := by decide +kernel
theorem dxN_init_0 : decode cxN_init 0 = .ok (.aload_n 0, 1) := by decide +kernel
theorem dxN_init_1 : decode cxN_init 1 = .ok (.invokespecial 1, 3) := by decide +kernel
theorem dxN_init_4 : decode cxN_init 4 = .ok (.aload_n 0, 1) := by decide +kernel
theorem dxN_init_5 : decode cxN_init 5 = .ok (.iload_n 1, 1) := by decide +kernel
theorem dxN_init_6 : decode cxN_init 6 = .ok (.putfield 7, 3) := by decide +kernel
theorem dxN_init_9 : decode cxN_init 9 = .ok (.aload_n 0, 1) := by decide +kernel
theorem dxN_init_10 : decode cxN_init 10 = .ok (.iload_n 2, 1) := by decide +kernel
theorem dxN_init_11 : decode cxN_init 11 = .ok (.putfield 13, 3) := by decide +kernel
theorem dxN_init_14 : decode cxN_init 14 = .ok (.aload_n 0, 1) := by decide +kernel
theorem dxN_init_15 : decode cxN_init 15 = .ok (.iload_n 3, 1) := by decide +kernel
theorem dxN_init_16 : decode cxN_init 16 = .ok (.putfield 16, 3) := by decide +kernel
theorem dxN_init_19 : decode cxN_init 19 = .ok (.aload_n 0, 1) := by decide +kernel
theorem dxN_init_20 : decode cxN_init 20 = .ok (.iload 4, 2) := by decide +kernel
theorem dxN_init_22 : decode cxN_init 22 = .ok (.putfield 19, 3) := by decide +kernel
theorem dxN_init_25 : decode cxN_init 25 = .ok (.aload_n 0, 1) := by decide +kernel
theorem dxN_init_26 : decode cxN_init 26 = .ok (.iload 5, 2) := by decide +kernel
theorem dxN_init_28 : decode cxN_init 28 = .ok (.putfield 22, 3) := by decide +kernel
theorem dxN_init_31 : decode cxN_init 31 = .ok (.return_, 1) := by decide +kernel
theorem dxP_add_0 : decode cxP_add 0 = .ok (.aload_n 0, 1) := by decide +kernel
theorem dxP_add_1 : decode cxP_add 1 = .ok (.getfield 11, 3) := by decide +kernel
theorem dxP_add_4 : decode cxP_add 4 = .ok (.aload_n 0, 1) := by decide +kernel
theorem dxP_add_5 : decode cxP_add 5 = .ok (.getfield 19, 3) := by decide +kernel
theorem dxP_add_8 : decode cxP_add 8 = .ok (.new 9, 3) := by decide +kernel
theorem dxP_add_11 : decode cxP_add 11 = .ok (.dup, 1) := by decide +kernel
theorem dxP_add_12 : decode cxP_add 12 = .ok (.iload_n 1, 1) := by decide +kernel
theorem dxP_add_13 : decode cxP_add 13 = .ok (.iload_n 2, 1) := by decide +kernel
theorem dxP_add_14 : decode cxP_add 14 = .ok (.iload_n 3, 1) := by decide +kernel
theorem dxP_add_15 : decode cxP_add 15 = .ok (.iload 4, 2) := by decide +kernel
theorem dxP_add_17 : decode cxP_add 17 = .ok (.aload_n 0, 1) := by decide +kernel
theorem dxP_add_18 : decode cxP_add 18 = .ok (.iload_n 1, 1) := by decide +kernel
theorem dxP_add_19 : decode cxP_add 19 = .ok (.iload_n 2, 1) := by decide +kernel
theorem dxP_add_20 : decode cxP_add 20 = .ok (.iload_n 3, 1) := by decide +kernel
theorem dxP_add_21 : decode cxP_add 21 = .ok (.iload 4, 2) := by decide +kernel
theorem dxP_add_23 : decode cxP_add 23 = .ok (.invokevirtual 27, 3) := by decide +kernel
theorem dxP_add_26 : decode cxP_add 26 = .ok (.invokespecial 31, 3) := by decide +kernel
theorem dxP_add_29 : decode cxP_add 29 = .ok (.aastore, 1) := by decide +kernel
theorem dxP_add_30 : decode cxP_add 30 = .ok (.aload_n 0, 1) := by decide +kernel
theorem dxP_add_31 : decode cxP_add 31 = .ok (.dup, 1) := by decide +kernel
theorem dxP_add_32 : decode cxP_add 32 = .ok (.getfield 19, 3) := by decide +kernel
theorem dxP_add_35 : decode cxP_add 35 = .ok (.iconst 1, 1) := by decide +kernel
theorem dxP_add_36 : decode cxP_add 36 = .ok (.iadd, 1) := by decide +kernel
theorem dxP_add_37 : decode cxP_add 37 = .ok (.putfield 19, 3) := by decide +kernel
theorem dxP_add_40 : decode cxP_add 40 = .ok (.aload_n 0, 1) := by decide +kernel
theorem dxP_add_41 : decode cxP_add 41 = .ok (.getfield 19, 3) := by decide +kernel
theorem dxP_add_44 : decode cxP_add 44 = .ok (.iconst 1, 1) := by decide +kernel
theorem dxP_add_45 : decode cxP_add 45 = .ok (.isub, 1) := by decide +kernel
theorem dxP_add_46 : decode cxP_add 46 = .ok (.ireturn, 1) := by decide +kernel
