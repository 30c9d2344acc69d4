theorem dX6_init_0 : decode cX6_init 0 = .ok (.aload_n 0, 1) := by decide +kernel
theorem dX6_init_1 : decode cX6_init 1 = .ok (.invokespecial 1, 3) := by decide +kernel
theorem dX6_init_4 : decode cX6_init 4 = .ok (.aload_n 0, 1) := by decide +kernel
theorem dX6_init_5 : decode cX6_init 5 = .ok (.new 7, 3) := by decide +kernel
theorem dX6_init_8 : decode cX6_init 8 = .ok (.dup, 1) := by decide +kernel
theorem dX6_init_9 : decode cX6_init 9 = .ok (.invokespecial 9, 3) := by decide +kernel
theorem dX6_init_12 : decode cX6_init 12 = .ok (.putfield 10, 3) := by decide +kernel
theorem dX6_init_15 : decode cX6_init 15 = .ok (.aload_n 0, 1) := by decide +kernel
theorem dX6_init_16 : decode cX6_init 16 = .ok (.new 7, 3) := by decide +kernel
theorem dX6_init_19 : decode cX6_init 19 = .ok (.dup, 1) := by decide +kernel
theorem dX6_init_20 : decode cX6_init 20 = .ok (.invokespecial 9, 3) := by decide +kernel
theorem dX6_init_23 : decode cX6_init 23 = .ok (.putfield 16, 3) := by decide +kernel
theorem dX6_init_26 : decode cX6_init 26 = .ok (.aload_n 0, 1) := by decide +kernel
theorem dX6_init_27 : decode cX6_init 27 = .ok (.new 19, 3) := by decide +kernel
theorem dX6_init_30 : decode cX6_init 30 = .ok (.dup, 1) := by decide +kernel
theorem dX6_init_31 : decode cX6_init 31 = .ok (.invokespecial 21, 3) := by decide +kernel
theorem dX6_init_34 : decode cX6_init 34 = .ok (.putfield 22, 3) := by decide +kernel
theorem dX6_init_37 : decode cX6_init 37 = .ok (.aload_n 0, 1) := by decide +kernel
theorem dX6_init_38 : decode cX6_init 38 = .ok (.new 26, 3) := by decide +kernel
theorem dX6_init_41 : decode cX6_init 41 = .ok (.dup, 1) := by decide +kernel
theorem dX6_init_42 : decode cX6_init 42 = .ok (.invokespecial 28, 3) := by decide +kernel
theorem dX6_init_45 : decode cX6_init 45 = .ok (.putfield 29, 3) := by decide +kernel
theorem dX6_init_48 : decode cX6_init 48 = .ok (.return_, 1) := by decide +kernel
theorem dX6_add_0 : decode cX6_add 0 = .ok (.aload_n 0, 1) := by decide +kernel
theorem dX6_add_1 : decode cX6_add 1 = .ok (.getfield 22, 3) := by decide +kernel
theorem dX6_add_4 : decode cX6_add 4 = .ok (.aload_n 0, 1) := by decide +kernel
theorem dX6_add_5 : decode cX6_add 5 = .ok (.getfield 10, 3) := by decide +kernel
theorem dX6_add_8 : decode cX6_add 8 = .ok (.invokevirtual 33, 3) := by decide +kernel
theorem dX6_add_11 : decode cX6_add 11 = .ok (.aload_n 0, 1) := by decide +kernel
theorem dX6_add_12 : decode cX6_add 12 = .ok (.aload_n 0, 1) := by decide +kernel
theorem dX6_add_13 : decode cX6_add 13 = .ok (.getfield 10, 3) := by decide +kernel
theorem dX6_add_16 : decode cX6_add 16 = .ok (.iload_n 1, 1) := by decide +kernel
theorem dX6_add_17 : decode cX6_add 17 = .ok (.iload_n 2, 1) := by decide +kernel
theorem dX6_add_18 : decode cX6_add 18 = .ok (.invokevirtual 37, 3) := by decide +kernel
theorem dX6_add_21 : decode cX6_add 21 = .ok (.invokevirtual 41, 3) := by decide +kernel
theorem dX6_add_24 : decode cX6_add 24 = .ok (.ireturn, 1) := by decide +kernel
theorem dX6_ask_0 : decode cX6_ask 0 = .ok (.aload_n 0, 1) := by decide +kernel
theorem dX6_ask_1 : decode cX6_ask 1 = .ok (.getfield 22, 3) := by decide +kernel
theorem dX6_ask_4 : decode cX6_ask 4 = .ok (.aload_n 0, 1) := by decide +kernel
theorem dX6_ask_5 : decode cX6_ask 5 = .ok (.getfield 10, 3) := by decide +kernel
theorem dX6_ask_8 : decode cX6_ask 8 = .ok (.invokevirtual 33, 3) := by decide +kernel
theorem dX6_ask_11 : decode cX6_ask 11 = .ok (.aload_n 0, 1) := by decide +kernel
theorem dX6_ask_12 : decode cX6_ask 12 = .ok (.aload_n 0, 1) := by decide +kernel
theorem dX6_ask_13 : decode cX6_ask 13 = .ok (.getfield 10, 3) := by decide +kernel
theorem dX6_ask_16 : decode cX6_ask 16 = .ok (.iload_n 1, 1) := by decide +kernel
theorem dX6_ask_17 : decode cX6_ask 17 = .ok (.invokevirtual 45, 3) := by decide +kernel
theorem dX6_ask_20 : decode cX6_ask 20 = .ok (.invokevirtual 41, 3) := by decide +kernel
theorem dX6_ask_23 : decode cX6_ask 23 = .ok (.ireturn, 1) := by decide +kernel
theorem dX6_seal_0 : decode cX6_seal 0 = .ok (.aload_n 0, 1) := by decide +kernel
theorem dX6_seal_1 : decode cX6_seal 1 = .ok (.getfield 22, 3) := by decide +kernel
theorem dX6_seal_4 : decode cX6_seal 4 = .ok (.aload_n 0, 1) := by decide +kernel
theorem dX6_seal_5 : decode cX6_seal 5 = .ok (.getfield 10, 3) := by decide +kernel
theorem dX6_seal_8 : decode cX6_seal 8 = .ok (.invokevirtual 33, 3) := by decide +kernel
theorem dX6_seal_11 : decode cX6_seal 11 = .ok (.aload_n 0, 1) := by decide +kernel
theorem dX6_seal_12 : decode cX6_seal 12 = .ok (.aload_n 0, 1) := by decide +kernel
theorem dX6_seal_13 : decode cX6_seal 13 = .ok (.getfield 10, 3) := by decide +kernel
theorem dX6_seal_16 : decode cX6_seal 16 = .ok (.iload_n 1, 1) := by decide +kernel
theorem dX6_seal_17 : decode cX6_seal 17 = .ok (.iload_n 2, 1) := by decide +kernel
theorem dX6_seal_18 : decode cX6_seal 18 = .ok (.iload_n 3, 1) := by decide +kernel
theorem dX6_seal_19 : decode cX6_seal 19 = .ok (.invokevirtual 48, 3) := by decide +kernel
theorem dX6_seal_22 : decode cX6_seal 22 = .ok (.invokevirtual 41, 3) := by decide +kernel
theorem dX6_seal_25 : decode cX6_seal 25 = .ok (.ireturn, 1) := by decide +kernel
theorem dX6_lift_0 : decode cX6_lift 0 = .ok (.aload_n 0, 1) := by decide +kernel
theorem dX6_lift_1 : decode cX6_lift 1 = .ok (.getfield 22, 3) := by decide +kernel
theorem dX6_lift_4 : decode cX6_lift 4 = .ok (.aload_n 0, 1) := by decide +kernel
theorem dX6_lift_5 : decode cX6_lift 5 = .ok (.getfield 10, 3) := by decide +kernel
theorem dX6_lift_8 : decode cX6_lift 8 = .ok (.invokevirtual 33, 3) := by decide +kernel
theorem dX6_lift_11 : decode cX6_lift 11 = .ok (.aload_n 0, 1) := by decide +kernel
theorem dX6_lift_12 : decode cX6_lift 12 = .ok (.aload_n 0, 1) := by decide +kernel
theorem dX6_lift_13 : decode cX6_lift 13 = .ok (.getfield 10, 3) := by decide +kernel
theorem dX6_lift_16 : decode cX6_lift 16 = .ok (.iload_n 1, 1) := by decide +kernel
theorem dX6_lift_17 : decode cX6_lift 17 = .ok (.iload_n 2, 1) := by decide +kernel
theorem dX6_lift_18 : decode cX6_lift 18 = .ok (.invokevirtual 52, 3) := by decide +kernel
theorem dX6_lift_21 : decode cX6_lift 21 = .ok (.invokevirtual 41, 3) := by decide +kernel
theorem dX6_lift_24 : decode cX6_lift 24 = .ok (.ireturn, 1) := by decide +kernel
theorem dX6_refer_0 : decode cX6_refer 0 = .ok (.aload_n 0, 1) := by decide +kernel
theorem dX6_refer_1 : decode cX6_refer 1 = .ok (.getfield 22, 3) := by decide +kernel
theorem dX6_refer_4 : decode cX6_refer 4 = .ok (.aload_n 0, 1) := by decide +kernel
theorem dX6_refer_5 : decode cX6_refer 5 = .ok (.getfield 10, 3) := by decide +kernel
theorem dX6_refer_8 : decode cX6_refer 8 = .ok (.invokevirtual 33, 3) := by decide +kernel
theorem dX6_refer_11 : decode cX6_refer 11 = .ok (.aload_n 0, 1) := by decide +kernel
theorem dX6_refer_12 : decode cX6_refer 12 = .ok (.aload_n 0, 1) := by decide +kernel
theorem dX6_refer_13 : decode cX6_refer 13 = .ok (.getfield 10, 3) := by decide +kernel
theorem dX6_refer_16 : decode cX6_refer 16 = .ok (.iload_n 1, 1) := by decide +kernel
theorem dX6_refer_17 : decode cX6_refer 17 = .ok (.iload_n 2, 1) := by decide +kernel
theorem dX6_refer_18 : decode cX6_refer 18 = .ok (.invokevirtual 55, 3) := by decide +kernel
theorem dX6_refer_21 : decode cX6_refer 21 = .ok (.invokevirtual 41, 3) := by decide +kernel
theorem dX6_refer_24 : decode cX6_refer 24 = .ok (.ireturn, 1) := by decide +kernel
theorem dX6_reserve_0 : decode cX6_reserve 0 = .ok (.aload_n 0, 1) := by decide +kernel
theorem dX6_reserve_1 : decode cX6_reserve 1 = .ok (.getfield 22, 3) := by decide +kernel
theorem dX6_reserve_4 : decode cX6_reserve 4 = .ok (.aload_n 0, 1) := by decide +kernel
theorem dX6_reserve_5 : decode cX6_reserve 5 = .ok (.getfield 10, 3) := by decide +kernel
theorem dX6_reserve_8 : decode cX6_reserve 8 = .ok (.invokevirtual 33, 3) := by decide +kernel
theorem dX6_reserve_11 : decode cX6_reserve 11 = .ok (.aload_n 0, 1) := by decide +kernel
theorem dX6_reserve_12 : decode cX6_reserve 12 = .ok (.aload_n 0, 1) := by decide +kernel
theorem dX6_reserve_13 : decode cX6_reserve 13 = .ok (.getfield 10, 3) := by decide +kernel
theorem dX6_reserve_16 : decode cX6_reserve 16 = .ok (.iload_n 1, 1) := by decide +kernel
theorem dX6_reserve_17 : decode cX6_reserve 17 = .ok (.iload_n 2, 1) := by decide +kernel
theorem dX6_reserve_18 : decode cX6_reserve 18 = .ok (.invokevirtual 58, 3) := by decide +kernel
theorem dX6_reserve_21 : decode cX6_reserve 21 = .ok (.invokevirtual 41, 3) := by decide +kernel
theorem dX6_reserve_24 : decode cX6_reserve 24 = .ok (.ireturn, 1) := by decide +kernel
theorem dX6_cancel_0 : decode cX6_cancel 0 = .ok (.aload_n 0, 1) := by decide +kernel
theorem dX6_cancel_1 : decode cX6_cancel 1 = .ok (.getfield 22, 3) := by decide +kernel
theorem dX6_cancel_4 : decode cX6_cancel 4 = .ok (.aload_n 0, 1) := by decide +kernel
theorem dX6_cancel_5 : decode cX6_cancel 5 = .ok (.getfield 10, 3) := by decide +kernel
theorem dX6_cancel_8 : decode cX6_cancel 8 = .ok (.invokevirtual 33, 3) := by decide +kernel
theorem dX6_cancel_11 : decode cX6_cancel 11 = .ok (.aload_n 0, 1) := by decide +kernel
theorem dX6_cancel_12 : decode cX6_cancel 12 = .ok (.aload_n 0, 1) := by decide +kernel
theorem dX6_cancel_13 : decode cX6_cancel 13 = .ok (.getfield 10, 3) := by decide +kernel
theorem dX6_cancel_16 : decode cX6_cancel 16 = .ok (.iload_n 1, 1) := by decide +kernel
theorem dX6_cancel_17 : decode cX6_cancel 17 = .ok (.iload_n 2, 1) := by decide +kernel
theorem dX6_cancel_18 : decode cX6_cancel 18 = .ok (.invokevirtual 61, 3) := by decide +kernel
theorem dX6_cancel_21 : decode cX6_cancel 21 = .ok (.invokevirtual 41, 3) := by decide +kernel
theorem dX6_cancel_24 : decode cX6_cancel 24 = .ok (.ireturn, 1) := by decide +kernel
theorem dX6_pass_0 : decode cX6_pass 0 = .ok (.aload_n 0, 1) := by decide +kernel
theorem dX6_pass_1 : decode cX6_pass 1 = .ok (.getfield 22, 3) := by decide +kernel
theorem dX6_pass_4 : decode cX6_pass 4 = .ok (.aload_n 0, 1) := by decide +kernel
theorem dX6_pass_5 : decode cX6_pass 5 = .ok (.getfield 10, 3) := by decide +kernel
theorem dX6_pass_8 : decode cX6_pass 8 = .ok (.invokevirtual 33, 3) := by decide +kernel
theorem dX6_pass_11 : decode cX6_pass 11 = .ok (.aload_n 0, 1) := by decide +kernel
theorem dX6_pass_12 : decode cX6_pass 12 = .ok (.aload_n 0, 1) := by decide +kernel
theorem dX6_pass_13 : decode cX6_pass 13 = .ok (.getfield 10, 3) := by decide +kernel
theorem dX6_pass_16 : decode cX6_pass 16 = .ok (.iload_n 1, 1) := by decide +kernel
theorem dX6_pass_17 : decode cX6_pass 17 = .ok (.invokevirtual 64, 3) := by decide +kernel
theorem dX6_pass_20 : decode cX6_pass 20 = .ok (.invokevirtual 41, 3) := by decide +kernel
theorem dX6_pass_23 : decode cX6_pass 23 = .ok (.ireturn, 1) := by decide +kernel
theorem dX6_set_0 : decode cX6_set 0 = .ok (.aload_n 0, 1) := by decide +kernel
theorem dX6_set_1 : decode cX6_set 1 = .ok (.getfield 22, 3) := by decide +kernel
theorem dX6_set_4 : decode cX6_set 4 = .ok (.aload_n 0, 1) := by decide +kernel
theorem dX6_set_5 : decode cX6_set 5 = .ok (.getfield 10, 3) := by decide +kernel
theorem dX6_set_8 : decode cX6_set 8 = .ok (.invokevirtual 33, 3) := by decide +kernel
theorem dX6_set_11 : decode cX6_set 11 = .ok (.aload_n 0, 1) := by decide +kernel
theorem dX6_set_12 : decode cX6_set 12 = .ok (.aload_n 0, 1) := by decide +kernel
theorem dX6_set_13 : decode cX6_set 13 = .ok (.getfield 10, 3) := by decide +kernel
theorem dX6_set_16 : decode cX6_set 16 = .ok (.iload_n 1, 1) := by decide +kernel
theorem dX6_set_17 : decode cX6_set 17 = .ok (.iload_n 2, 1) := by decide +kernel
theorem dX6_set_18 : decode cX6_set 18 = .ok (.invokevirtual 67, 3) := by decide +kernel
theorem dX6_set_21 : decode cX6_set 21 = .ok (.invokevirtual 41, 3) := by decide +kernel
theorem dX6_set_24 : decode cX6_set 24 = .ok (.ireturn, 1) := by decide +kernel
theorem dX6_append_0 : decode cX6_append 0 = .ok (.iload_n 1, 1) := by decide +kernel
theorem dX6_append_1 : decode cX6_append 1 = .ok (.bipush 32, 2) := by decide +kernel
theorem dX6_append_3 : decode cX6_append 3 = .ok (.if_icmp .lt 9, 3) := by decide +kernel
theorem dX6_append_6 : decode cX6_append 6 = .ok (.iload_n 1, 1) := by decide +kernel
theorem dX6_append_7 : decode cX6_append 7 = .ok (.bipush 126, 2) := by decide +kernel
theorem dX6_append_9 : decode cX6_append 9 = .ok (.if_icmp .le 6, 3) := by decide +kernel
theorem dX6_append_12 : decode cX6_append 12 = .ok (.bipush (-2), 2) := by decide +kernel
theorem dX6_append_14 : decode cX6_append 14 = .ok (.ireturn, 1) := by decide +kernel
theorem dX6_append_15 : decode cX6_append 15 = .ok (.aload_n 0, 1) := by decide +kernel
theorem dX6_append_16 : decode cX6_append 16 = .ok (.getfield 29, 3) := by decide +kernel
theorem dX6_append_19 : decode cX6_append 19 = .ok (.iload_n 1, 1) := by decide +kernel
theorem dX6_append_20 : decode cX6_append 20 = .ok (.i2c, 1) := by decide +kernel
theorem dX6_append_21 : decode cX6_append 21 = .ok (.invokevirtual 70, 3) := by decide +kernel
theorem dX6_append_24 : decode cX6_append 24 = .ok (.ifCond .eq 13, 3) := by decide +kernel
theorem dX6_append_27 : decode cX6_append 27 = .ok (.aload_n 0, 1) := by decide +kernel
theorem dX6_append_28 : decode cX6_append 28 = .ok (.getfield 29, 3) := by decide +kernel
theorem dX6_append_31 : decode cX6_append 31 = .ok (.getfield 74, 3) := by decide +kernel
theorem dX6_append_34 : decode cX6_append 34 = .ok (.goto 5, 3) := by decide +kernel
theorem dX6_append_37 : decode cX6_append 37 = .ok (.bipush (-4), 2) := by decide +kernel
theorem dX6_append_39 : decode cX6_append 39 = .ok (.ireturn, 1) := by decide +kernel
theorem dX6_clearText_0 : decode cX6_clearText 0 = .ok (.aload_n 0, 1) := by decide +kernel
theorem dX6_clearText_1 : decode cX6_clearText 1 = .ok (.getfield 29, 3) := by decide +kernel
theorem dX6_clearText_4 : decode cX6_clearText 4 = .ok (.getfield 74, 3) := by decide +kernel
theorem dX6_clearText_7 : decode cX6_clearText 7 = .ok (.istore_n 1, 1) := by decide +kernel
theorem dX6_clearText_8 : decode cX6_clearText 8 = .ok (.aload_n 0, 1) := by decide +kernel
theorem dX6_clearText_9 : decode cX6_clearText 9 = .ok (.getfield 29, 3) := by decide +kernel
theorem dX6_clearText_12 : decode cX6_clearText 12 = .ok (.iconst 0, 1) := by decide +kernel
theorem dX6_clearText_13 : decode cX6_clearText 13 = .ok (.putfield 74, 3) := by decide +kernel
theorem dX6_clearText_16 : decode cX6_clearText 16 = .ok (.iload_n 1, 1) := by decide +kernel
theorem dX6_clearText_17 : decode cX6_clearText 17 = .ok (.ireturn, 1) := by decide +kernel
theorem dX6_fault_0 : decode cX6_fault 0 = .ok (.aload_n 0, 1) := by decide +kernel
theorem dX6_fault_1 : decode cX6_fault 1 = .ok (.getfield 29, 3) := by decide +kernel
theorem dX6_fault_4 : decode cX6_fault 4 = .ok (.invokevirtual 78, 3) := by decide +kernel
theorem dX6_fault_7 : decode cX6_fault 7 = .ok (.ireturn, 1) := by decide +kernel
theorem dX6_run_0 : decode cX6_run 0 = .ok (.aload_n 0, 1) := by decide +kernel
theorem dX6_run_1 : decode cX6_run 1 = .ok (.getfield 29, 3) := by decide +kernel
theorem dX6_run_4 : decode cX6_run 4 = .ok (.invokevirtual 78, 3) := by decide +kernel
theorem dX6_run_7 : decode cX6_run 7 = .ok (.bipush (-6), 2) := by decide +kernel
theorem dX6_run_9 : decode cX6_run 9 = .ok (.if_icmp .eq 6, 3) := by decide +kernel
theorem dX6_run_12 : decode cX6_run 12 = .ok (.bipush (-3), 2) := by decide +kernel
theorem dX6_run_14 : decode cX6_run 14 = .ok (.ireturn, 1) := by decide +kernel
theorem dX6_run_15 : decode cX6_run 15 = .ok (.aload_n 0, 1) := by decide +kernel
theorem dX6_run_16 : decode cX6_run 16 = .ok (.getfield 22, 3) := by decide +kernel
theorem dX6_run_19 : decode cX6_run 19 = .ok (.aload_n 0, 1) := by decide +kernel
theorem dX6_run_20 : decode cX6_run 20 = .ok (.getfield 10, 3) := by decide +kernel
theorem dX6_run_23 : decode cX6_run 23 = .ok (.invokevirtual 33, 3) := by decide +kernel
theorem dX6_run_26 : decode cX6_run 26 = .ok (.aload_n 0, 1) := by decide +kernel
theorem dX6_run_27 : decode cX6_run 27 = .ok (.iconst 0, 1) := by decide +kernel
theorem dX6_run_28 : decode cX6_run 28 = .ok (.putfield 82, 3) := by decide +kernel
theorem dX6_run_31 : decode cX6_run 31 = .ok (.aload_n 0, 1) := by decide +kernel
theorem dX6_run_32 : decode cX6_run 32 = .ok (.getfield 29, 3) := by decide +kernel
theorem dX6_run_35 : decode cX6_run 35 = .ok (.iconst 0, 1) := by decide +kernel
theorem dX6_run_36 : decode cX6_run 36 = .ok (.putfield 85, 3) := by decide +kernel
theorem dX6_run_39 : decode cX6_run 39 = .ok (.iconst 0, 1) := by decide +kernel
theorem dX6_run_40 : decode cX6_run 40 = .ok (.istore_n 1, 1) := by decide +kernel
theorem dX6_run_41 : decode cX6_run 41 = .ok (.iconst 1, 1) := by decide +kernel
theorem dX6_run_42 : decode cX6_run 42 = .ok (.istore_n 2, 1) := by decide +kernel
theorem dX6_run_43 : decode cX6_run 43 = .ok (.iconst 0, 1) := by decide +kernel
theorem dX6_run_44 : decode cX6_run 44 = .ok (.istore_n 3, 1) := by decide +kernel
theorem dX6_run_45 : decode cX6_run 45 = .ok (.iload_n 2, 1) := by decide +kernel
theorem dX6_run_46 : decode cX6_run 46 = .ok (.ifCond .eq 74, 3) := by decide +kernel
theorem dX6_run_49 : decode cX6_run 49 = .ok (.iload_n 3, 1) := by decide +kernel
theorem dX6_run_50 : decode cX6_run 50 = .ok (.bipush 60, 2) := by decide +kernel
theorem dX6_run_52 : decode cX6_run 52 = .ok (.if_icmp .ge 68, 3) := by decide +kernel
theorem dX6_run_55 : decode cX6_run 55 = .ok (.aload_n 0, 1) := by decide +kernel
theorem dX6_run_56 : decode cX6_run 56 = .ok (.getfield 29, 3) := by decide +kernel
theorem dX6_run_59 : decode cX6_run 59 = .ok (.getfield 85, 3) := by decide +kernel
theorem dX6_run_62 : decode cX6_run 62 = .ok (.istore 4, 2) := by decide +kernel
theorem dX6_run_64 : decode cX6_run 64 = .ok (.aload_n 0, 1) := by decide +kernel
theorem dX6_run_65 : decode cX6_run 65 = .ok (.getfield 29, 3) := by decide +kernel
theorem dX6_run_68 : decode cX6_run 68 = .ok (.invokevirtual 88, 3) := by decide +kernel
theorem dX6_run_71 : decode cX6_run 71 = .ok (.pop, 1) := by decide +kernel
theorem dX6_run_72 : decode cX6_run 72 = .ok (.aload_n 0, 1) := by decide +kernel
theorem dX6_run_73 : decode cX6_run 73 = .ok (.invokevirtual 92, 3) := by decide +kernel
theorem dX6_run_76 : decode cX6_run 76 = .ok (.istore 5, 2) := by decide +kernel
theorem dX6_run_78 : decode cX6_run 78 = .ok (.iload 5, 2) := by decide +kernel
theorem dX6_run_80 : decode cX6_run 80 = .ok (.invokestatic 95, 3) := by decide +kernel
theorem dX6_run_83 : decode cX6_run 83 = .ok (.ifCond .eq 18, 3) := by decide +kernel
theorem dX6_run_86 : decode cX6_run 86 = .ok (.aload_n 0, 1) := by decide +kernel
theorem dX6_run_87 : decode cX6_run 87 = .ok (.iload_n 1, 1) := by decide +kernel
theorem dX6_run_88 : decode cX6_run 88 = .ok (.iload 4, 2) := by decide +kernel
theorem dX6_run_90 : decode cX6_run 90 = .ok (.iload 5, 2) := by decide +kernel
theorem dX6_run_92 : decode cX6_run 92 = .ok (.ineg, 1) := by decide +kernel
theorem dX6_run_93 : decode cX6_run 93 = .ok (.invokevirtual 99, 3) := by decide +kernel
theorem dX6_run_96 : decode cX6_run 96 = .ok (.iconst 0, 1) := by decide +kernel
theorem dX6_run_97 : decode cX6_run 97 = .ok (.istore_n 2, 1) := by decide +kernel
theorem dX6_run_98 : decode cX6_run 98 = .ok (.goto 16, 3) := by decide +kernel
theorem dX6_run_101 : decode cX6_run 101 = .ok (.iinc 1 1, 3) := by decide +kernel
theorem dX6_run_104 : decode cX6_run 104 = .ok (.aload_n 0, 1) := by decide +kernel
theorem dX6_run_105 : decode cX6_run 105 = .ok (.getfield 29, 3) := by decide +kernel
theorem dX6_run_108 : decode cX6_run 108 = .ok (.bipush 59, 2) := by decide +kernel
theorem dX6_run_110 : decode cX6_run 110 = .ok (.invokevirtual 103, 3) := by decide +kernel
theorem dX6_run_113 : decode cX6_run 113 = .ok (.istore_n 2, 1) := by decide +kernel
theorem dX6_run_114 : decode cX6_run 114 = .ok (.iinc 3 1, 3) := by decide +kernel
theorem dX6_run_117 : decode cX6_run 117 = .ok (.goto (-72), 3) := by decide +kernel
theorem dX6_run_120 : decode cX6_run 120 = .ok (.aload_n 0, 1) := by decide +kernel
theorem dX6_run_121 : decode cX6_run 121 = .ok (.getfield 22, 3) := by decide +kernel
theorem dX6_run_124 : decode cX6_run 124 = .ok (.invokevirtual 106, 3) := by decide +kernel
theorem dX6_run_127 : decode cX6_run 127 = .ok (.iload_n 1, 1) := by decide +kernel
theorem dX6_run_128 : decode cX6_run 128 = .ok (.ireturn, 1) := by decide +kernel
theorem dX6_why_0 : decode cX6_why 0 = .ok (.iload_n 1, 1) := by decide +kernel
theorem dX6_why_1 : decode cX6_why 1 = .ok (.ifCond .lt 8, 3) := by decide +kernel
theorem dX6_why_4 : decode cX6_why 4 = .ok (.iload_n 1, 1) := by decide +kernel
theorem dX6_why_5 : decode cX6_why 5 = .ok (.iconst 2, 1) := by decide +kernel
theorem dX6_why_6 : decode cX6_why 6 = .ok (.if_icmp .le 6, 3) := by decide +kernel
theorem dX6_why_9 : decode cX6_why 9 = .ok (.bipush (-2), 2) := by decide +kernel
theorem dX6_why_11 : decode cX6_why 11 = .ok (.ireturn, 1) := by decide +kernel
theorem dX6_why_12 : decode cX6_why 12 = .ok (.aload_n 0, 1) := by decide +kernel
theorem dX6_why_13 : decode cX6_why 13 = .ok (.getfield 82, 3) := by decide +kernel
theorem dX6_why_16 : decode cX6_why 16 = .ok (.ifCond .ne 6, 3) := by decide +kernel
theorem dX6_why_19 : decode cX6_why 19 = .ok (.bipush (-6), 2) := by decide +kernel
theorem dX6_why_21 : decode cX6_why 21 = .ok (.ireturn, 1) := by decide +kernel
theorem dX6_why_22 : decode cX6_why 22 = .ok (.iload_n 1, 1) := by decide +kernel
theorem dX6_why_23 : decode cX6_why 23 = .ok (.lookupswitch 35 #[(0, 25), (1, 30)], 25) := by decide +kernel
theorem dX6_why_48 : decode cX6_why 48 = .ok (.aload_n 0, 1) := by decide +kernel
theorem dX6_why_49 : decode cX6_why 49 = .ok (.getfield 109, 3) := by decide +kernel
theorem dX6_why_52 : decode cX6_why 52 = .ok (.ireturn, 1) := by decide +kernel
theorem dX6_why_53 : decode cX6_why 53 = .ok (.aload_n 0, 1) := by decide +kernel
theorem dX6_why_54 : decode cX6_why 54 = .ok (.getfield 112, 3) := by decide +kernel
theorem dX6_why_57 : decode cX6_why 57 = .ok (.ireturn, 1) := by decide +kernel
theorem dX6_why_58 : decode cX6_why 58 = .ok (.aload_n 0, 1) := by decide +kernel
theorem dX6_why_59 : decode cX6_why 59 = .ok (.getfield 82, 3) := by decide +kernel
theorem dX6_why_62 : decode cX6_why 62 = .ok (.ireturn, 1) := by decide +kernel
theorem dX6_undo_0 : decode cX6_undo 0 = .ok (.aload_n 0, 1) := by decide +kernel
theorem dX6_undo_1 : decode cX6_undo 1 = .ok (.getfield 22, 3) := by decide +kernel
theorem dX6_undo_4 : decode cX6_undo 4 = .ok (.invokevirtual 115, 3) := by decide +kernel
theorem dX6_undo_7 : decode cX6_undo 7 = .ok (.astore_n 1, 1) := by decide +kernel
theorem dX6_undo_8 : decode cX6_undo 8 = .ok (.aload_n 1, 1) := by decide +kernel
theorem dX6_undo_9 : decode cX6_undo 9 = .ok (.ifnonnull 6, 3) := by decide +kernel
theorem dX6_undo_12 : decode cX6_undo 12 = .ok (.bipush (-6), 2) := by decide +kernel
theorem dX6_undo_14 : decode cX6_undo 14 = .ok (.ireturn, 1) := by decide +kernel
theorem dX6_undo_15 : decode cX6_undo 15 = .ok (.aload_n 0, 1) := by decide +kernel
theorem dX6_undo_16 : decode cX6_undo 16 = .ok (.getfield 10, 3) := by decide +kernel
theorem dX6_undo_19 : decode cX6_undo 19 = .ok (.aload_n 1, 1) := by decide +kernel
theorem dX6_undo_20 : decode cX6_undo 20 = .ok (.invokevirtual 119, 3) := by decide +kernel
theorem dX6_undo_23 : decode cX6_undo 23 = .ok (.aload_n 0, 1) := by decide +kernel
theorem dX6_undo_24 : decode cX6_undo 24 = .ok (.getfield 22, 3) := by decide +kernel
theorem dX6_undo_27 : decode cX6_undo 27 = .ok (.getfield 122, 3) := by decide +kernel
theorem dX6_undo_30 : decode cX6_undo 30 = .ok (.ireturn, 1) := by decide +kernel
theorem dX6_now_0 : decode cX6_now 0 = .ok (.aload_n 0, 1) := by decide +kernel
theorem dX6_now_1 : decode cX6_now 1 = .ok (.getfield 10, 3) := by decide +kernel
theorem dX6_now_4 : decode cX6_now 4 = .ok (.getfield 125, 3) := by decide +kernel
theorem dX6_now_7 : decode cX6_now 7 = .ok (.ireturn, 1) := by decide +kernel
theorem dX6_count_0 : decode cX6_count 0 = .ok (.iload_n 1, 1) := by decide +kernel
theorem dX6_count_1 : decode cX6_count 1 = .ok (.tableswitch 141 0 9 #[55, 63, 71, 79, 87, 95, 103, 111, 119, 130], 55) := by decide +kernel
theorem dX6_count_56 : decode cX6_count 56 = .ok (.aload_n 0, 1) := by decide +kernel
theorem dX6_count_57 : decode cX6_count 57 = .ok (.getfield 10, 3) := by decide +kernel
theorem dX6_count_60 : decode cX6_count 60 = .ok (.getfield 128, 3) := by decide +kernel
theorem dX6_count_63 : decode cX6_count 63 = .ok (.ireturn, 1) := by decide +kernel
theorem dX6_count_64 : decode cX6_count 64 = .ok (.aload_n 0, 1) := by decide +kernel
theorem dX6_count_65 : decode cX6_count 65 = .ok (.getfield 10, 3) := by decide +kernel
theorem dX6_count_68 : decode cX6_count 68 = .ok (.getfield 131, 3) := by decide +kernel
theorem dX6_count_71 : decode cX6_count 71 = .ok (.ireturn, 1) := by decide +kernel
theorem dX6_count_72 : decode cX6_count 72 = .ok (.aload_n 0, 1) := by decide +kernel
theorem dX6_count_73 : decode cX6_count 73 = .ok (.getfield 10, 3) := by decide +kernel
theorem dX6_count_76 : decode cX6_count 76 = .ok (.invokevirtual 134, 3) := by decide +kernel
theorem dX6_count_79 : decode cX6_count 79 = .ok (.ireturn, 1) := by decide +kernel
theorem dX6_count_80 : decode cX6_count 80 = .ok (.aload_n 0, 1) := by decide +kernel
theorem dX6_count_81 : decode cX6_count 81 = .ok (.getfield 10, 3) := by decide +kernel
theorem dX6_count_84 : decode cX6_count 84 = .ok (.getfield 137, 3) := by decide +kernel
theorem dX6_count_87 : decode cX6_count 87 = .ok (.ireturn, 1) := by decide +kernel
theorem dX6_count_88 : decode cX6_count 88 = .ok (.aload_n 0, 1) := by decide +kernel
theorem dX6_count_89 : decode cX6_count 89 = .ok (.getfield 10, 3) := by decide +kernel
theorem dX6_count_92 : decode cX6_count 92 = .ok (.getfield 140, 3) := by decide +kernel
theorem dX6_count_95 : decode cX6_count 95 = .ok (.ireturn, 1) := by decide +kernel
theorem dX6_count_96 : decode cX6_count 96 = .ok (.aload_n 0, 1) := by decide +kernel
theorem dX6_count_97 : decode cX6_count 97 = .ok (.getfield 10, 3) := by decide +kernel
theorem dX6_count_100 : decode cX6_count 100 = .ok (.getfield 143, 3) := by decide +kernel
theorem dX6_count_103 : decode cX6_count 103 = .ok (.ireturn, 1) := by decide +kernel
theorem dX6_count_104 : decode cX6_count 104 = .ok (.aload_n 0, 1) := by decide +kernel
theorem dX6_count_105 : decode cX6_count 105 = .ok (.getfield 10, 3) := by decide +kernel
theorem dX6_count_108 : decode cX6_count 108 = .ok (.getfield 146, 3) := by decide +kernel
theorem dX6_count_111 : decode cX6_count 111 = .ok (.ireturn, 1) := by decide +kernel
theorem dX6_count_112 : decode cX6_count 112 = .ok (.aload_n 0, 1) := by decide +kernel
theorem dX6_count_113 : decode cX6_count 113 = .ok (.getfield 10, 3) := by decide +kernel
theorem dX6_count_116 : decode cX6_count 116 = .ok (.getfield 149, 3) := by decide +kernel
theorem dX6_count_119 : decode cX6_count 119 = .ok (.ireturn, 1) := by decide +kernel
theorem dX6_count_120 : decode cX6_count 120 = .ok (.aload_n 0, 1) := by decide +kernel
theorem dX6_count_121 : decode cX6_count 121 = .ok (.getfield 10, 3) := by decide +kernel
theorem dX6_count_124 : decode cX6_count 124 = .ok (.getfield 152, 3) := by decide +kernel
theorem dX6_count_127 : decode cX6_count 127 = .ok (.getfield 156, 3) := by decide +kernel
theorem dX6_count_130 : decode cX6_count 130 = .ok (.ireturn, 1) := by decide +kernel
theorem dX6_count_131 : decode cX6_count 131 = .ok (.aload_n 0, 1) := by decide +kernel
theorem dX6_count_132 : decode cX6_count 132 = .ok (.getfield 10, 3) := by decide +kernel
theorem dX6_count_135 : decode cX6_count 135 = .ok (.getfield 159, 3) := by decide +kernel
theorem dX6_count_138 : decode cX6_count 138 = .ok (.getfield 163, 3) := by decide +kernel
theorem dX6_count_141 : decode cX6_count 141 = .ok (.ireturn, 1) := by decide +kernel
theorem dX6_count_142 : decode cX6_count 142 = .ok (.bipush (-2), 2) := by decide +kernel
theorem dX6_count_144 : decode cX6_count 144 = .ok (.ireturn, 1) := by decide +kernel
theorem dX6_fileAt_0 : decode cX6_fileAt 0 = .ok (.iload_n 1, 1) := by decide +kernel
theorem dX6_fileAt_1 : decode cX6_fileAt 1 = .ok (.ifCond .ge 6, 3) := by decide +kernel
theorem dX6_fileAt_4 : decode cX6_fileAt 4 = .ok (.bipush (-2), 2) := by decide +kernel
theorem dX6_fileAt_6 : decode cX6_fileAt 6 = .ok (.ireturn, 1) := by decide +kernel
theorem dX6_fileAt_7 : decode cX6_fileAt 7 = .ok (.iload_n 1, 1) := by decide +kernel
theorem dX6_fileAt_8 : decode cX6_fileAt 8 = .ok (.aload_n 0, 1) := by decide +kernel
theorem dX6_fileAt_9 : decode cX6_fileAt 9 = .ok (.getfield 10, 3) := by decide +kernel
theorem dX6_fileAt_12 : decode cX6_fileAt 12 = .ok (.getfield 128, 3) := by decide +kernel
theorem dX6_fileAt_15 : decode cX6_fileAt 15 = .ok (.if_icmp .ge 18, 3) := by decide +kernel
theorem dX6_fileAt_18 : decode cX6_fileAt 18 = .ok (.aload_n 0, 1) := by decide +kernel
theorem dX6_fileAt_19 : decode cX6_fileAt 19 = .ok (.getfield 10, 3) := by decide +kernel
theorem dX6_fileAt_22 : decode cX6_fileAt 22 = .ok (.getfield 166, 3) := by decide +kernel
theorem dX6_fileAt_25 : decode cX6_fileAt 25 = .ok (.iload_n 1, 1) := by decide +kernel
theorem dX6_fileAt_26 : decode cX6_fileAt 26 = .ok (.aaload, 1) := by decide +kernel
theorem dX6_fileAt_27 : decode cX6_fileAt 27 = .ok (.getfield 170, 3) := by decide +kernel
theorem dX6_fileAt_30 : decode cX6_fileAt 30 = .ok (.goto 5, 3) := by decide +kernel
theorem dX6_fileAt_33 : decode cX6_fileAt 33 = .ok (.bipush (-6), 2) := by decide +kernel
theorem dX6_fileAt_35 : decode cX6_fileAt 35 = .ok (.ireturn, 1) := by decide +kernel
theorem dX6_file_0 : decode cX6_file 0 = .ok (.aload_n 0, 1) := by decide +kernel
theorem dX6_file_1 : decode cX6_file 1 = .ok (.getfield 10, 3) := by decide +kernel
theorem dX6_file_4 : decode cX6_file 4 = .ok (.iload_n 1, 1) := by decide +kernel
theorem dX6_file_5 : decode cX6_file 5 = .ok (.invokevirtual 175, 3) := by decide +kernel
theorem dX6_file_8 : decode cX6_file 8 = .ok (.astore_n 3, 1) := by decide +kernel
theorem dX6_file_9 : decode cX6_file 9 = .ok (.aload_n 3, 1) := by decide +kernel
theorem dX6_file_10 : decode cX6_file 10 = .ok (.ifnonnull 5, 3) := by decide +kernel
theorem dX6_file_13 : decode cX6_file 13 = .ok (.iconst (-1), 1) := by decide +kernel
theorem dX6_file_14 : decode cX6_file 14 = .ok (.ireturn, 1) := by decide +kernel
theorem dX6_file_15 : decode cX6_file 15 = .ok (.iload_n 2, 1) := by decide +kernel
theorem dX6_file_16 : decode cX6_file 16 = .ok (.tableswitch 128 0 9 #[56, 61, 66, 71, 76, 81, 86, 95, 107, 116], 56) := by decide +kernel
theorem dX6_file_72 : decode cX6_file 72 = .ok (.aload_n 3, 1) := by decide +kernel
theorem dX6_file_73 : decode cX6_file 73 = .ok (.getfield 179, 3) := by decide +kernel
theorem dX6_file_76 : decode cX6_file 76 = .ok (.ireturn, 1) := by decide +kernel
theorem dX6_file_77 : decode cX6_file 77 = .ok (.aload_n 3, 1) := by decide +kernel
theorem dX6_file_78 : decode cX6_file 78 = .ok (.getfield 182, 3) := by decide +kernel
theorem dX6_file_81 : decode cX6_file 81 = .ok (.ireturn, 1) := by decide +kernel
theorem dX6_file_82 : decode cX6_file 82 = .ok (.aload_n 3, 1) := by decide +kernel
theorem dX6_file_83 : decode cX6_file 83 = .ok (.getfield 185, 3) := by decide +kernel
theorem dX6_file_86 : decode cX6_file 86 = .ok (.ireturn, 1) := by decide +kernel
theorem dX6_file_87 : decode cX6_file 87 = .ok (.aload_n 3, 1) := by decide +kernel
theorem dX6_file_88 : decode cX6_file 88 = .ok (.getfield 188, 3) := by decide +kernel
theorem dX6_file_91 : decode cX6_file 91 = .ok (.ireturn, 1) := by decide +kernel
theorem dX6_file_92 : decode cX6_file 92 = .ok (.aload_n 3, 1) := by decide +kernel
theorem dX6_file_93 : decode cX6_file 93 = .ok (.getfield 191, 3) := by decide +kernel
theorem dX6_file_96 : decode cX6_file 96 = .ok (.ireturn, 1) := by decide +kernel
theorem dX6_file_97 : decode cX6_file 97 = .ok (.aload_n 3, 1) := by decide +kernel
theorem dX6_file_98 : decode cX6_file 98 = .ok (.getfield 194, 3) := by decide +kernel
theorem dX6_file_101 : decode cX6_file 101 = .ok (.ireturn, 1) := by decide +kernel
theorem dX6_file_102 : decode cX6_file 102 = .ok (.aload_n 0, 1) := by decide +kernel
theorem dX6_file_103 : decode cX6_file 103 = .ok (.getfield 10, 3) := by decide +kernel
theorem dX6_file_106 : decode cX6_file 106 = .ok (.aload_n 3, 1) := by decide +kernel
theorem dX6_file_107 : decode cX6_file 107 = .ok (.invokevirtual 197, 3) := by decide +kernel
theorem dX6_file_110 : decode cX6_file 110 = .ok (.ireturn, 1) := by decide +kernel
theorem dX6_file_111 : decode cX6_file 111 = .ok (.aload_n 3, 1) := by decide +kernel
theorem dX6_file_112 : decode cX6_file 112 = .ok (.aload_n 0, 1) := by decide +kernel
theorem dX6_file_113 : decode cX6_file 113 = .ok (.getfield 10, 3) := by decide +kernel
theorem dX6_file_116 : decode cX6_file 116 = .ok (.getfield 125, 3) := by decide +kernel
theorem dX6_file_119 : decode cX6_file 119 = .ok (.invokevirtual 201, 3) := by decide +kernel
theorem dX6_file_122 : decode cX6_file 122 = .ok (.ireturn, 1) := by decide +kernel
theorem dX6_file_123 : decode cX6_file 123 = .ok (.aload_n 0, 1) := by decide +kernel
theorem dX6_file_124 : decode cX6_file 124 = .ok (.getfield 10, 3) := by decide +kernel
theorem dX6_file_127 : decode cX6_file 127 = .ok (.iload_n 1, 1) := by decide +kernel
theorem dX6_file_128 : decode cX6_file 128 = .ok (.invokevirtual 204, 3) := by decide +kernel
theorem dX6_file_131 : decode cX6_file 131 = .ok (.ireturn, 1) := by decide +kernel
theorem dX6_file_132 : decode cX6_file 132 = .ok (.aload_n 0, 1) := by decide +kernel
theorem dX6_file_133 : decode cX6_file 133 = .ok (.getfield 10, 3) := by decide +kernel
theorem dX6_file_136 : decode cX6_file 136 = .ok (.getfield 152, 3) := by decide +kernel
theorem dX6_file_139 : decode cX6_file 139 = .ok (.iload_n 1, 1) := by decide +kernel
theorem dX6_file_140 : decode cX6_file 140 = .ok (.invokevirtual 207, 3) := by decide +kernel
theorem dX6_file_143 : decode cX6_file 143 = .ok (.ireturn, 1) := by decide +kernel
theorem dX6_file_144 : decode cX6_file 144 = .ok (.bipush (-2), 2) := by decide +kernel
theorem dX6_file_146 : decode cX6_file 146 = .ok (.ireturn, 1) := by decide +kernel
theorem dX6_sealOf_0 : decode cX6_sealOf 0 = .ok (.aload_n 0, 1) := by decide +kernel
theorem dX6_sealOf_1 : decode cX6_sealOf 1 = .ok (.getfield 10, 3) := by decide +kernel
theorem dX6_sealOf_4 : decode cX6_sealOf 4 = .ok (.iload_n 2, 1) := by decide +kernel
theorem dX6_sealOf_5 : decode cX6_sealOf 5 = .ok (.invokevirtual 175, 3) := by decide +kernel
theorem dX6_sealOf_8 : decode cX6_sealOf 8 = .ok (.astore_n 3, 1) := by decide +kernel
theorem dX6_sealOf_9 : decode cX6_sealOf 9 = .ok (.iload_n 1, 1) := by decide +kernel
theorem dX6_sealOf_10 : decode cX6_sealOf 10 = .ok (.invokestatic 210, 3) := by decide +kernel
theorem dX6_sealOf_13 : decode cX6_sealOf 13 = .ok (.ifCond .ne 7, 3) := by decide +kernel
theorem dX6_sealOf_16 : decode cX6_sealOf 16 = .ok (.aload_n 3, 1) := by decide +kernel
theorem dX6_sealOf_17 : decode cX6_sealOf 17 = .ok (.ifnonnull 5, 3) := by decide +kernel
theorem dX6_sealOf_20 : decode cX6_sealOf 20 = .ok (.iconst (-1), 1) := by decide +kernel
theorem dX6_sealOf_21 : decode cX6_sealOf 21 = .ok (.ireturn, 1) := by decide +kernel
theorem dX6_sealOf_22 : decode cX6_sealOf 22 = .ok (.aload_n 3, 1) := by decide +kernel
theorem dX6_sealOf_23 : decode cX6_sealOf 23 = .ok (.getfield 213, 3) := by decide +kernel
theorem dX6_sealOf_26 : decode cX6_sealOf 26 = .ok (.iload_n 1, 1) := by decide +kernel
theorem dX6_sealOf_27 : decode cX6_sealOf 27 = .ok (.iaload, 1) := by decide +kernel
theorem dX6_sealOf_28 : decode cX6_sealOf 28 = .ok (.istore 4, 2) := by decide +kernel
theorem dX6_sealOf_30 : decode cX6_sealOf 30 = .ok (.iload 4, 2) := by decide +kernel
theorem dX6_sealOf_32 : decode cX6_sealOf 32 = .ok (.iconst (-1), 1) := by decide +kernel
theorem dX6_sealOf_33 : decode cX6_sealOf 33 = .ok (.if_icmp .ne 8, 3) := by decide +kernel
theorem dX6_sealOf_36 : decode cX6_sealOf 36 = .ok (.bipush (-6), 2) := by decide +kernel
theorem dX6_sealOf_38 : decode cX6_sealOf 38 = .ok (.goto 5, 3) := by decide +kernel
theorem dX6_sealOf_41 : decode cX6_sealOf 41 = .ok (.iload 4, 2) := by decide +kernel
theorem dX6_sealOf_43 : decode cX6_sealOf 43 = .ok (.ireturn, 1) := by decide +kernel
theorem dX6_trace_0 : decode cX6_trace 0 = .ok (.iload_n 1, 1) := by decide +kernel
theorem dX6_trace_1 : decode cX6_trace 1 = .ok (.ifCond .lt 12, 3) := by decide +kernel
theorem dX6_trace_4 : decode cX6_trace 4 = .ok (.iload_n 2, 1) := by decide +kernel
theorem dX6_trace_5 : decode cX6_trace 5 = .ok (.ifCond .lt 8, 3) := by decide +kernel
theorem dX6_trace_8 : decode cX6_trace 8 = .ok (.iload_n 2, 1) := by decide +kernel
theorem dX6_trace_9 : decode cX6_trace 9 = .ok (.iconst 5, 1) := by decide +kernel
theorem dX6_trace_10 : decode cX6_trace 10 = .ok (.if_icmp .lt 6, 3) := by decide +kernel
theorem dX6_trace_13 : decode cX6_trace 13 = .ok (.bipush (-2), 2) := by decide +kernel
theorem dX6_trace_15 : decode cX6_trace 15 = .ok (.ireturn, 1) := by decide +kernel
theorem dX6_trace_16 : decode cX6_trace 16 = .ok (.iload_n 1, 1) := by decide +kernel
theorem dX6_trace_17 : decode cX6_trace 17 = .ok (.aload_n 0, 1) := by decide +kernel
theorem dX6_trace_18 : decode cX6_trace 18 = .ok (.getfield 10, 3) := by decide +kernel
theorem dX6_trace_21 : decode cX6_trace 21 = .ok (.getfield 159, 3) := by decide +kernel
theorem dX6_trace_24 : decode cX6_trace 24 = .ok (.getfield 163, 3) := by decide +kernel
theorem dX6_trace_27 : decode cX6_trace 27 = .ok (.if_icmp .ge 18, 3) := by decide +kernel
theorem dX6_trace_30 : decode cX6_trace 30 = .ok (.aload_n 0, 1) := by decide +kernel
theorem dX6_trace_31 : decode cX6_trace 31 = .ok (.getfield 10, 3) := by decide +kernel
theorem dX6_trace_34 : decode cX6_trace 34 = .ok (.getfield 159, 3) := by decide +kernel
theorem dX6_trace_37 : decode cX6_trace 37 = .ok (.iload_n 1, 1) := by decide +kernel
theorem dX6_trace_38 : decode cX6_trace 38 = .ok (.iload_n 2, 1) := by decide +kernel
theorem dX6_trace_39 : decode cX6_trace 39 = .ok (.invokevirtual 217, 3) := by decide +kernel
theorem dX6_trace_42 : decode cX6_trace 42 = .ok (.goto 5, 3) := by decide +kernel
theorem dX6_trace_45 : decode cX6_trace 45 = .ok (.bipush (-6), 2) := by decide +kernel
theorem dX6_trace_47 : decode cX6_trace 47 = .ok (.ireturn, 1) := by decide +kernel
theorem dX6_reservation_0 : decode cX6_reservation 0 = .ok (.iload_n 1, 1) := by decide +kernel
theorem dX6_reservation_1 : decode cX6_reservation 1 = .ok (.ifCond .lt 12, 3) := by decide +kernel
theorem dX6_reservation_4 : decode cX6_reservation 4 = .ok (.iload_n 2, 1) := by decide +kernel
theorem dX6_reservation_5 : decode cX6_reservation 5 = .ok (.ifCond .lt 8, 3) := by decide +kernel
theorem dX6_reservation_8 : decode cX6_reservation 8 = .ok (.iload_n 2, 1) := by decide +kernel
theorem dX6_reservation_9 : decode cX6_reservation 9 = .ok (.iconst 1, 1) := by decide +kernel
theorem dX6_reservation_10 : decode cX6_reservation 10 = .ok (.if_icmp .le 6, 3) := by decide +kernel
theorem dX6_reservation_13 : decode cX6_reservation 13 = .ok (.bipush (-2), 2) := by decide +kernel
theorem dX6_reservation_15 : decode cX6_reservation 15 = .ok (.ireturn, 1) := by decide +kernel
theorem dX6_reservation_16 : decode cX6_reservation 16 = .ok (.iload_n 1, 1) := by decide +kernel
theorem dX6_reservation_17 : decode cX6_reservation 17 = .ok (.aload_n 0, 1) := by decide +kernel
theorem dX6_reservation_18 : decode cX6_reservation 18 = .ok (.getfield 10, 3) := by decide +kernel
theorem dX6_reservation_21 : decode cX6_reservation 21 = .ok (.getfield 152, 3) := by decide +kernel
theorem dX6_reservation_24 : decode cX6_reservation 24 = .ok (.getfield 156, 3) := by decide +kernel
theorem dX6_reservation_27 : decode cX6_reservation 27 = .ok (.if_icmp .lt 6, 3) := by decide +kernel
theorem dX6_reservation_30 : decode cX6_reservation 30 = .ok (.bipush (-6), 2) := by decide +kernel
theorem dX6_reservation_32 : decode cX6_reservation 32 = .ok (.ireturn, 1) := by decide +kernel
theorem dX6_reservation_33 : decode cX6_reservation 33 = .ok (.iload_n 2, 1) := by decide +kernel
theorem dX6_reservation_34 : decode cX6_reservation 34 = .ok (.ifCond .ne 18, 3) := by decide +kernel
theorem dX6_reservation_37 : decode cX6_reservation 37 = .ok (.aload_n 0, 1) := by decide +kernel
theorem dX6_reservation_38 : decode cX6_reservation 38 = .ok (.getfield 10, 3) := by decide +kernel
theorem dX6_reservation_41 : decode cX6_reservation 41 = .ok (.getfield 152, 3) := by decide +kernel
theorem dX6_reservation_44 : decode cX6_reservation 44 = .ok (.getfield 220, 3) := by decide +kernel
theorem dX6_reservation_47 : decode cX6_reservation 47 = .ok (.iload_n 1, 1) := by decide +kernel
theorem dX6_reservation_48 : decode cX6_reservation 48 = .ok (.iaload, 1) := by decide +kernel
theorem dX6_reservation_49 : decode cX6_reservation 49 = .ok (.goto 15, 3) := by decide +kernel
theorem dX6_reservation_52 : decode cX6_reservation 52 = .ok (.aload_n 0, 1) := by decide +kernel
theorem dX6_reservation_53 : decode cX6_reservation 53 = .ok (.getfield 10, 3) := by decide +kernel
theorem dX6_reservation_56 : decode cX6_reservation 56 = .ok (.getfield 152, 3) := by decide +kernel
theorem dX6_reservation_59 : decode cX6_reservation 59 = .ok (.getfield 222, 3) := by decide +kernel
theorem dX6_reservation_62 : decode cX6_reservation 62 = .ok (.iload_n 1, 1) := by decide +kernel
theorem dX6_reservation_63 : decode cX6_reservation 63 = .ok (.iaload, 1) := by decide +kernel
theorem dX6_reservation_64 : decode cX6_reservation 64 = .ok (.ireturn, 1) := by decide +kernel
theorem dX6_setting_0 : decode cX6_setting 0 = .ok (.iload_n 1, 1) := by decide +kernel
theorem dX6_setting_1 : decode cX6_setting 1 = .ok (.invokestatic 225, 3) := by decide +kernel
theorem dX6_setting_4 : decode cX6_setting 4 = .ok (.ifCond .eq 7, 3) := by decide +kernel
theorem dX6_setting_7 : decode cX6_setting 7 = .ok (.iconst (-1), 1) := by decide +kernel
theorem dX6_setting_8 : decode cX6_setting 8 = .ok (.goto 12, 3) := by decide +kernel
theorem dX6_setting_11 : decode cX6_setting 11 = .ok (.aload_n 0, 1) := by decide +kernel
theorem dX6_setting_12 : decode cX6_setting 12 = .ok (.getfield 10, 3) := by decide +kernel
theorem dX6_setting_15 : decode cX6_setting 15 = .ok (.getfield 228, 3) := by decide +kernel
theorem dX6_setting_18 : decode cX6_setting 18 = .ok (.iload_n 1, 1) := by decide +kernel
theorem dX6_setting_19 : decode cX6_setting 19 = .ok (.iaload, 1) := by decide +kernel
theorem dX6_setting_20 : decode cX6_setting 20 = .ok (.ireturn, 1) := by decide +kernel
theorem dX6_meanAge_0 : decode cX6_meanAge 0 = .ok (.aload_n 0, 1) := by decide +kernel
theorem dX6_meanAge_1 : decode cX6_meanAge 1 = .ok (.getfield 10, 3) := by decide +kernel
theorem dX6_meanAge_4 : decode cX6_meanAge 4 = .ok (.getfield 128, 3) := by decide +kernel
theorem dX6_meanAge_7 : decode cX6_meanAge 7 = .ok (.ifCond .ne 5, 3) := by decide +kernel
theorem dX6_meanAge_10 : decode cX6_meanAge 10 = .ok (.fconst 0, 1) := by decide +kernel
theorem dX6_meanAge_11 : decode cX6_meanAge 11 = .ok (.freturn, 1) := by decide +kernel
theorem dX6_meanAge_12 : decode cX6_meanAge 12 = .ok (.aload_n 0, 1) := by decide +kernel
theorem dX6_meanAge_13 : decode cX6_meanAge 13 = .ok (.getfield 10, 3) := by decide +kernel
theorem dX6_meanAge_16 : decode cX6_meanAge 16 = .ok (.invokevirtual 231, 3) := by decide +kernel
theorem dX6_meanAge_19 : decode cX6_meanAge 19 = .ok (.i2f, 1) := by decide +kernel
theorem dX6_meanAge_20 : decode cX6_meanAge 20 = .ok (.aload_n 0, 1) := by decide +kernel
theorem dX6_meanAge_21 : decode cX6_meanAge 21 = .ok (.getfield 10, 3) := by decide +kernel
theorem dX6_meanAge_24 : decode cX6_meanAge 24 = .ok (.getfield 128, 3) := by decide +kernel
theorem dX6_meanAge_27 : decode cX6_meanAge 27 = .ok (.i2f, 1) := by decide +kernel
theorem dX6_meanAge_28 : decode cX6_meanAge 28 = .ok (.fdiv, 1) := by decide +kernel
theorem dX6_meanAge_29 : decode cX6_meanAge 29 = .ok (.freturn, 1) := by decide +kernel
theorem dX6_stays_0 : decode cX6_stays 0 = .ok (.aload_n 0, 1) := by decide +kernel
theorem dX6_stays_1 : decode cX6_stays 1 = .ok (.getfield 10, 3) := by decide +kernel
theorem dX6_stays_4 : decode cX6_stays 4 = .ok (.iload_n 1, 1) := by decide +kernel
theorem dX6_stays_5 : decode cX6_stays 5 = .ok (.invokevirtual 175, 3) := by decide +kernel
theorem dX6_stays_8 : decode cX6_stays 8 = .ok (.astore_n 2, 1) := by decide +kernel
theorem dX6_stays_9 : decode cX6_stays 9 = .ok (.aload_n 2, 1) := by decide +kernel
theorem dX6_stays_10 : decode cX6_stays 10 = .ok (.ifnonnull 5, 3) := by decide +kernel
theorem dX6_stays_13 : decode cX6_stays 13 = .ok (.iconst (-1), 1) := by decide +kernel
theorem dX6_stays_14 : decode cX6_stays 14 = .ok (.ireturn, 1) := by decide +kernel
theorem dX6_stays_15 : decode cX6_stays 15 = .ok (.aload_n 0, 1) := by decide +kernel
theorem dX6_stays_16 : decode cX6_stays 16 = .ok (.getfield 10, 3) := by decide +kernel
theorem dX6_stays_19 : decode cX6_stays 19 = .ok (.invokevirtual 234, 3) := by decide +kernel
theorem dX6_stays_22 : decode cX6_stays 22 = .ok (.aload_n 2, 1) := by decide +kernel
theorem dX6_stays_23 : decode cX6_stays 23 = .ok (.getfield 237, 3) := by decide +kernel
theorem dX6_stays_26 : decode cX6_stays 26 = .ok (.ireturn, 1) := by decide +kernel
theorem dX6_keeper_0 : decode cX6_keeper 0 = .ok (.aload_n 0, 1) := by decide +kernel
theorem dX6_keeper_1 : decode cX6_keeper 1 = .ok (.iload_n 1, 1) := by decide +kernel
theorem dX6_keeper_2 : decode cX6_keeper 2 = .ok (.invokevirtual 240, 3) := by decide +kernel
theorem dX6_keeper_5 : decode cX6_keeper 5 = .ok (.istore_n 2, 1) := by decide +kernel
theorem dX6_keeper_6 : decode cX6_keeper 6 = .ok (.iload_n 2, 1) := by decide +kernel
theorem dX6_keeper_7 : decode cX6_keeper 7 = .ok (.iconst (-1), 1) := by decide +kernel
theorem dX6_keeper_8 : decode cX6_keeper 8 = .ok (.if_icmp .ne 5, 3) := by decide +kernel
theorem dX6_keeper_11 : decode cX6_keeper 11 = .ok (.iconst (-1), 1) := by decide +kernel
theorem dX6_keeper_12 : decode cX6_keeper 12 = .ok (.ireturn, 1) := by decide +kernel
theorem dX6_keeper_13 : decode cX6_keeper 13 = .ok (.iload_n 2, 1) := by decide +kernel
theorem dX6_keeper_14 : decode cX6_keeper 14 = .ok (.iconst 4, 1) := by decide +kernel
theorem dX6_keeper_15 : decode cX6_keeper 15 = .ok (.if_icmp .ne 14, 3) := by decide +kernel
theorem dX6_keeper_18 : decode cX6_keeper 18 = .ok (.aload_n 0, 1) := by decide +kernel
theorem dX6_keeper_19 : decode cX6_keeper 19 = .ok (.getfield 10, 3) := by decide +kernel
theorem dX6_keeper_22 : decode cX6_keeper 22 = .ok (.iload_n 1, 1) := by decide +kernel
theorem dX6_keeper_23 : decode cX6_keeper 23 = .ok (.invokevirtual 243, 3) := by decide +kernel
theorem dX6_keeper_26 : decode cX6_keeper 26 = .ok (.goto 5, 3) := by decide +kernel
theorem dX6_keeper_29 : decode cX6_keeper 29 = .ok (.bipush (-6), 2) := by decide +kernel
theorem dX6_keeper_31 : decode cX6_keeper 31 = .ok (.ireturn, 1) := by decide +kernel
theorem dX6_burntIn_0 : decode cX6_burntIn 0 = .ok (.aload_n 0, 1) := by decide +kernel
theorem dX6_burntIn_1 : decode cX6_burntIn 1 = .ok (.getfield 10, 3) := by decide +kernel
theorem dX6_burntIn_4 : decode cX6_burntIn 4 = .ok (.iload_n 1, 1) := by decide +kernel
theorem dX6_burntIn_5 : decode cX6_burntIn 5 = .ok (.invokevirtual 175, 3) := by decide +kernel
theorem dX6_burntIn_8 : decode cX6_burntIn 8 = .ok (.ifnonnull 5, 3) := by decide +kernel
theorem dX6_burntIn_11 : decode cX6_burntIn 11 = .ok (.iconst (-1), 1) := by decide +kernel
theorem dX6_burntIn_12 : decode cX6_burntIn 12 = .ok (.ireturn, 1) := by decide +kernel
theorem dX6_burntIn_13 : decode cX6_burntIn 13 = .ok (.aload_n 0, 1) := by decide +kernel
theorem dX6_burntIn_14 : decode cX6_burntIn 14 = .ok (.getfield 16, 3) := by decide +kernel
theorem dX6_burntIn_17 : decode cX6_burntIn 17 = .ok (.aload_n 0, 1) := by decide +kernel
theorem dX6_burntIn_18 : decode cX6_burntIn 18 = .ok (.getfield 10, 3) := by decide +kernel
theorem dX6_burntIn_21 : decode cX6_burntIn 21 = .ok (.invokevirtual 119, 3) := by decide +kernel
theorem dX6_burntIn_24 : decode cX6_burntIn 24 = .ok (.iconst 1, 1) := by decide +kernel
theorem dX6_burntIn_25 : decode cX6_burntIn 25 = .ok (.istore_n 2, 1) := by decide +kernel
theorem dX6_burntIn_26 : decode cX6_burntIn 26 = .ok (.iload_n 2, 1) := by decide +kernel
theorem dX6_burntIn_27 : decode cX6_burntIn 27 = .ok (.sipush 3000, 3) := by decide +kernel
theorem dX6_burntIn_30 : decode cX6_burntIn 30 = .ok (.if_icmp .gt 32, 3) := by decide +kernel
theorem dX6_burntIn_33 : decode cX6_burntIn 33 = .ok (.aload_n 0, 1) := by decide +kernel
theorem dX6_burntIn_34 : decode cX6_burntIn 34 = .ok (.getfield 16, 3) := by decide +kernel
theorem dX6_burntIn_37 : decode cX6_burntIn 37 = .ok (.invokevirtual 246, 3) := by decide +kernel
theorem dX6_burntIn_40 : decode cX6_burntIn 40 = .ok (.ifCond .le 16, 3) := by decide +kernel
theorem dX6_burntIn_43 : decode cX6_burntIn 43 = .ok (.aload_n 0, 1) := by decide +kernel
theorem dX6_burntIn_44 : decode cX6_burntIn 44 = .ok (.getfield 16, 3) := by decide +kernel
theorem dX6_burntIn_47 : decode cX6_burntIn 47 = .ok (.iload_n 1, 1) := by decide +kernel
theorem dX6_burntIn_48 : decode cX6_burntIn 48 = .ok (.invokevirtual 175, 3) := by decide +kernel
theorem dX6_burntIn_51 : decode cX6_burntIn 51 = .ok (.ifnonnull 5, 3) := by decide +kernel
theorem dX6_burntIn_54 : decode cX6_burntIn 54 = .ok (.iload_n 2, 1) := by decide +kernel
theorem dX6_burntIn_55 : decode cX6_burntIn 55 = .ok (.ireturn, 1) := by decide +kernel
theorem dX6_burntIn_56 : decode cX6_burntIn 56 = .ok (.iinc 2 1, 3) := by decide +kernel
theorem dX6_burntIn_59 : decode cX6_burntIn 59 = .ok (.goto (-33), 3) := by decide +kernel
theorem dX6_burntIn_62 : decode cX6_burntIn 62 = .ok (.bipush (-6), 2) := by decide +kernel
theorem dX6_burntIn_64 : decode cX6_burntIn 64 = .ok (.ireturn, 1) := by decide +kernel
theorem dX6_ifPassed_0 : decode cX6_ifPassed 0 = .ok (.iload_n 1, 1) := by decide +kernel
theorem dX6_ifPassed_1 : decode cX6_ifPassed 1 = .ok (.iconst 1, 1) := by decide +kernel
theorem dX6_ifPassed_2 : decode cX6_ifPassed 2 = .ok (.if_icmp .lt 19, 3) := by decide +kernel
theorem dX6_ifPassed_5 : decode cX6_ifPassed 5 = .ok (.iload_n 1, 1) := by decide +kernel
theorem dX6_ifPassed_6 : decode cX6_ifPassed 6 = .ok (.sipush 400, 3) := by decide +kernel
theorem dX6_ifPassed_9 : decode cX6_ifPassed 9 = .ok (.if_icmp .gt 12, 3) := by decide +kernel
theorem dX6_ifPassed_12 : decode cX6_ifPassed 12 = .ok (.iload_n 2, 1) := by decide +kernel
theorem dX6_ifPassed_13 : decode cX6_ifPassed 13 = .ok (.ifCond .lt 8, 3) := by decide +kernel
theorem dX6_ifPassed_16 : decode cX6_ifPassed 16 = .ok (.iload_n 2, 1) := by decide +kernel
theorem dX6_ifPassed_17 : decode cX6_ifPassed 17 = .ok (.iconst 2, 1) := by decide +kernel
theorem dX6_ifPassed_18 : decode cX6_ifPassed 18 = .ok (.if_icmp .le 6, 3) := by decide +kernel
theorem dX6_ifPassed_21 : decode cX6_ifPassed 21 = .ok (.bipush (-2), 2) := by decide +kernel
theorem dX6_ifPassed_23 : decode cX6_ifPassed 23 = .ok (.ireturn, 1) := by decide +kernel
theorem dX6_ifPassed_24 : decode cX6_ifPassed 24 = .ok (.aload_n 0, 1) := by decide +kernel
theorem dX6_ifPassed_25 : decode cX6_ifPassed 25 = .ok (.getfield 16, 3) := by decide +kernel
theorem dX6_ifPassed_28 : decode cX6_ifPassed 28 = .ok (.aload_n 0, 1) := by decide +kernel
theorem dX6_ifPassed_29 : decode cX6_ifPassed 29 = .ok (.getfield 10, 3) := by decide +kernel
theorem dX6_ifPassed_32 : decode cX6_ifPassed 32 = .ok (.invokevirtual 119, 3) := by decide +kernel
theorem dX6_ifPassed_35 : decode cX6_ifPassed 35 = .ok (.iconst 0, 1) := by decide +kernel
theorem dX6_ifPassed_36 : decode cX6_ifPassed 36 = .ok (.istore_n 3, 1) := by decide +kernel
theorem dX6_ifPassed_37 : decode cX6_ifPassed 37 = .ok (.iload_n 3, 1) := by decide +kernel
theorem dX6_ifPassed_38 : decode cX6_ifPassed 38 = .ok (.iload_n 1, 1) := by decide +kernel
theorem dX6_ifPassed_39 : decode cX6_ifPassed 39 = .ok (.if_icmp .ge 17, 3) := by decide +kernel
theorem dX6_ifPassed_42 : decode cX6_ifPassed 42 = .ok (.aload_n 0, 1) := by decide +kernel
theorem dX6_ifPassed_43 : decode cX6_ifPassed 43 = .ok (.getfield 16, 3) := by decide +kernel
theorem dX6_ifPassed_46 : decode cX6_ifPassed 46 = .ok (.invokevirtual 246, 3) := by decide +kernel
theorem dX6_ifPassed_49 : decode cX6_ifPassed 49 = .ok (.pop, 1) := by decide +kernel
theorem dX6_ifPassed_50 : decode cX6_ifPassed 50 = .ok (.iinc 3 1, 3) := by decide +kernel
theorem dX6_ifPassed_53 : decode cX6_ifPassed 53 = .ok (.goto (-16), 3) := by decide +kernel
theorem dX6_ifPassed_56 : decode cX6_ifPassed 56 = .ok (.iload_n 2, 1) := by decide +kernel
theorem dX6_ifPassed_57 : decode cX6_ifPassed 57 = .ok (.lookupswitch 59 #[(0, 27), (1, 43)], 27) := by decide +kernel
theorem dX6_ifPassed_84 : decode cX6_ifPassed 84 = .ok (.aload_n 0, 1) := by decide +kernel
theorem dX6_ifPassed_85 : decode cX6_ifPassed 85 = .ok (.getfield 16, 3) := by decide +kernel
theorem dX6_ifPassed_88 : decode cX6_ifPassed 88 = .ok (.getfield 137, 3) := by decide +kernel
theorem dX6_ifPassed_91 : decode cX6_ifPassed 91 = .ok (.aload_n 0, 1) := by decide +kernel
theorem dX6_ifPassed_92 : decode cX6_ifPassed 92 = .ok (.getfield 10, 3) := by decide +kernel
theorem dX6_ifPassed_95 : decode cX6_ifPassed 95 = .ok (.getfield 137, 3) := by decide +kernel
theorem dX6_ifPassed_98 : decode cX6_ifPassed 98 = .ok (.isub, 1) := by decide +kernel
theorem dX6_ifPassed_99 : decode cX6_ifPassed 99 = .ok (.ireturn, 1) := by decide +kernel
theorem dX6_ifPassed_100 : decode cX6_ifPassed 100 = .ok (.aload_n 0, 1) := by decide +kernel
theorem dX6_ifPassed_101 : decode cX6_ifPassed 101 = .ok (.getfield 16, 3) := by decide +kernel
theorem dX6_ifPassed_104 : decode cX6_ifPassed 104 = .ok (.getfield 140, 3) := by decide +kernel
theorem dX6_ifPassed_107 : decode cX6_ifPassed 107 = .ok (.aload_n 0, 1) := by decide +kernel
theorem dX6_ifPassed_108 : decode cX6_ifPassed 108 = .ok (.getfield 10, 3) := by decide +kernel
theorem dX6_ifPassed_111 : decode cX6_ifPassed 111 = .ok (.getfield 140, 3) := by decide +kernel
theorem dX6_ifPassed_114 : decode cX6_ifPassed 114 = .ok (.isub, 1) := by decide +kernel
theorem dX6_ifPassed_115 : decode cX6_ifPassed 115 = .ok (.ireturn, 1) := by decide +kernel
theorem dX6_ifPassed_116 : decode cX6_ifPassed 116 = .ok (.aload_n 0, 1) := by decide +kernel
theorem dX6_ifPassed_117 : decode cX6_ifPassed 117 = .ok (.getfield 16, 3) := by decide +kernel
theorem dX6_ifPassed_120 : decode cX6_ifPassed 120 = .ok (.getfield 143, 3) := by decide +kernel
theorem dX6_ifPassed_123 : decode cX6_ifPassed 123 = .ok (.aload_n 0, 1) := by decide +kernel
theorem dX6_ifPassed_124 : decode cX6_ifPassed 124 = .ok (.getfield 10, 3) := by decide +kernel
theorem dX6_ifPassed_127 : decode cX6_ifPassed 127 = .ok (.getfield 143, 3) := by decide +kernel
theorem dX6_ifPassed_130 : decode cX6_ifPassed 130 = .ok (.isub, 1) := by decide +kernel
theorem dX6_ifPassed_131 : decode cX6_ifPassed 131 = .ok (.ireturn, 1) := by decide +kernel
theorem dX6_isError_0 : decode cX6_isError 0 = .ok (.iload_n 0, 1) := by decide +kernel
theorem dX6_isError_1 : decode cX6_isError 1 = .ok (.ifCond .ge 13, 3) := by decide +kernel
theorem dX6_isError_4 : decode cX6_isError 4 = .ok (.iload_n 0, 1) := by decide +kernel
theorem dX6_isError_5 : decode cX6_isError 5 = .ok (.bipush (-6), 2) := by decide +kernel
theorem dX6_isError_7 : decode cX6_isError 7 = .ok (.if_icmp .eq 7, 3) := by decide +kernel
theorem dX6_isError_10 : decode cX6_isError 10 = .ok (.iconst 1, 1) := by decide +kernel
theorem dX6_isError_11 : decode cX6_isError 11 = .ok (.goto 4, 3) := by decide +kernel
theorem dX6_isError_14 : decode cX6_isError 14 = .ok (.iconst 0, 1) := by decide +kernel
theorem dX6_isError_15 : decode cX6_isError 15 = .ok (.ireturn, 1) := by decide +kernel
theorem dX6_isNoHolder_0 : decode cX6_isNoHolder 0 = .ok (.iload_n 0, 1) := by decide +kernel
theorem dX6_isNoHolder_1 : decode cX6_isNoHolder 1 = .ok (.ifCond .lt 9, 3) := by decide +kernel
theorem dX6_isNoHolder_4 : decode cX6_isNoHolder 4 = .ok (.iload_n 0, 1) := by decide +kernel
theorem dX6_isNoHolder_5 : decode cX6_isNoHolder 5 = .ok (.bipush 8, 2) := by decide +kernel
theorem dX6_isNoHolder_7 : decode cX6_isNoHolder 7 = .ok (.if_icmp .lt 7, 3) := by decide +kernel
theorem dX6_isNoHolder_10 : decode cX6_isNoHolder 10 = .ok (.iconst 1, 1) := by decide +kernel
theorem dX6_isNoHolder_11 : decode cX6_isNoHolder 11 = .ok (.goto 4, 3) := by decide +kernel
theorem dX6_isNoHolder_14 : decode cX6_isNoHolder 14 = .ok (.iconst 0, 1) := by decide +kernel
theorem dX6_isNoHolder_15 : decode cX6_isNoHolder 15 = .ok (.ireturn, 1) := by decide +kernel
theorem dX6_isNoSetting_0 : decode cX6_isNoSetting 0 = .ok (.iload_n 0, 1) := by decide +kernel
theorem dX6_isNoSetting_1 : decode cX6_isNoSetting 1 = .ok (.ifCond .lt 9, 3) := by decide +kernel
theorem dX6_isNoSetting_4 : decode cX6_isNoSetting 4 = .ok (.iload_n 0, 1) := by decide +kernel
theorem dX6_isNoSetting_5 : decode cX6_isNoSetting 5 = .ok (.bipush 7, 2) := by decide +kernel
theorem dX6_isNoSetting_7 : decode cX6_isNoSetting 7 = .ok (.if_icmp .lt 7, 3) := by decide +kernel
theorem dX6_isNoSetting_10 : decode cX6_isNoSetting 10 = .ok (.iconst 1, 1) := by decide +kernel
theorem dX6_isNoSetting_11 : decode cX6_isNoSetting 11 = .ok (.goto 4, 3) := by decide +kernel
theorem dX6_isNoSetting_14 : decode cX6_isNoSetting 14 = .ok (.iconst 0, 1) := by decide +kernel
theorem dX6_isNoSetting_15 : decode cX6_isNoSetting 15 = .ok (.ireturn, 1) := by decide +kernel
theorem dX6_recorded_0 : decode cX6_recorded 0 = .ok (.iload_n 1, 1) := by decide +kernel
theorem dX6_recorded_1 : decode cX6_recorded 1 = .ok (.invokestatic 95, 3) := by decide +kernel
theorem dX6_recorded_4 : decode cX6_recorded 4 = .ok (.ifCond .ne 10, 3) := by decide +kernel
theorem dX6_recorded_7 : decode cX6_recorded 7 = .ok (.aload_n 0, 1) := by decide +kernel
theorem dX6_recorded_8 : decode cX6_recorded 8 = .ok (.getfield 22, 3) := by decide +kernel
theorem dX6_recorded_11 : decode cX6_recorded 11 = .ok (.invokevirtual 106, 3) := by decide +kernel
theorem dX6_recorded_14 : decode cX6_recorded 14 = .ok (.iload_n 1, 1) := by decide +kernel
theorem dX6_recorded_15 : decode cX6_recorded 15 = .ok (.ireturn, 1) := by decide +kernel
theorem dX6_report_0 : decode cX6_report 0 = .ok (.aload_n 0, 1) := by decide +kernel
theorem dX6_report_1 : decode cX6_report 1 = .ok (.iload_n 1, 1) := by decide +kernel
theorem dX6_report_2 : decode cX6_report 2 = .ok (.putfield 109, 3) := by decide +kernel
theorem dX6_report_5 : decode cX6_report 5 = .ok (.aload_n 0, 1) := by decide +kernel
theorem dX6_report_6 : decode cX6_report 6 = .ok (.iload_n 2, 1) := by decide +kernel
theorem dX6_report_7 : decode cX6_report 7 = .ok (.putfield 112, 3) := by decide +kernel
theorem dX6_report_10 : decode cX6_report 10 = .ok (.aload_n 0, 1) := by decide +kernel
theorem dX6_report_11 : decode cX6_report 11 = .ok (.iload_n 3, 1) := by decide +kernel
theorem dX6_report_12 : decode cX6_report 12 = .ok (.putfield 82, 3) := by decide +kernel
theorem dX6_report_15 : decode cX6_report 15 = .ok (.return_, 1) := by decide +kernel
theorem dX6_obey_0 : decode cX6_obey 0 = .ok (.aload_n 0, 1) := by decide +kernel
theorem dX6_obey_1 : decode cX6_obey 1 = .ok (.getfield 29, 3) := by decide +kernel
theorem dX6_obey_4 : decode cX6_obey 4 = .ok (.getfield 249, 3) := by decide +kernel
theorem dX6_obey_7 : decode cX6_obey 7 = .ok (.lookupswitch 153 #[(97, 71), (102, 131), (108, 109), (110, 49), (115, 86)], 49) := by decide +kernel
theorem dX6_obey_56 : decode cX6_obey 56 = .ok (.aload_n 0, 1) := by decide +kernel
theorem dX6_obey_57 : decode cX6_obey 57 = .ok (.getfield 10, 3) := by decide +kernel
theorem dX6_obey_60 : decode cX6_obey 60 = .ok (.aload_n 0, 1) := by decide +kernel
theorem dX6_obey_61 : decode cX6_obey 61 = .ok (.getfield 29, 3) := by decide +kernel
theorem dX6_obey_64 : decode cX6_obey 64 = .ok (.getfield 253, 3) := by decide +kernel
theorem dX6_obey_67 : decode cX6_obey 67 = .ok (.aload_n 0, 1) := by decide +kernel
theorem dX6_obey_68 : decode cX6_obey 68 = .ok (.getfield 29, 3) := by decide +kernel
theorem dX6_obey_71 : decode cX6_obey 71 = .ok (.getfield 256, 3) := by decide +kernel
theorem dX6_obey_74 : decode cX6_obey 74 = .ok (.invokevirtual 37, 3) := by decide +kernel
theorem dX6_obey_77 : decode cX6_obey 77 = .ok (.ireturn, 1) := by decide +kernel
theorem dX6_obey_78 : decode cX6_obey 78 = .ok (.aload_n 0, 1) := by decide +kernel
theorem dX6_obey_79 : decode cX6_obey 79 = .ok (.getfield 10, 3) := by decide +kernel
theorem dX6_obey_82 : decode cX6_obey 82 = .ok (.aload_n 0, 1) := by decide +kernel
theorem dX6_obey_83 : decode cX6_obey 83 = .ok (.getfield 29, 3) := by decide +kernel
theorem dX6_obey_86 : decode cX6_obey 86 = .ok (.getfield 253, 3) := by decide +kernel
theorem dX6_obey_89 : decode cX6_obey 89 = .ok (.invokevirtual 45, 3) := by decide +kernel
theorem dX6_obey_92 : decode cX6_obey 92 = .ok (.ireturn, 1) := by decide +kernel
theorem dX6_obey_93 : decode cX6_obey 93 = .ok (.aload_n 0, 1) := by decide +kernel
theorem dX6_obey_94 : decode cX6_obey 94 = .ok (.getfield 10, 3) := by decide +kernel
theorem dX6_obey_97 : decode cX6_obey 97 = .ok (.aload_n 0, 1) := by decide +kernel
theorem dX6_obey_98 : decode cX6_obey 98 = .ok (.getfield 29, 3) := by decide +kernel
theorem dX6_obey_101 : decode cX6_obey 101 = .ok (.getfield 253, 3) := by decide +kernel
theorem dX6_obey_104 : decode cX6_obey 104 = .ok (.aload_n 0, 1) := by decide +kernel
theorem dX6_obey_105 : decode cX6_obey 105 = .ok (.getfield 29, 3) := by decide +kernel
theorem dX6_obey_108 : decode cX6_obey 108 = .ok (.getfield 256, 3) := by decide +kernel
theorem dX6_obey_111 : decode cX6_obey 111 = .ok (.iconst (-1), 1) := by decide +kernel
theorem dX6_obey_112 : decode cX6_obey 112 = .ok (.invokevirtual 48, 3) := by decide +kernel
theorem dX6_obey_115 : decode cX6_obey 115 = .ok (.ireturn, 1) := by decide +kernel
theorem dX6_obey_116 : decode cX6_obey 116 = .ok (.aload_n 0, 1) := by decide +kernel
theorem dX6_obey_117 : decode cX6_obey 117 = .ok (.getfield 10, 3) := by decide +kernel
theorem dX6_obey_120 : decode cX6_obey 120 = .ok (.aload_n 0, 1) := by decide +kernel
theorem dX6_obey_121 : decode cX6_obey 121 = .ok (.getfield 29, 3) := by decide +kernel
theorem dX6_obey_124 : decode cX6_obey 124 = .ok (.getfield 253, 3) := by decide +kernel
theorem dX6_obey_127 : decode cX6_obey 127 = .ok (.aload_n 0, 1) := by decide +kernel
theorem dX6_obey_128 : decode cX6_obey 128 = .ok (.getfield 29, 3) := by decide +kernel
theorem dX6_obey_131 : decode cX6_obey 131 = .ok (.getfield 256, 3) := by decide +kernel
theorem dX6_obey_134 : decode cX6_obey 134 = .ok (.invokevirtual 52, 3) := by decide +kernel
theorem dX6_obey_137 : decode cX6_obey 137 = .ok (.ireturn, 1) := by decide +kernel
theorem dX6_obey_138 : decode cX6_obey 138 = .ok (.aload_n 0, 1) := by decide +kernel
theorem dX6_obey_139 : decode cX6_obey 139 = .ok (.getfield 10, 3) := by decide +kernel
theorem dX6_obey_142 : decode cX6_obey 142 = .ok (.aload_n 0, 1) := by decide +kernel
theorem dX6_obey_143 : decode cX6_obey 143 = .ok (.getfield 29, 3) := by decide +kernel
theorem dX6_obey_146 : decode cX6_obey 146 = .ok (.getfield 253, 3) := by decide +kernel
theorem dX6_obey_149 : decode cX6_obey 149 = .ok (.aload_n 0, 1) := by decide +kernel
theorem dX6_obey_150 : decode cX6_obey 150 = .ok (.getfield 29, 3) := by decide +kernel
theorem dX6_obey_153 : decode cX6_obey 153 = .ok (.getfield 256, 3) := by decide +kernel
theorem dX6_obey_156 : decode cX6_obey 156 = .ok (.invokevirtual 55, 3) := by decide +kernel
theorem dX6_obey_159 : decode cX6_obey 159 = .ok (.ireturn, 1) := by decide +kernel
theorem dX6_obey_160 : decode cX6_obey 160 = .ok (.aload_n 0, 1) := by decide +kernel
theorem dX6_obey_161 : decode cX6_obey 161 = .ok (.getfield 10, 3) := by decide +kernel
theorem dX6_obey_164 : decode cX6_obey 164 = .ok (.aload_n 0, 1) := by decide +kernel
theorem dX6_obey_165 : decode cX6_obey 165 = .ok (.getfield 29, 3) := by decide +kernel
theorem dX6_obey_168 : decode cX6_obey 168 = .ok (.getfield 253, 3) := by decide +kernel
theorem dX6_obey_171 : decode cX6_obey 171 = .ok (.invokevirtual 64, 3) := by decide +kernel
theorem dX6_obey_174 : decode cX6_obey 174 = .ok (.ireturn, 1) := by decide +kernel
