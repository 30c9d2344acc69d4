theorem dX7_init_0 : decode cX7_init 0 = .ok (.aload_n 0, 1) := by decide +kernel
theorem dX7_init_1 : decode cX7_init 1 = .ok (.invokespecial 1, 3) := by decide +kernel
theorem dX7_init_4 : decode cX7_init 4 = .ok (.aload_n 0, 1) := by decide +kernel
theorem dX7_init_5 : decode cX7_init 5 = .ok (.sipush 453, 3) := by decide +kernel
theorem dX7_init_8 : decode cX7_init 8 = .ok (.newarray .int, 2) := by decide +kernel
theorem dX7_init_10 : decode cX7_init 10 = .ok (.putfield 7, 3) := by decide +kernel
theorem dX7_init_13 : decode cX7_init 13 = .ok (.aload_n 0, 1) := by decide +kernel
theorem dX7_init_14 : decode cX7_init 14 = .ok (.sipush 453, 3) := by decide +kernel
theorem dX7_init_17 : decode cX7_init 17 = .ok (.newarray .int, 2) := by decide +kernel
theorem dX7_init_19 : decode cX7_init 19 = .ok (.putfield 13, 3) := by decide +kernel
theorem dX7_init_22 : decode cX7_init 22 = .ok (.aload_n 0, 1) := by decide +kernel
theorem dX7_init_23 : decode cX7_init 23 = .ok (.sipush 453, 3) := by decide +kernel
theorem dX7_init_26 : decode cX7_init 26 = .ok (.newarray .int, 2) := by decide +kernel
theorem dX7_init_28 : decode cX7_init 28 = .ok (.putfield 16, 3) := by decide +kernel
theorem dX7_init_31 : decode cX7_init 31 = .ok (.aload_n 0, 1) := by decide +kernel
theorem dX7_init_32 : decode cX7_init 32 = .ok (.sipush 1812, 3) := by decide +kernel
theorem dX7_init_35 : decode cX7_init 35 = .ok (.newarray .int, 2) := by decide +kernel
theorem dX7_init_37 : decode cX7_init 37 = .ok (.putfield 19, 3) := by decide +kernel
theorem dX7_init_40 : decode cX7_init 40 = .ok (.aload_n 0, 1) := by decide +kernel
theorem dX7_init_41 : decode cX7_init 41 = .ok (.bipush 24, 2) := by decide +kernel
theorem dX7_init_43 : decode cX7_init 43 = .ok (.newarray .boolean, 2) := by decide +kernel
theorem dX7_init_45 : decode cX7_init 45 = .ok (.putfield 22, 3) := by decide +kernel
theorem dX7_init_48 : decode cX7_init 48 = .ok (.aload_n 0, 1) := by decide +kernel
theorem dX7_init_49 : decode cX7_init 49 = .ok (.bipush 124, 2) := by decide +kernel
theorem dX7_init_51 : decode cX7_init 51 = .ok (.newarray .int, 2) := by decide +kernel
theorem dX7_init_53 : decode cX7_init 53 = .ok (.putfield 26, 3) := by decide +kernel
theorem dX7_init_56 : decode cX7_init 56 = .ok (.aload_n 0, 1) := by decide +kernel
theorem dX7_init_57 : decode cX7_init 57 = .ok (.iconst 3, 1) := by decide +kernel
theorem dX7_init_58 : decode cX7_init 58 = .ok (.newarray .int, 2) := by decide +kernel
theorem dX7_init_60 : decode cX7_init 60 = .ok (.putfield 29, 3) := by decide +kernel
theorem dX7_init_63 : decode cX7_init 63 = .ok (.aload_n 0, 1) := by decide +kernel
theorem dX7_init_64 : decode cX7_init 64 = .ok (.bipush 60, 2) := by decide +kernel
theorem dX7_init_66 : decode cX7_init 66 = .ok (.newarray .char, 2) := by decide +kernel
theorem dX7_init_68 : decode cX7_init 68 = .ok (.putfield 32, 3) := by decide +kernel
theorem dX7_init_71 : decode cX7_init 71 = .ok (.aload_n 0, 1) := by decide +kernel
theorem dX7_init_72 : decode cX7_init 72 = .ok (.getfield 7, 3) := by decide +kernel
theorem dX7_init_75 : decode cX7_init 75 = .ok (.iconst 0, 1) := by decide +kernel
theorem dX7_init_76 : decode cX7_init 76 = .ok (.bipush 90, 2) := by decide +kernel
theorem dX7_init_78 : decode cX7_init 78 = .ok (.iastore, 1) := by decide +kernel
theorem dX7_init_79 : decode cX7_init 79 = .ok (.aload_n 0, 1) := by decide +kernel
theorem dX7_init_80 : decode cX7_init 80 = .ok (.getfield 7, 3) := by decide +kernel
theorem dX7_init_83 : decode cX7_init 83 = .ok (.iconst 1, 1) := by decide +kernel
theorem dX7_init_84 : decode cX7_init 84 = .ok (.sipush 180, 3) := by decide +kernel
theorem dX7_init_87 : decode cX7_init 87 = .ok (.iastore, 1) := by decide +kernel
theorem dX7_init_88 : decode cX7_init 88 = .ok (.aload_n 0, 1) := by decide +kernel
theorem dX7_init_89 : decode cX7_init 89 = .ok (.getfield 7, 3) := by decide +kernel
theorem dX7_init_92 : decode cX7_init 92 = .ok (.iconst 2, 1) := by decide +kernel
theorem dX7_init_93 : decode cX7_init 93 = .ok (.sipush 360, 3) := by decide +kernel
theorem dX7_init_96 : decode cX7_init 96 = .ok (.iastore, 1) := by decide +kernel
theorem dX7_init_97 : decode cX7_init 97 = .ok (.aload_n 0, 1) := by decide +kernel
theorem dX7_init_98 : decode cX7_init 98 = .ok (.getfield 7, 3) := by decide +kernel
theorem dX7_init_101 : decode cX7_init 101 = .ok (.iconst 3, 1) := by decide +kernel
theorem dX7_init_102 : decode cX7_init 102 = .ok (.sipush 720, 3) := by decide +kernel
theorem dX7_init_105 : decode cX7_init 105 = .ok (.iastore, 1) := by decide +kernel
theorem dX7_init_106 : decode cX7_init 106 = .ok (.aload_n 0, 1) := by decide +kernel
theorem dX7_init_107 : decode cX7_init 107 = .ok (.getfield 7, 3) := by decide +kernel
theorem dX7_init_110 : decode cX7_init 110 = .ok (.iconst 4, 1) := by decide +kernel
theorem dX7_init_111 : decode cX7_init 111 = .ok (.sipush 1440, 3) := by decide +kernel
theorem dX7_init_114 : decode cX7_init 114 = .ok (.iastore, 1) := by decide +kernel
theorem dX7_init_115 : decode cX7_init 115 = .ok (.aload_n 0, 1) := by decide +kernel
theorem dX7_init_116 : decode cX7_init 116 = .ok (.getfield 7, 3) := by decide +kernel
theorem dX7_init_119 : decode cX7_init 119 = .ok (.iconst 5, 1) := by decide +kernel
theorem dX7_init_120 : decode cX7_init 120 = .ok (.iconst 3, 1) := by decide +kernel
theorem dX7_init_121 : decode cX7_init 121 = .ok (.iastore, 1) := by decide +kernel
theorem dX7_init_122 : decode cX7_init 122 = .ok (.aload_n 0, 1) := by decide +kernel
theorem dX7_init_123 : decode cX7_init 123 = .ok (.getfield 7, 3) := by decide +kernel
theorem dX7_init_126 : decode cX7_init 126 = .ok (.bipush 6, 2) := by decide +kernel
theorem dX7_init_128 : decode cX7_init 128 = .ok (.sipush 300, 3) := by decide +kernel
theorem dX7_init_131 : decode cX7_init 131 = .ok (.iastore, 1) := by decide +kernel
theorem dX7_init_132 : decode cX7_init 132 = .ok (.return_, 1) := by decide +kernel
theorem dX7_in_0 : decode cX7_in 0 = .ok (.iload_n 0, 1) := by decide +kernel
theorem dX7_in_1 : decode cX7_in 1 = .ok (.iload_n 1, 1) := by decide +kernel
theorem dX7_in_2 : decode cX7_in 2 = .ok (.if_icmp .lt 12, 3) := by decide +kernel
theorem dX7_in_5 : decode cX7_in 5 = .ok (.iload_n 0, 1) := by decide +kernel
theorem dX7_in_6 : decode cX7_in 6 = .ok (.iload_n 2, 1) := by decide +kernel
theorem dX7_in_7 : decode cX7_in 7 = .ok (.if_icmp .gt 7, 3) := by decide +kernel
theorem dX7_in_10 : decode cX7_in 10 = .ok (.iconst 1, 1) := by decide +kernel
theorem dX7_in_11 : decode cX7_in 11 = .ok (.goto 4, 3) := by decide +kernel
theorem dX7_in_14 : decode cX7_in 14 = .ok (.iconst 0, 1) := by decide +kernel
theorem dX7_in_15 : decode cX7_in 15 = .ok (.ireturn, 1) := by decide +kernel
theorem dX7_f_0 : decode cX7_f 0 = .ok (.bipush 17, 2) := by decide +kernel
theorem dX7_f_2 : decode cX7_f 2 = .ok (.bipush 15, 2) := by decide +kernel
theorem dX7_f_4 : decode cX7_f 4 = .ok (.iload_n 0, 1) := by decide +kernel
theorem dX7_f_5 : decode cX7_f 5 = .ok (.imul, 1) := by decide +kernel
theorem dX7_f_6 : decode cX7_f 6 = .ok (.iadd, 1) := by decide +kernel
theorem dX7_f_7 : decode cX7_f 7 = .ok (.ireturn, 1) := by decide +kernel
theorem dX7_placeOf_0 : decode cX7_placeOf 0 = .ok (.iconst (-1), 1) := by decide +kernel
theorem dX7_placeOf_1 : decode cX7_placeOf 1 = .ok (.istore_n 2, 1) := by decide +kernel
theorem dX7_placeOf_2 : decode cX7_placeOf 2 = .ok (.iconst 0, 1) := by decide +kernel
theorem dX7_placeOf_3 : decode cX7_placeOf 3 = .ok (.istore_n 3, 1) := by decide +kernel
theorem dX7_placeOf_4 : decode cX7_placeOf 4 = .ok (.iload_n 3, 1) := by decide +kernel
theorem dX7_placeOf_5 : decode cX7_placeOf 5 = .ok (.aload_n 0, 1) := by decide +kernel
theorem dX7_placeOf_6 : decode cX7_placeOf 6 = .ok (.getfield 7, 3) := by decide +kernel
theorem dX7_placeOf_9 : decode cX7_placeOf 9 = .ok (.bipush 14, 2) := by decide +kernel
theorem dX7_placeOf_11 : decode cX7_placeOf 11 = .ok (.iaload, 1) := by decide +kernel
theorem dX7_placeOf_12 : decode cX7_placeOf 12 = .ok (.if_icmp .ge 28, 3) := by decide +kernel
theorem dX7_placeOf_15 : decode cX7_placeOf 15 = .ok (.aload_n 0, 1) := by decide +kernel
theorem dX7_placeOf_16 : decode cX7_placeOf 16 = .ok (.getfield 7, 3) := by decide +kernel
theorem dX7_placeOf_19 : decode cX7_placeOf 19 = .ok (.iload_n 3, 1) := by decide +kernel
theorem dX7_placeOf_20 : decode cX7_placeOf 20 = .ok (.invokestatic 36, 3) := by decide +kernel
theorem dX7_placeOf_23 : decode cX7_placeOf 23 = .ok (.iaload, 1) := by decide +kernel
theorem dX7_placeOf_24 : decode cX7_placeOf 24 = .ok (.iload_n 1, 1) := by decide +kernel
theorem dX7_placeOf_25 : decode cX7_placeOf 25 = .ok (.if_icmp .ne 7, 3) := by decide +kernel
theorem dX7_placeOf_28 : decode cX7_placeOf 28 = .ok (.iload_n 3, 1) := by decide +kernel
theorem dX7_placeOf_29 : decode cX7_placeOf 29 = .ok (.goto 4, 3) := by decide +kernel
theorem dX7_placeOf_32 : decode cX7_placeOf 32 = .ok (.iload_n 2, 1) := by decide +kernel
theorem dX7_placeOf_33 : decode cX7_placeOf 33 = .ok (.istore_n 2, 1) := by decide +kernel
theorem dX7_placeOf_34 : decode cX7_placeOf 34 = .ok (.iinc 3 1, 3) := by decide +kernel
theorem dX7_placeOf_37 : decode cX7_placeOf 37 = .ok (.goto (-33), 3) := by decide +kernel
theorem dX7_placeOf_40 : decode cX7_placeOf 40 = .ok (.iload_n 1, 1) := by decide +kernel
theorem dX7_placeOf_41 : decode cX7_placeOf 41 = .ok (.ifCond .ge 7, 3) := by decide +kernel
theorem dX7_placeOf_44 : decode cX7_placeOf 44 = .ok (.iconst (-1), 1) := by decide +kernel
theorem dX7_placeOf_45 : decode cX7_placeOf 45 = .ok (.goto 4, 3) := by decide +kernel
theorem dX7_placeOf_48 : decode cX7_placeOf 48 = .ok (.iload_n 2, 1) := by decide +kernel
theorem dX7_placeOf_49 : decode cX7_placeOf 49 = .ok (.ireturn, 1) := by decide +kernel
theorem dX7_hold_0 : decode cX7_hold 0 = .ok (.iconst 0, 1) := by decide +kernel
theorem dX7_hold_1 : decode cX7_hold 1 = .ok (.istore_n 1, 1) := by decide +kernel
theorem dX7_hold_2 : decode cX7_hold 2 = .ok (.iload_n 1, 1) := by decide +kernel
theorem dX7_hold_3 : decode cX7_hold 3 = .ok (.sipush 453, 3) := by decide +kernel
theorem dX7_hold_6 : decode cX7_hold 6 = .ok (.if_icmp .ge 21, 3) := by decide +kernel
theorem dX7_hold_9 : decode cX7_hold 9 = .ok (.aload_n 0, 1) := by decide +kernel
theorem dX7_hold_10 : decode cX7_hold 10 = .ok (.getfield 13, 3) := by decide +kernel
theorem dX7_hold_13 : decode cX7_hold 13 = .ok (.iload_n 1, 1) := by decide +kernel
theorem dX7_hold_14 : decode cX7_hold 14 = .ok (.aload_n 0, 1) := by decide +kernel
theorem dX7_hold_15 : decode cX7_hold 15 = .ok (.getfield 7, 3) := by decide +kernel
theorem dX7_hold_18 : decode cX7_hold 18 = .ok (.iload_n 1, 1) := by decide +kernel
theorem dX7_hold_19 : decode cX7_hold 19 = .ok (.iaload, 1) := by decide +kernel
theorem dX7_hold_20 : decode cX7_hold 20 = .ok (.iastore, 1) := by decide +kernel
theorem dX7_hold_21 : decode cX7_hold 21 = .ok (.iinc 1 1, 3) := by decide +kernel
theorem dX7_hold_24 : decode cX7_hold 24 = .ok (.goto (-22), 3) := by decide +kernel
theorem dX7_hold_27 : decode cX7_hold 27 = .ok (.return_, 1) := by decide +kernel
theorem dX7_recorded_0 : decode cX7_recorded 0 = .ok (.iload_n 1, 1) := by decide +kernel
theorem dX7_recorded_1 : decode cX7_recorded 1 = .ok (.ifCond .ge 9, 3) := by decide +kernel
theorem dX7_recorded_4 : decode cX7_recorded 4 = .ok (.iload_n 1, 1) := by decide +kernel
theorem dX7_recorded_5 : decode cX7_recorded 5 = .ok (.bipush (-6), 2) := by decide +kernel
theorem dX7_recorded_7 : decode cX7_recorded 7 = .ok (.if_icmp .ne 98, 3) := by decide +kernel
theorem dX7_recorded_10 : decode cX7_recorded 10 = .ok (.aload_n 0, 1) := by decide +kernel
theorem dX7_recorded_11 : decode cX7_recorded 11 = .ok (.getfield 40, 3) := by decide +kernel
theorem dX7_recorded_14 : decode cX7_recorded 14 = .ok (.iconst 4, 1) := by decide +kernel
theorem dX7_recorded_15 : decode cX7_recorded 15 = .ok (.if_icmp .ne 44, 3) := by decide +kernel
theorem dX7_recorded_18 : decode cX7_recorded 18 = .ok (.iconst 0, 1) := by decide +kernel
theorem dX7_recorded_19 : decode cX7_recorded 19 = .ok (.istore_n 2, 1) := by decide +kernel
theorem dX7_recorded_20 : decode cX7_recorded 20 = .ok (.iload_n 2, 1) := by decide +kernel
theorem dX7_recorded_21 : decode cX7_recorded 21 = .ok (.sipush 1359, 3) := by decide +kernel
theorem dX7_recorded_24 : decode cX7_recorded 24 = .ok (.if_icmp .ge 25, 3) := by decide +kernel
theorem dX7_recorded_27 : decode cX7_recorded 27 = .ok (.aload_n 0, 1) := by decide +kernel
theorem dX7_recorded_28 : decode cX7_recorded 28 = .ok (.getfield 19, 3) := by decide +kernel
theorem dX7_recorded_31 : decode cX7_recorded 31 = .ok (.iload_n 2, 1) := by decide +kernel
theorem dX7_recorded_32 : decode cX7_recorded 32 = .ok (.aload_n 0, 1) := by decide +kernel
theorem dX7_recorded_33 : decode cX7_recorded 33 = .ok (.getfield 19, 3) := by decide +kernel
theorem dX7_recorded_36 : decode cX7_recorded 36 = .ok (.sipush 453, 3) := by decide +kernel
theorem dX7_recorded_39 : decode cX7_recorded 39 = .ok (.iload_n 2, 1) := by decide +kernel
theorem dX7_recorded_40 : decode cX7_recorded 40 = .ok (.iadd, 1) := by decide +kernel
theorem dX7_recorded_41 : decode cX7_recorded 41 = .ok (.iaload, 1) := by decide +kernel
theorem dX7_recorded_42 : decode cX7_recorded 42 = .ok (.iastore, 1) := by decide +kernel
theorem dX7_recorded_43 : decode cX7_recorded 43 = .ok (.iinc 2 1, 3) := by decide +kernel
theorem dX7_recorded_46 : decode cX7_recorded 46 = .ok (.goto (-26), 3) := by decide +kernel
theorem dX7_recorded_49 : decode cX7_recorded 49 = .ok (.aload_n 0, 1) := by decide +kernel
theorem dX7_recorded_50 : decode cX7_recorded 50 = .ok (.dup, 1) := by decide +kernel
theorem dX7_recorded_51 : decode cX7_recorded 51 = .ok (.getfield 40, 3) := by decide +kernel
theorem dX7_recorded_54 : decode cX7_recorded 54 = .ok (.iconst 1, 1) := by decide +kernel
theorem dX7_recorded_55 : decode cX7_recorded 55 = .ok (.isub, 1) := by decide +kernel
theorem dX7_recorded_56 : decode cX7_recorded 56 = .ok (.putfield 40, 3) := by decide +kernel
theorem dX7_recorded_59 : decode cX7_recorded 59 = .ok (.iconst 0, 1) := by decide +kernel
theorem dX7_recorded_60 : decode cX7_recorded 60 = .ok (.istore_n 2, 1) := by decide +kernel
theorem dX7_recorded_61 : decode cX7_recorded 61 = .ok (.iload_n 2, 1) := by decide +kernel
theorem dX7_recorded_62 : decode cX7_recorded 62 = .ok (.sipush 453, 3) := by decide +kernel
theorem dX7_recorded_65 : decode cX7_recorded 65 = .ok (.if_icmp .ge 30, 3) := by decide +kernel
theorem dX7_recorded_68 : decode cX7_recorded 68 = .ok (.aload_n 0, 1) := by decide +kernel
theorem dX7_recorded_69 : decode cX7_recorded 69 = .ok (.getfield 19, 3) := by decide +kernel
theorem dX7_recorded_72 : decode cX7_recorded 72 = .ok (.sipush 453, 3) := by decide +kernel
theorem dX7_recorded_75 : decode cX7_recorded 75 = .ok (.aload_n 0, 1) := by decide +kernel
theorem dX7_recorded_76 : decode cX7_recorded 76 = .ok (.getfield 40, 3) := by decide +kernel
theorem dX7_recorded_79 : decode cX7_recorded 79 = .ok (.imul, 1) := by decide +kernel
theorem dX7_recorded_80 : decode cX7_recorded 80 = .ok (.iload_n 2, 1) := by decide +kernel
theorem dX7_recorded_81 : decode cX7_recorded 81 = .ok (.iadd, 1) := by decide +kernel
theorem dX7_recorded_82 : decode cX7_recorded 82 = .ok (.aload_n 0, 1) := by decide +kernel
theorem dX7_recorded_83 : decode cX7_recorded 83 = .ok (.getfield 13, 3) := by decide +kernel
theorem dX7_recorded_86 : decode cX7_recorded 86 = .ok (.iload_n 2, 1) := by decide +kernel
theorem dX7_recorded_87 : decode cX7_recorded 87 = .ok (.iaload, 1) := by decide +kernel
theorem dX7_recorded_88 : decode cX7_recorded 88 = .ok (.iastore, 1) := by decide +kernel
theorem dX7_recorded_89 : decode cX7_recorded 89 = .ok (.iinc 2 1, 3) := by decide +kernel
theorem dX7_recorded_92 : decode cX7_recorded 92 = .ok (.goto (-31), 3) := by decide +kernel
theorem dX7_recorded_95 : decode cX7_recorded 95 = .ok (.aload_n 0, 1) := by decide +kernel
theorem dX7_recorded_96 : decode cX7_recorded 96 = .ok (.dup, 1) := by decide +kernel
theorem dX7_recorded_97 : decode cX7_recorded 97 = .ok (.getfield 40, 3) := by decide +kernel
theorem dX7_recorded_100 : decode cX7_recorded 100 = .ok (.iconst 1, 1) := by decide +kernel
theorem dX7_recorded_101 : decode cX7_recorded 101 = .ok (.iadd, 1) := by decide +kernel
theorem dX7_recorded_102 : decode cX7_recorded 102 = .ok (.putfield 40, 3) := by decide +kernel
theorem dX7_recorded_105 : decode cX7_recorded 105 = .ok (.iload_n 1, 1) := by decide +kernel
theorem dX7_recorded_106 : decode cX7_recorded 106 = .ok (.ireturn, 1) := by decide +kernel
theorem dX7_keepTrial_0 : decode cX7_keepTrial 0 = .ok (.iconst 0, 1) := by decide +kernel
theorem dX7_keepTrial_1 : decode cX7_keepTrial 1 = .ok (.istore_n 1, 1) := by decide +kernel
theorem dX7_keepTrial_2 : decode cX7_keepTrial 2 = .ok (.iload_n 1, 1) := by decide +kernel
theorem dX7_keepTrial_3 : decode cX7_keepTrial 3 = .ok (.sipush 453, 3) := by decide +kernel
theorem dX7_keepTrial_6 : decode cX7_keepTrial 6 = .ok (.if_icmp .ge 21, 3) := by decide +kernel
theorem dX7_keepTrial_9 : decode cX7_keepTrial 9 = .ok (.aload_n 0, 1) := by decide +kernel
theorem dX7_keepTrial_10 : decode cX7_keepTrial 10 = .ok (.getfield 16, 3) := by decide +kernel
theorem dX7_keepTrial_13 : decode cX7_keepTrial 13 = .ok (.iload_n 1, 1) := by decide +kernel
theorem dX7_keepTrial_14 : decode cX7_keepTrial 14 = .ok (.aload_n 0, 1) := by decide +kernel
theorem dX7_keepTrial_15 : decode cX7_keepTrial 15 = .ok (.getfield 7, 3) := by decide +kernel
theorem dX7_keepTrial_18 : decode cX7_keepTrial 18 = .ok (.iload_n 1, 1) := by decide +kernel
theorem dX7_keepTrial_19 : decode cX7_keepTrial 19 = .ok (.iaload, 1) := by decide +kernel
theorem dX7_keepTrial_20 : decode cX7_keepTrial 20 = .ok (.iastore, 1) := by decide +kernel
theorem dX7_keepTrial_21 : decode cX7_keepTrial 21 = .ok (.iinc 1 1, 3) := by decide +kernel
theorem dX7_keepTrial_24 : decode cX7_keepTrial 24 = .ok (.goto (-22), 3) := by decide +kernel
theorem dX7_keepTrial_27 : decode cX7_keepTrial 27 = .ok (.return_, 1) := by decide +kernel
theorem dX7_putBack_0 : decode cX7_putBack 0 = .ok (.iconst 0, 1) := by decide +kernel
theorem dX7_putBack_1 : decode cX7_putBack 1 = .ok (.istore_n 1, 1) := by decide +kernel
theorem dX7_putBack_2 : decode cX7_putBack 2 = .ok (.iload_n 1, 1) := by decide +kernel
theorem dX7_putBack_3 : decode cX7_putBack 3 = .ok (.sipush 453, 3) := by decide +kernel
theorem dX7_putBack_6 : decode cX7_putBack 6 = .ok (.if_icmp .ge 21, 3) := by decide +kernel
theorem dX7_putBack_9 : decode cX7_putBack 9 = .ok (.aload_n 0, 1) := by decide +kernel
theorem dX7_putBack_10 : decode cX7_putBack 10 = .ok (.getfield 7, 3) := by decide +kernel
theorem dX7_putBack_13 : decode cX7_putBack 13 = .ok (.iload_n 1, 1) := by decide +kernel
theorem dX7_putBack_14 : decode cX7_putBack 14 = .ok (.aload_n 0, 1) := by decide +kernel
theorem dX7_putBack_15 : decode cX7_putBack 15 = .ok (.getfield 16, 3) := by decide +kernel
theorem dX7_putBack_18 : decode cX7_putBack 18 = .ok (.iload_n 1, 1) := by decide +kernel
theorem dX7_putBack_19 : decode cX7_putBack 19 = .ok (.iaload, 1) := by decide +kernel
theorem dX7_putBack_20 : decode cX7_putBack 20 = .ok (.iastore, 1) := by decide +kernel
theorem dX7_putBack_21 : decode cX7_putBack 21 = .ok (.iinc 1 1, 3) := by decide +kernel
theorem dX7_putBack_24 : decode cX7_putBack 24 = .ok (.goto (-22), 3) := by decide +kernel
theorem dX7_putBack_27 : decode cX7_putBack 27 = .ok (.return_, 1) := by decide +kernel
theorem dX7_pages_0 : decode cX7_pages 0 = .ok (.iconst 0, 1) := by decide +kernel
theorem dX7_pages_1 : decode cX7_pages 1 = .ok (.istore_n 1, 1) := by decide +kernel
theorem dX7_pages_2 : decode cX7_pages 2 = .ok (.iconst 0, 1) := by decide +kernel
theorem dX7_pages_3 : decode cX7_pages 3 = .ok (.istore_n 2, 1) := by decide +kernel
theorem dX7_pages_4 : decode cX7_pages 4 = .ok (.iload_n 2, 1) := by decide +kernel
theorem dX7_pages_5 : decode cX7_pages 5 = .ok (.aload_n 0, 1) := by decide +kernel
theorem dX7_pages_6 : decode cX7_pages 6 = .ok (.getfield 7, 3) := by decide +kernel
theorem dX7_pages_9 : decode cX7_pages 9 = .ok (.bipush 14, 2) := by decide +kernel
theorem dX7_pages_11 : decode cX7_pages 11 = .ok (.iaload, 1) := by decide +kernel
theorem dX7_pages_12 : decode cX7_pages 12 = .ok (.if_icmp .ge 23, 3) := by decide +kernel
theorem dX7_pages_15 : decode cX7_pages 15 = .ok (.iload_n 1, 1) := by decide +kernel
theorem dX7_pages_16 : decode cX7_pages 16 = .ok (.aload_n 0, 1) := by decide +kernel
theorem dX7_pages_17 : decode cX7_pages 17 = .ok (.getfield 7, 3) := by decide +kernel
theorem dX7_pages_20 : decode cX7_pages 20 = .ok (.iload_n 2, 1) := by decide +kernel
theorem dX7_pages_21 : decode cX7_pages 21 = .ok (.invokestatic 36, 3) := by decide +kernel
theorem dX7_pages_24 : decode cX7_pages 24 = .ok (.iconst 2, 1) := by decide +kernel
theorem dX7_pages_25 : decode cX7_pages 25 = .ok (.iadd, 1) := by decide +kernel
theorem dX7_pages_26 : decode cX7_pages 26 = .ok (.iaload, 1) := by decide +kernel
theorem dX7_pages_27 : decode cX7_pages 27 = .ok (.iadd, 1) := by decide +kernel
theorem dX7_pages_28 : decode cX7_pages 28 = .ok (.istore_n 1, 1) := by decide +kernel
theorem dX7_pages_29 : decode cX7_pages 29 = .ok (.iinc 2 1, 3) := by decide +kernel
theorem dX7_pages_32 : decode cX7_pages 32 = .ok (.goto (-28), 3) := by decide +kernel
theorem dX7_pages_35 : decode cX7_pages 35 = .ok (.iload_n 1, 1) := by decide +kernel
theorem dX7_pages_36 : decode cX7_pages 36 = .ok (.ireturn, 1) := by decide +kernel
theorem dX7_due_0 : decode cX7_due 0 = .ok (.iload_n 1, 1) := by decide +kernel
theorem dX7_due_1 : decode cX7_due 1 = .ok (.invokestatic 36, 3) := by decide +kernel
theorem dX7_due_4 : decode cX7_due 4 = .ok (.istore_n 2, 1) := by decide +kernel
theorem dX7_due_5 : decode cX7_due 5 = .ok (.aload_n 0, 1) := by decide +kernel
theorem dX7_due_6 : decode cX7_due 6 = .ok (.getfield 7, 3) := by decide +kernel
theorem dX7_due_9 : decode cX7_due 9 = .ok (.aload_n 0, 1) := by decide +kernel
theorem dX7_due_10 : decode cX7_due 10 = .ok (.getfield 7, 3) := by decide +kernel
theorem dX7_due_13 : decode cX7_due 13 = .ok (.iload_n 2, 1) := by decide +kernel
theorem dX7_due_14 : decode cX7_due 14 = .ok (.iconst 1, 1) := by decide +kernel
theorem dX7_due_15 : decode cX7_due 15 = .ok (.iadd, 1) := by decide +kernel
theorem dX7_due_16 : decode cX7_due 16 = .ok (.iaload, 1) := by decide +kernel
theorem dX7_due_17 : decode cX7_due 17 = .ok (.iaload, 1) := by decide +kernel
theorem dX7_due_18 : decode cX7_due 18 = .ok (.aload_n 0, 1) := by decide +kernel
theorem dX7_due_19 : decode cX7_due 19 = .ok (.getfield 7, 3) := by decide +kernel
theorem dX7_due_22 : decode cX7_due 22 = .ok (.iload_n 2, 1) := by decide +kernel
theorem dX7_due_23 : decode cX7_due 23 = .ok (.iconst 5, 1) := by decide +kernel
theorem dX7_due_24 : decode cX7_due 24 = .ok (.iadd, 1) := by decide +kernel
theorem dX7_due_25 : decode cX7_due 25 = .ok (.iaload, 1) := by decide +kernel
theorem dX7_due_26 : decode cX7_due 26 = .ok (.aload_n 0, 1) := by decide +kernel
theorem dX7_due_27 : decode cX7_due 27 = .ok (.getfield 7, 3) := by decide +kernel
theorem dX7_due_30 : decode cX7_due 30 = .ok (.iconst 5, 1) := by decide +kernel
theorem dX7_due_31 : decode cX7_due 31 = .ok (.iaload, 1) := by decide +kernel
theorem dX7_due_32 : decode cX7_due 32 = .ok (.if_icmp .lt 7, 3) := by decide +kernel
theorem dX7_due_35 : decode cX7_due 35 = .ok (.iconst 2, 1) := by decide +kernel
theorem dX7_due_36 : decode cX7_due 36 = .ok (.goto 4, 3) := by decide +kernel
theorem dX7_due_39 : decode cX7_due 39 = .ok (.iconst 1, 1) := by decide +kernel
theorem dX7_due_40 : decode cX7_due 40 = .ok (.imul, 1) := by decide +kernel
theorem dX7_due_41 : decode cX7_due 41 = .ok (.istore_n 3, 1) := by decide +kernel
theorem dX7_due_42 : decode cX7_due 42 = .ok (.iload_n 3, 1) := by decide +kernel
theorem dX7_due_43 : decode cX7_due 43 = .ok (.aload_n 0, 1) := by decide +kernel
theorem dX7_due_44 : decode cX7_due 44 = .ok (.getfield 7, 3) := by decide +kernel
theorem dX7_due_47 : decode cX7_due 47 = .ok (.iload_n 2, 1) := by decide +kernel
theorem dX7_due_48 : decode cX7_due 48 = .ok (.iconst 4, 1) := by decide +kernel
theorem dX7_due_49 : decode cX7_due 49 = .ok (.iadd, 1) := by decide +kernel
theorem dX7_due_50 : decode cX7_due 50 = .ok (.iaload, 1) := by decide +kernel
theorem dX7_due_51 : decode cX7_due 51 = .ok (.ifCond .ge 14, 3) := by decide +kernel
theorem dX7_due_54 : decode cX7_due 54 = .ok (.aload_n 0, 1) := by decide +kernel
theorem dX7_due_55 : decode cX7_due 55 = .ok (.getfield 7, 3) := by decide +kernel
theorem dX7_due_58 : decode cX7_due 58 = .ok (.iload_n 2, 1) := by decide +kernel
theorem dX7_due_59 : decode cX7_due 59 = .ok (.iconst 3, 1) := by decide +kernel
theorem dX7_due_60 : decode cX7_due 60 = .ok (.iadd, 1) := by decide +kernel
theorem dX7_due_61 : decode cX7_due 61 = .ok (.iaload, 1) := by decide +kernel
theorem dX7_due_62 : decode cX7_due 62 = .ok (.goto 11, 3) := by decide +kernel
theorem dX7_due_65 : decode cX7_due 65 = .ok (.aload_n 0, 1) := by decide +kernel
theorem dX7_due_66 : decode cX7_due 66 = .ok (.getfield 7, 3) := by decide +kernel
theorem dX7_due_69 : decode cX7_due 69 = .ok (.iload_n 2, 1) := by decide +kernel
theorem dX7_due_70 : decode cX7_due 70 = .ok (.iconst 4, 1) := by decide +kernel
theorem dX7_due_71 : decode cX7_due 71 = .ok (.iadd, 1) := by decide +kernel
theorem dX7_due_72 : decode cX7_due 72 = .ok (.iaload, 1) := by decide +kernel
theorem dX7_due_73 : decode cX7_due 73 = .ok (.iadd, 1) := by decide +kernel
theorem dX7_due_74 : decode cX7_due 74 = .ok (.ireturn, 1) := by decide +kernel
theorem dX7_holds_0 : decode cX7_holds 0 = .ok (.aload_n 0, 1) := by decide +kernel
theorem dX7_holds_1 : decode cX7_holds 1 = .ok (.getfield 7, 3) := by decide +kernel
theorem dX7_holds_4 : decode cX7_holds 4 = .ok (.iload_n 1, 1) := by decide +kernel
theorem dX7_holds_5 : decode cX7_holds 5 = .ok (.invokestatic 36, 3) := by decide +kernel
theorem dX7_holds_8 : decode cX7_holds 8 = .ok (.bipush 7, 2) := by decide +kernel
theorem dX7_holds_10 : decode cX7_holds 10 = .ok (.iadd, 1) := by decide +kernel
theorem dX7_holds_11 : decode cX7_holds 11 = .ok (.iload_n 2, 1) := by decide +kernel
theorem dX7_holds_12 : decode cX7_holds 12 = .ok (.iadd, 1) := by decide +kernel
theorem dX7_holds_13 : decode cX7_holds 13 = .ok (.iaload, 1) := by decide +kernel
theorem dX7_holds_14 : decode cX7_holds 14 = .ok (.aload_n 0, 1) := by decide +kernel
theorem dX7_holds_15 : decode cX7_holds 15 = .ok (.getfield 7, 3) := by decide +kernel
theorem dX7_holds_18 : decode cX7_holds 18 = .ok (.bipush 7, 2) := by decide +kernel
theorem dX7_holds_20 : decode cX7_holds 20 = .ok (.iaload, 1) := by decide +kernel
theorem dX7_holds_21 : decode cX7_holds 21 = .ok (.if_icmp .le 7, 3) := by decide +kernel
theorem dX7_holds_24 : decode cX7_holds 24 = .ok (.iconst 1, 1) := by decide +kernel
theorem dX7_holds_25 : decode cX7_holds 25 = .ok (.goto 4, 3) := by decide +kernel
theorem dX7_holds_28 : decode cX7_holds 28 = .ok (.iconst 0, 1) := by decide +kernel
theorem dX7_holds_29 : decode cX7_holds 29 = .ok (.ireturn, 1) := by decide +kernel
theorem dX7_sealing_0 : decode cX7_sealing 0 = .ok (.iconst 0, 1) := by decide +kernel
theorem dX7_sealing_1 : decode cX7_sealing 1 = .ok (.istore_n 2, 1) := by decide +kernel
theorem dX7_sealing_2 : decode cX7_sealing 2 = .ok (.iconst 0, 1) := by decide +kernel
theorem dX7_sealing_3 : decode cX7_sealing 3 = .ok (.istore_n 3, 1) := by decide +kernel
theorem dX7_sealing_4 : decode cX7_sealing 4 = .ok (.iload_n 3, 1) := by decide +kernel
theorem dX7_sealing_5 : decode cX7_sealing 5 = .ok (.bipush 8, 2) := by decide +kernel
theorem dX7_sealing_7 : decode cX7_sealing 7 = .ok (.if_icmp .ge 28, 3) := by decide +kernel
theorem dX7_sealing_10 : decode cX7_sealing 10 = .ok (.iload_n 2, 1) := by decide +kernel
theorem dX7_sealing_11 : decode cX7_sealing 11 = .ok (.aload_n 0, 1) := by decide +kernel
theorem dX7_sealing_12 : decode cX7_sealing 12 = .ok (.iload_n 1, 1) := by decide +kernel
theorem dX7_sealing_13 : decode cX7_sealing 13 = .ok (.iload_n 3, 1) := by decide +kernel
theorem dX7_sealing_14 : decode cX7_sealing 14 = .ok (.invokevirtual 44, 3) := by decide +kernel
theorem dX7_sealing_17 : decode cX7_sealing 17 = .ok (.ifCond .eq 9, 3) := by decide +kernel
theorem dX7_sealing_20 : decode cX7_sealing 20 = .ok (.iconst 1, 1) := by decide +kernel
theorem dX7_sealing_21 : decode cX7_sealing 21 = .ok (.iload_n 3, 1) := by decide +kernel
theorem dX7_sealing_22 : decode cX7_sealing 22 = .ok (.ishl, 1) := by decide +kernel
theorem dX7_sealing_23 : decode cX7_sealing 23 = .ok (.goto 4, 3) := by decide +kernel
theorem dX7_sealing_26 : decode cX7_sealing 26 = .ok (.iconst 0, 1) := by decide +kernel
theorem dX7_sealing_27 : decode cX7_sealing 27 = .ok (.ior, 1) := by decide +kernel
theorem dX7_sealing_28 : decode cX7_sealing 28 = .ok (.istore_n 2, 1) := by decide +kernel
theorem dX7_sealing_29 : decode cX7_sealing 29 = .ok (.iinc 3 1, 3) := by decide +kernel
theorem dX7_sealing_32 : decode cX7_sealing 32 = .ok (.goto (-28), 3) := by decide +kernel
theorem dX7_sealing_35 : decode cX7_sealing 35 = .ok (.iload_n 2, 1) := by decide +kernel
theorem dX7_sealing_36 : decode cX7_sealing 36 = .ok (.ireturn, 1) := by decide +kernel
theorem dX7_bits_0 : decode cX7_bits 0 = .ok (.iconst 0, 1) := by decide +kernel
theorem dX7_bits_1 : decode cX7_bits 1 = .ok (.istore_n 1, 1) := by decide +kernel
theorem dX7_bits_2 : decode cX7_bits 2 = .ok (.iconst 0, 1) := by decide +kernel
theorem dX7_bits_3 : decode cX7_bits 3 = .ok (.istore_n 2, 1) := by decide +kernel
theorem dX7_bits_4 : decode cX7_bits 4 = .ok (.iload_n 2, 1) := by decide +kernel
theorem dX7_bits_5 : decode cX7_bits 5 = .ok (.bipush 8, 2) := by decide +kernel
theorem dX7_bits_7 : decode cX7_bits 7 = .ok (.if_icmp .ge 17, 3) := by decide +kernel
theorem dX7_bits_10 : decode cX7_bits 10 = .ok (.iload_n 1, 1) := by decide +kernel
theorem dX7_bits_11 : decode cX7_bits 11 = .ok (.iload_n 0, 1) := by decide +kernel
theorem dX7_bits_12 : decode cX7_bits 12 = .ok (.iload_n 2, 1) := by decide +kernel
theorem dX7_bits_13 : decode cX7_bits 13 = .ok (.ishr, 1) := by decide +kernel
theorem dX7_bits_14 : decode cX7_bits 14 = .ok (.iconst 1, 1) := by decide +kernel
theorem dX7_bits_15 : decode cX7_bits 15 = .ok (.iand, 1) := by decide +kernel
theorem dX7_bits_16 : decode cX7_bits 16 = .ok (.iadd, 1) := by decide +kernel
theorem dX7_bits_17 : decode cX7_bits 17 = .ok (.istore_n 1, 1) := by decide +kernel
theorem dX7_bits_18 : decode cX7_bits 18 = .ok (.iinc 2 1, 3) := by decide +kernel
theorem dX7_bits_21 : decode cX7_bits 21 = .ok (.goto (-17), 3) := by decide +kernel
theorem dX7_bits_24 : decode cX7_bits 24 = .ok (.iload_n 1, 1) := by decide +kernel
theorem dX7_bits_25 : decode cX7_bits 25 = .ok (.ireturn, 1) := by decide +kernel
theorem dX7_reservations_0 : decode cX7_reservations 0 = .ok (.iconst 0, 1) := by decide +kernel
theorem dX7_reservations_1 : decode cX7_reservations 1 = .ok (.istore_n 2, 1) := by decide +kernel
theorem dX7_reservations_2 : decode cX7_reservations 2 = .ok (.iconst 0, 1) := by decide +kernel
theorem dX7_reservations_3 : decode cX7_reservations 3 = .ok (.istore_n 3, 1) := by decide +kernel
theorem dX7_reservations_4 : decode cX7_reservations 4 = .ok (.iload_n 3, 1) := by decide +kernel
theorem dX7_reservations_5 : decode cX7_reservations 5 = .ok (.aload_n 0, 1) := by decide +kernel
theorem dX7_reservations_6 : decode cX7_reservations 6 = .ok (.getfield 7, 3) := by decide +kernel
theorem dX7_reservations_9 : decode cX7_reservations 9 = .ok (.bipush 15, 2) := by decide +kernel
theorem dX7_reservations_11 : decode cX7_reservations 11 = .ok (.iaload, 1) := by decide +kernel
theorem dX7_reservations_12 : decode cX7_reservations 12 = .ok (.if_icmp .ge 33, 3) := by decide +kernel
theorem dX7_reservations_15 : decode cX7_reservations 15 = .ok (.iload_n 2, 1) := by decide +kernel
theorem dX7_reservations_16 : decode cX7_reservations 16 = .ok (.aload_n 0, 1) := by decide +kernel
theorem dX7_reservations_17 : decode cX7_reservations 17 = .ok (.getfield 7, 3) := by decide +kernel
theorem dX7_reservations_20 : decode cX7_reservations 20 = .ok (.sipush 377, 3) := by decide +kernel
theorem dX7_reservations_23 : decode cX7_reservations 23 = .ok (.iconst 2, 1) := by decide +kernel
theorem dX7_reservations_24 : decode cX7_reservations 24 = .ok (.iload_n 3, 1) := by decide +kernel
theorem dX7_reservations_25 : decode cX7_reservations 25 = .ok (.imul, 1) := by decide +kernel
theorem dX7_reservations_26 : decode cX7_reservations 26 = .ok (.iadd, 1) := by decide +kernel
theorem dX7_reservations_27 : decode cX7_reservations 27 = .ok (.iaload, 1) := by decide +kernel
theorem dX7_reservations_28 : decode cX7_reservations 28 = .ok (.iload_n 1, 1) := by decide +kernel
theorem dX7_reservations_29 : decode cX7_reservations 29 = .ok (.if_icmp .ne 7, 3) := by decide +kernel
theorem dX7_reservations_32 : decode cX7_reservations 32 = .ok (.iconst 1, 1) := by decide +kernel
theorem dX7_reservations_33 : decode cX7_reservations 33 = .ok (.goto 4, 3) := by decide +kernel
theorem dX7_reservations_36 : decode cX7_reservations 36 = .ok (.iconst 0, 1) := by decide +kernel
theorem dX7_reservations_37 : decode cX7_reservations 37 = .ok (.iadd, 1) := by decide +kernel
theorem dX7_reservations_38 : decode cX7_reservations 38 = .ok (.istore_n 2, 1) := by decide +kernel
theorem dX7_reservations_39 : decode cX7_reservations 39 = .ok (.iinc 3 1, 3) := by decide +kernel
theorem dX7_reservations_42 : decode cX7_reservations 42 = .ok (.goto (-38), 3) := by decide +kernel
theorem dX7_reservations_45 : decode cX7_reservations 45 = .ok (.iload_n 2, 1) := by decide +kernel
theorem dX7_reservations_46 : decode cX7_reservations 46 = .ok (.ireturn, 1) := by decide +kernel
theorem dX7_referring_0 : decode cX7_referring 0 = .ok (.iconst 0, 1) := by decide +kernel
theorem dX7_referring_1 : decode cX7_referring 1 = .ok (.istore_n 2, 1) := by decide +kernel
theorem dX7_referring_2 : decode cX7_referring 2 = .ok (.iconst 0, 1) := by decide +kernel
theorem dX7_referring_3 : decode cX7_referring 3 = .ok (.istore_n 3, 1) := by decide +kernel
theorem dX7_referring_4 : decode cX7_referring 4 = .ok (.iload_n 3, 1) := by decide +kernel
theorem dX7_referring_5 : decode cX7_referring 5 = .ok (.aload_n 0, 1) := by decide +kernel
theorem dX7_referring_6 : decode cX7_referring 6 = .ok (.getfield 7, 3) := by decide +kernel
theorem dX7_referring_9 : decode cX7_referring 9 = .ok (.bipush 14, 2) := by decide +kernel
theorem dX7_referring_11 : decode cX7_referring 11 = .ok (.iaload, 1) := by decide +kernel
theorem dX7_referring_12 : decode cX7_referring 12 = .ok (.if_icmp .ge 33, 3) := by decide +kernel
theorem dX7_referring_15 : decode cX7_referring 15 = .ok (.iload_n 2, 1) := by decide +kernel
theorem dX7_referring_16 : decode cX7_referring 16 = .ok (.aload_n 0, 1) := by decide +kernel
theorem dX7_referring_17 : decode cX7_referring 17 = .ok (.getfield 7, 3) := by decide +kernel
theorem dX7_referring_20 : decode cX7_referring 20 = .ok (.iload_n 3, 1) := by decide +kernel
theorem dX7_referring_21 : decode cX7_referring 21 = .ok (.invokestatic 36, 3) := by decide +kernel
theorem dX7_referring_24 : decode cX7_referring 24 = .ok (.bipush 6, 2) := by decide +kernel
theorem dX7_referring_26 : decode cX7_referring 26 = .ok (.iadd, 1) := by decide +kernel
theorem dX7_referring_27 : decode cX7_referring 27 = .ok (.iaload, 1) := by decide +kernel
theorem dX7_referring_28 : decode cX7_referring 28 = .ok (.iload_n 1, 1) := by decide +kernel
theorem dX7_referring_29 : decode cX7_referring 29 = .ok (.if_icmp .ne 7, 3) := by decide +kernel
theorem dX7_referring_32 : decode cX7_referring 32 = .ok (.iconst 1, 1) := by decide +kernel
theorem dX7_referring_33 : decode cX7_referring 33 = .ok (.goto 4, 3) := by decide +kernel
theorem dX7_referring_36 : decode cX7_referring 36 = .ok (.iconst 0, 1) := by decide +kernel
theorem dX7_referring_37 : decode cX7_referring 37 = .ok (.iadd, 1) := by decide +kernel
theorem dX7_referring_38 : decode cX7_referring 38 = .ok (.istore_n 2, 1) := by decide +kernel
theorem dX7_referring_39 : decode cX7_referring 39 = .ok (.iinc 3 1, 3) := by decide +kernel
theorem dX7_referring_42 : decode cX7_referring 42 = .ok (.goto (-38), 3) := by decide +kernel
theorem dX7_referring_45 : decode cX7_referring 45 = .ok (.iload_n 2, 1) := by decide +kernel
theorem dX7_referring_46 : decode cX7_referring 46 = .ok (.ireturn, 1) := by decide +kernel
theorem dX7_ownReason_0 : decode cX7_ownReason 0 = .ok (.aload_n 0, 1) := by decide +kernel
theorem dX7_ownReason_1 : decode cX7_ownReason 1 = .ok (.iload_n 1, 1) := by decide +kernel
theorem dX7_ownReason_2 : decode cX7_ownReason 2 = .ok (.invokevirtual 48, 3) := by decide +kernel
theorem dX7_ownReason_5 : decode cX7_ownReason 5 = .ok (.aload_n 0, 1) := by decide +kernel
theorem dX7_ownReason_6 : decode cX7_ownReason 6 = .ok (.getfield 7, 3) := by decide +kernel
theorem dX7_ownReason_9 : decode cX7_ownReason 9 = .ok (.bipush 7, 2) := by decide +kernel
theorem dX7_ownReason_11 : decode cX7_ownReason 11 = .ok (.iaload, 1) := by decide +kernel
theorem dX7_ownReason_12 : decode cX7_ownReason 12 = .ok (.if_icmp .le 7, 3) := by decide +kernel
theorem dX7_ownReason_15 : decode cX7_ownReason 15 = .ok (.iconst 1, 1) := by decide +kernel
theorem dX7_ownReason_16 : decode cX7_ownReason 16 = .ok (.goto 36, 3) := by decide +kernel
theorem dX7_ownReason_19 : decode cX7_ownReason 19 = .ok (.aload_n 0, 1) := by decide +kernel
theorem dX7_ownReason_20 : decode cX7_ownReason 20 = .ok (.iload_n 1, 1) := by decide +kernel
theorem dX7_ownReason_21 : decode cX7_ownReason 21 = .ok (.invokevirtual 51, 3) := by decide +kernel
theorem dX7_ownReason_24 : decode cX7_ownReason 24 = .ok (.ifCond .le 7, 3) := by decide +kernel
theorem dX7_ownReason_27 : decode cX7_ownReason 27 = .ok (.iconst 2, 1) := by decide +kernel
theorem dX7_ownReason_28 : decode cX7_ownReason 28 = .ok (.goto 24, 3) := by decide +kernel
theorem dX7_ownReason_31 : decode cX7_ownReason 31 = .ok (.aload_n 0, 1) := by decide +kernel
theorem dX7_ownReason_32 : decode cX7_ownReason 32 = .ok (.aload_n 0, 1) := by decide +kernel
theorem dX7_ownReason_33 : decode cX7_ownReason 33 = .ok (.getfield 7, 3) := by decide +kernel
theorem dX7_ownReason_36 : decode cX7_ownReason 36 = .ok (.iload_n 1, 1) := by decide +kernel
theorem dX7_ownReason_37 : decode cX7_ownReason 37 = .ok (.invokestatic 36, 3) := by decide +kernel
theorem dX7_ownReason_40 : decode cX7_ownReason 40 = .ok (.iaload, 1) := by decide +kernel
theorem dX7_ownReason_41 : decode cX7_ownReason 41 = .ok (.invokevirtual 54, 3) := by decide +kernel
theorem dX7_ownReason_44 : decode cX7_ownReason 44 = .ok (.ifCond .le 7, 3) := by decide +kernel
theorem dX7_ownReason_47 : decode cX7_ownReason 47 = .ok (.iconst 3, 1) := by decide +kernel
theorem dX7_ownReason_48 : decode cX7_ownReason 48 = .ok (.goto 4, 3) := by decide +kernel
theorem dX7_ownReason_51 : decode cX7_ownReason 51 = .ok (.iconst 0, 1) := by decide +kernel
theorem dX7_ownReason_52 : decode cX7_ownReason 52 = .ok (.ireturn, 1) := by decide +kernel
theorem dX7_tellStaying_0 : decode cX7_tellStaying 0 = .ok (.iconst 0, 1) := by decide +kernel
theorem dX7_tellStaying_1 : decode cX7_tellStaying 1 = .ok (.istore_n 1, 1) := by decide +kernel
theorem dX7_tellStaying_2 : decode cX7_tellStaying 2 = .ok (.iload_n 1, 1) := by decide +kernel
theorem dX7_tellStaying_3 : decode cX7_tellStaying 3 = .ok (.aload_n 0, 1) := by decide +kernel
theorem dX7_tellStaying_4 : decode cX7_tellStaying 4 = .ok (.getfield 7, 3) := by decide +kernel
theorem dX7_tellStaying_7 : decode cX7_tellStaying 7 = .ok (.bipush 14, 2) := by decide +kernel
theorem dX7_tellStaying_9 : decode cX7_tellStaying 9 = .ok (.iaload, 1) := by decide +kernel
theorem dX7_tellStaying_10 : decode cX7_tellStaying 10 = .ok (.if_icmp .ge 28, 3) := by decide +kernel
theorem dX7_tellStaying_13 : decode cX7_tellStaying 13 = .ok (.aload_n 0, 1) := by decide +kernel
theorem dX7_tellStaying_14 : decode cX7_tellStaying 14 = .ok (.getfield 22, 3) := by decide +kernel
theorem dX7_tellStaying_17 : decode cX7_tellStaying 17 = .ok (.iload_n 1, 1) := by decide +kernel
theorem dX7_tellStaying_18 : decode cX7_tellStaying 18 = .ok (.aload_n 0, 1) := by decide +kernel
theorem dX7_tellStaying_19 : decode cX7_tellStaying 19 = .ok (.iload_n 1, 1) := by decide +kernel
theorem dX7_tellStaying_20 : decode cX7_tellStaying 20 = .ok (.invokevirtual 57, 3) := by decide +kernel
theorem dX7_tellStaying_23 : decode cX7_tellStaying 23 = .ok (.ifCond .le 7, 3) := by decide +kernel
theorem dX7_tellStaying_26 : decode cX7_tellStaying 26 = .ok (.iconst 1, 1) := by decide +kernel
theorem dX7_tellStaying_27 : decode cX7_tellStaying 27 = .ok (.goto 4, 3) := by decide +kernel
theorem dX7_tellStaying_30 : decode cX7_tellStaying 30 = .ok (.iconst 0, 1) := by decide +kernel
theorem dX7_tellStaying_31 : decode cX7_tellStaying 31 = .ok (.bastore, 1) := by decide +kernel
theorem dX7_tellStaying_32 : decode cX7_tellStaying 32 = .ok (.iinc 1 1, 3) := by decide +kernel
theorem dX7_tellStaying_35 : decode cX7_tellStaying 35 = .ok (.goto (-33), 3) := by decide +kernel
theorem dX7_tellStaying_38 : decode cX7_tellStaying 38 = .ok (.iconst 1, 1) := by decide +kernel
theorem dX7_tellStaying_39 : decode cX7_tellStaying 39 = .ok (.istore_n 1, 1) := by decide +kernel
theorem dX7_tellStaying_40 : decode cX7_tellStaying 40 = .ok (.iload_n 1, 1) := by decide +kernel
theorem dX7_tellStaying_41 : decode cX7_tellStaying 41 = .ok (.ifCond .eq 76, 3) := by decide +kernel
theorem dX7_tellStaying_44 : decode cX7_tellStaying 44 = .ok (.iconst 0, 1) := by decide +kernel
theorem dX7_tellStaying_45 : decode cX7_tellStaying 45 = .ok (.istore_n 1, 1) := by decide +kernel
theorem dX7_tellStaying_46 : decode cX7_tellStaying 46 = .ok (.iconst 0, 1) := by decide +kernel
theorem dX7_tellStaying_47 : decode cX7_tellStaying 47 = .ok (.istore_n 2, 1) := by decide +kernel
theorem dX7_tellStaying_48 : decode cX7_tellStaying 48 = .ok (.iload_n 2, 1) := by decide +kernel
theorem dX7_tellStaying_49 : decode cX7_tellStaying 49 = .ok (.aload_n 0, 1) := by decide +kernel
theorem dX7_tellStaying_50 : decode cX7_tellStaying 50 = .ok (.getfield 7, 3) := by decide +kernel
theorem dX7_tellStaying_53 : decode cX7_tellStaying 53 = .ok (.bipush 14, 2) := by decide +kernel
theorem dX7_tellStaying_55 : decode cX7_tellStaying 55 = .ok (.iaload, 1) := by decide +kernel
theorem dX7_tellStaying_56 : decode cX7_tellStaying 56 = .ok (.if_icmp .ge 58, 3) := by decide +kernel
theorem dX7_tellStaying_59 : decode cX7_tellStaying 59 = .ok (.aload_n 0, 1) := by decide +kernel
theorem dX7_tellStaying_60 : decode cX7_tellStaying 60 = .ok (.aload_n 0, 1) := by decide +kernel
theorem dX7_tellStaying_61 : decode cX7_tellStaying 61 = .ok (.getfield 7, 3) := by decide +kernel
theorem dX7_tellStaying_64 : decode cX7_tellStaying 64 = .ok (.iload_n 2, 1) := by decide +kernel
theorem dX7_tellStaying_65 : decode cX7_tellStaying 65 = .ok (.invokestatic 36, 3) := by decide +kernel
theorem dX7_tellStaying_68 : decode cX7_tellStaying 68 = .ok (.bipush 6, 2) := by decide +kernel
theorem dX7_tellStaying_70 : decode cX7_tellStaying 70 = .ok (.iadd, 1) := by decide +kernel
theorem dX7_tellStaying_71 : decode cX7_tellStaying 71 = .ok (.iaload, 1) := by decide +kernel
theorem dX7_tellStaying_72 : decode cX7_tellStaying 72 = .ok (.invokevirtual 60, 3) := by decide +kernel
theorem dX7_tellStaying_75 : decode cX7_tellStaying 75 = .ok (.istore_n 3, 1) := by decide +kernel
theorem dX7_tellStaying_76 : decode cX7_tellStaying 76 = .ok (.iload_n 3, 1) := by decide +kernel
theorem dX7_tellStaying_77 : decode cX7_tellStaying 77 = .ok (.iconst (-1), 1) := by decide +kernel
theorem dX7_tellStaying_78 : decode cX7_tellStaying 78 = .ok (.if_icmp .eq 30, 3) := by decide +kernel
theorem dX7_tellStaying_81 : decode cX7_tellStaying 81 = .ok (.aload_n 0, 1) := by decide +kernel
theorem dX7_tellStaying_82 : decode cX7_tellStaying 82 = .ok (.getfield 22, 3) := by decide +kernel
theorem dX7_tellStaying_85 : decode cX7_tellStaying 85 = .ok (.iload_n 2, 1) := by decide +kernel
theorem dX7_tellStaying_86 : decode cX7_tellStaying 86 = .ok (.baload, 1) := by decide +kernel
theorem dX7_tellStaying_87 : decode cX7_tellStaying 87 = .ok (.ifCond .eq 21, 3) := by decide +kernel
theorem dX7_tellStaying_90 : decode cX7_tellStaying 90 = .ok (.aload_n 0, 1) := by decide +kernel
theorem dX7_tellStaying_91 : decode cX7_tellStaying 91 = .ok (.getfield 22, 3) := by decide +kernel
theorem dX7_tellStaying_94 : decode cX7_tellStaying 94 = .ok (.iload_n 3, 1) := by decide +kernel
theorem dX7_tellStaying_95 : decode cX7_tellStaying 95 = .ok (.baload, 1) := by decide +kernel
theorem dX7_tellStaying_96 : decode cX7_tellStaying 96 = .ok (.ifCond .ne 12, 3) := by decide +kernel
theorem dX7_tellStaying_99 : decode cX7_tellStaying 99 = .ok (.aload_n 0, 1) := by decide +kernel
theorem dX7_tellStaying_100 : decode cX7_tellStaying 100 = .ok (.getfield 22, 3) := by decide +kernel
theorem dX7_tellStaying_103 : decode cX7_tellStaying 103 = .ok (.iload_n 3, 1) := by decide +kernel
theorem dX7_tellStaying_104 : decode cX7_tellStaying 104 = .ok (.iconst 1, 1) := by decide +kernel
theorem dX7_tellStaying_105 : decode cX7_tellStaying 105 = .ok (.bastore, 1) := by decide +kernel
theorem dX7_tellStaying_106 : decode cX7_tellStaying 106 = .ok (.iconst 1, 1) := by decide +kernel
theorem dX7_tellStaying_107 : decode cX7_tellStaying 107 = .ok (.istore_n 1, 1) := by decide +kernel
theorem dX7_tellStaying_108 : decode cX7_tellStaying 108 = .ok (.iinc 2 1, 3) := by decide +kernel
theorem dX7_tellStaying_111 : decode cX7_tellStaying 111 = .ok (.goto (-63), 3) := by decide +kernel
theorem dX7_tellStaying_114 : decode cX7_tellStaying 114 = .ok (.goto (-74), 3) := by decide +kernel
theorem dX7_tellStaying_117 : decode cX7_tellStaying 117 = .ok (.return_, 1) := by decide +kernel
theorem dX7_leaveTrace_0 : decode cX7_leaveTrace 0 = .ok (.aload_n 0, 1) := by decide +kernel
theorem dX7_leaveTrace_1 : decode cX7_leaveTrace 1 = .ok (.getfield 7, 3) := by decide +kernel
theorem dX7_leaveTrace_4 : decode cX7_leaveTrace 4 = .ok (.bipush 16, 2) := by decide +kernel
theorem dX7_leaveTrace_6 : decode cX7_leaveTrace 6 = .ok (.iaload, 1) := by decide +kernel
theorem dX7_leaveTrace_7 : decode cX7_leaveTrace 7 = .ok (.bipush 12, 2) := by decide +kernel
theorem dX7_leaveTrace_9 : decode cX7_leaveTrace 9 = .ok (.if_icmp .ne 45, 3) := by decide +kernel
theorem dX7_leaveTrace_12 : decode cX7_leaveTrace 12 = .ok (.sipush 393, 3) := by decide +kernel
theorem dX7_leaveTrace_15 : decode cX7_leaveTrace 15 = .ok (.istore_n 2, 1) := by decide +kernel
theorem dX7_leaveTrace_16 : decode cX7_leaveTrace 16 = .ok (.iload_n 2, 1) := by decide +kernel
theorem dX7_leaveTrace_17 : decode cX7_leaveTrace 17 = .ok (.sipush 448, 3) := by decide +kernel
theorem dX7_leaveTrace_20 : decode cX7_leaveTrace 20 = .ok (.if_icmp .ge 23, 3) := by decide +kernel
theorem dX7_leaveTrace_23 : decode cX7_leaveTrace 23 = .ok (.aload_n 0, 1) := by decide +kernel
theorem dX7_leaveTrace_24 : decode cX7_leaveTrace 24 = .ok (.getfield 7, 3) := by decide +kernel
theorem dX7_leaveTrace_27 : decode cX7_leaveTrace 27 = .ok (.iload_n 2, 1) := by decide +kernel
theorem dX7_leaveTrace_28 : decode cX7_leaveTrace 28 = .ok (.aload_n 0, 1) := by decide +kernel
theorem dX7_leaveTrace_29 : decode cX7_leaveTrace 29 = .ok (.getfield 7, 3) := by decide +kernel
theorem dX7_leaveTrace_32 : decode cX7_leaveTrace 32 = .ok (.iload_n 2, 1) := by decide +kernel
theorem dX7_leaveTrace_33 : decode cX7_leaveTrace 33 = .ok (.iconst 5, 1) := by decide +kernel
theorem dX7_leaveTrace_34 : decode cX7_leaveTrace 34 = .ok (.iadd, 1) := by decide +kernel
theorem dX7_leaveTrace_35 : decode cX7_leaveTrace 35 = .ok (.iaload, 1) := by decide +kernel
theorem dX7_leaveTrace_36 : decode cX7_leaveTrace 36 = .ok (.iastore, 1) := by decide +kernel
theorem dX7_leaveTrace_37 : decode cX7_leaveTrace 37 = .ok (.iinc 2 1, 3) := by decide +kernel
theorem dX7_leaveTrace_40 : decode cX7_leaveTrace 40 = .ok (.goto (-24), 3) := by decide +kernel
theorem dX7_leaveTrace_43 : decode cX7_leaveTrace 43 = .ok (.aload_n 0, 1) := by decide +kernel
theorem dX7_leaveTrace_44 : decode cX7_leaveTrace 44 = .ok (.getfield 7, 3) := by decide +kernel
theorem dX7_leaveTrace_47 : decode cX7_leaveTrace 47 = .ok (.bipush 16, 2) := by decide +kernel
theorem dX7_leaveTrace_49 : decode cX7_leaveTrace 49 = .ok (.dup2, 1) := by decide +kernel
theorem dX7_leaveTrace_50 : decode cX7_leaveTrace 50 = .ok (.iaload, 1) := by decide +kernel
theorem dX7_leaveTrace_51 : decode cX7_leaveTrace 51 = .ok (.iconst 1, 1) := by decide +kernel
theorem dX7_leaveTrace_52 : decode cX7_leaveTrace 52 = .ok (.isub, 1) := by decide +kernel
theorem dX7_leaveTrace_53 : decode cX7_leaveTrace 53 = .ok (.iastore, 1) := by decide +kernel
theorem dX7_leaveTrace_54 : decode cX7_leaveTrace 54 = .ok (.sipush 393, 3) := by decide +kernel
theorem dX7_leaveTrace_57 : decode cX7_leaveTrace 57 = .ok (.iconst 5, 1) := by decide +kernel
theorem dX7_leaveTrace_58 : decode cX7_leaveTrace 58 = .ok (.aload_n 0, 1) := by decide +kernel
theorem dX7_leaveTrace_59 : decode cX7_leaveTrace 59 = .ok (.getfield 7, 3) := by decide +kernel
theorem dX7_leaveTrace_62 : decode cX7_leaveTrace 62 = .ok (.bipush 16, 2) := by decide +kernel
theorem dX7_leaveTrace_64 : decode cX7_leaveTrace 64 = .ok (.iaload, 1) := by decide +kernel
theorem dX7_leaveTrace_65 : decode cX7_leaveTrace 65 = .ok (.imul, 1) := by decide +kernel
theorem dX7_leaveTrace_66 : decode cX7_leaveTrace 66 = .ok (.iadd, 1) := by decide +kernel
theorem dX7_leaveTrace_67 : decode cX7_leaveTrace 67 = .ok (.istore_n 2, 1) := by decide +kernel
theorem dX7_leaveTrace_68 : decode cX7_leaveTrace 68 = .ok (.aload_n 0, 1) := by decide +kernel
theorem dX7_leaveTrace_69 : decode cX7_leaveTrace 69 = .ok (.getfield 7, 3) := by decide +kernel
theorem dX7_leaveTrace_72 : decode cX7_leaveTrace 72 = .ok (.iload_n 2, 1) := by decide +kernel
theorem dX7_leaveTrace_73 : decode cX7_leaveTrace 73 = .ok (.aload_n 0, 1) := by decide +kernel
theorem dX7_leaveTrace_74 : decode cX7_leaveTrace 74 = .ok (.getfield 7, 3) := by decide +kernel
theorem dX7_leaveTrace_77 : decode cX7_leaveTrace 77 = .ok (.iload_n 1, 1) := by decide +kernel
theorem dX7_leaveTrace_78 : decode cX7_leaveTrace 78 = .ok (.invokestatic 36, 3) := by decide +kernel
theorem dX7_leaveTrace_81 : decode cX7_leaveTrace 81 = .ok (.iaload, 1) := by decide +kernel
theorem dX7_leaveTrace_82 : decode cX7_leaveTrace 82 = .ok (.iastore, 1) := by decide +kernel
theorem dX7_leaveTrace_83 : decode cX7_leaveTrace 83 = .ok (.aload_n 0, 1) := by decide +kernel
theorem dX7_leaveTrace_84 : decode cX7_leaveTrace 84 = .ok (.getfield 7, 3) := by decide +kernel
theorem dX7_leaveTrace_87 : decode cX7_leaveTrace 87 = .ok (.iload_n 2, 1) := by decide +kernel
theorem dX7_leaveTrace_88 : decode cX7_leaveTrace 88 = .ok (.iconst 1, 1) := by decide +kernel
theorem dX7_leaveTrace_89 : decode cX7_leaveTrace 89 = .ok (.iadd, 1) := by decide +kernel
theorem dX7_leaveTrace_90 : decode cX7_leaveTrace 90 = .ok (.aload_n 0, 1) := by decide +kernel
theorem dX7_leaveTrace_91 : decode cX7_leaveTrace 91 = .ok (.getfield 7, 3) := by decide +kernel
theorem dX7_leaveTrace_94 : decode cX7_leaveTrace 94 = .ok (.iload_n 1, 1) := by decide +kernel
theorem dX7_leaveTrace_95 : decode cX7_leaveTrace 95 = .ok (.invokestatic 36, 3) := by decide +kernel
theorem dX7_leaveTrace_98 : decode cX7_leaveTrace 98 = .ok (.iconst 1, 1) := by decide +kernel
theorem dX7_leaveTrace_99 : decode cX7_leaveTrace 99 = .ok (.iadd, 1) := by decide +kernel
theorem dX7_leaveTrace_100 : decode cX7_leaveTrace 100 = .ok (.iaload, 1) := by decide +kernel
theorem dX7_leaveTrace_101 : decode cX7_leaveTrace 101 = .ok (.iastore, 1) := by decide +kernel
theorem dX7_leaveTrace_102 : decode cX7_leaveTrace 102 = .ok (.aload_n 0, 1) := by decide +kernel
theorem dX7_leaveTrace_103 : decode cX7_leaveTrace 103 = .ok (.getfield 7, 3) := by decide +kernel
theorem dX7_leaveTrace_106 : decode cX7_leaveTrace 106 = .ok (.iload_n 2, 1) := by decide +kernel
theorem dX7_leaveTrace_107 : decode cX7_leaveTrace 107 = .ok (.iconst 2, 1) := by decide +kernel
theorem dX7_leaveTrace_108 : decode cX7_leaveTrace 108 = .ok (.iadd, 1) := by decide +kernel
theorem dX7_leaveTrace_109 : decode cX7_leaveTrace 109 = .ok (.aload_n 0, 1) := by decide +kernel
theorem dX7_leaveTrace_110 : decode cX7_leaveTrace 110 = .ok (.getfield 7, 3) := by decide +kernel
theorem dX7_leaveTrace_113 : decode cX7_leaveTrace 113 = .ok (.iload_n 1, 1) := by decide +kernel
theorem dX7_leaveTrace_114 : decode cX7_leaveTrace 114 = .ok (.invokestatic 36, 3) := by decide +kernel
theorem dX7_leaveTrace_117 : decode cX7_leaveTrace 117 = .ok (.iconst 2, 1) := by decide +kernel
theorem dX7_leaveTrace_118 : decode cX7_leaveTrace 118 = .ok (.iadd, 1) := by decide +kernel
theorem dX7_leaveTrace_119 : decode cX7_leaveTrace 119 = .ok (.iaload, 1) := by decide +kernel
theorem dX7_leaveTrace_120 : decode cX7_leaveTrace 120 = .ok (.iastore, 1) := by decide +kernel
theorem dX7_leaveTrace_121 : decode cX7_leaveTrace 121 = .ok (.aload_n 0, 1) := by decide +kernel
theorem dX7_leaveTrace_122 : decode cX7_leaveTrace 122 = .ok (.getfield 7, 3) := by decide +kernel
theorem dX7_leaveTrace_125 : decode cX7_leaveTrace 125 = .ok (.iload_n 2, 1) := by decide +kernel
theorem dX7_leaveTrace_126 : decode cX7_leaveTrace 126 = .ok (.iconst 3, 1) := by decide +kernel
theorem dX7_leaveTrace_127 : decode cX7_leaveTrace 127 = .ok (.iadd, 1) := by decide +kernel
theorem dX7_leaveTrace_128 : decode cX7_leaveTrace 128 = .ok (.aload_n 0, 1) := by decide +kernel
theorem dX7_leaveTrace_129 : decode cX7_leaveTrace 129 = .ok (.getfield 7, 3) := by decide +kernel
theorem dX7_leaveTrace_132 : decode cX7_leaveTrace 132 = .ok (.bipush 7, 2) := by decide +kernel
theorem dX7_leaveTrace_134 : decode cX7_leaveTrace 134 = .ok (.iaload, 1) := by decide +kernel
theorem dX7_leaveTrace_135 : decode cX7_leaveTrace 135 = .ok (.iastore, 1) := by decide +kernel
theorem dX7_leaveTrace_136 : decode cX7_leaveTrace 136 = .ok (.aload_n 0, 1) := by decide +kernel
theorem dX7_leaveTrace_137 : decode cX7_leaveTrace 137 = .ok (.getfield 7, 3) := by decide +kernel
theorem dX7_leaveTrace_140 : decode cX7_leaveTrace 140 = .ok (.iload_n 2, 1) := by decide +kernel
theorem dX7_leaveTrace_141 : decode cX7_leaveTrace 141 = .ok (.iconst 4, 1) := by decide +kernel
theorem dX7_leaveTrace_142 : decode cX7_leaveTrace 142 = .ok (.iadd, 1) := by decide +kernel
theorem dX7_leaveTrace_143 : decode cX7_leaveTrace 143 = .ok (.aload_n 0, 1) := by decide +kernel
theorem dX7_leaveTrace_144 : decode cX7_leaveTrace 144 = .ok (.getfield 7, 3) := by decide +kernel
theorem dX7_leaveTrace_147 : decode cX7_leaveTrace 147 = .ok (.iload_n 1, 1) := by decide +kernel
theorem dX7_leaveTrace_148 : decode cX7_leaveTrace 148 = .ok (.invokestatic 36, 3) := by decide +kernel
theorem dX7_leaveTrace_151 : decode cX7_leaveTrace 151 = .ok (.iconst 5, 1) := by decide +kernel
theorem dX7_leaveTrace_152 : decode cX7_leaveTrace 152 = .ok (.iadd, 1) := by decide +kernel
theorem dX7_leaveTrace_153 : decode cX7_leaveTrace 153 = .ok (.iaload, 1) := by decide +kernel
theorem dX7_leaveTrace_154 : decode cX7_leaveTrace 154 = .ok (.iastore, 1) := by decide +kernel
theorem dX7_leaveTrace_155 : decode cX7_leaveTrace 155 = .ok (.aload_n 0, 1) := by decide +kernel
theorem dX7_leaveTrace_156 : decode cX7_leaveTrace 156 = .ok (.getfield 7, 3) := by decide +kernel
theorem dX7_leaveTrace_159 : decode cX7_leaveTrace 159 = .ok (.bipush 16, 2) := by decide +kernel
theorem dX7_leaveTrace_161 : decode cX7_leaveTrace 161 = .ok (.dup2, 1) := by decide +kernel
theorem dX7_leaveTrace_162 : decode cX7_leaveTrace 162 = .ok (.iaload, 1) := by decide +kernel
theorem dX7_leaveTrace_163 : decode cX7_leaveTrace 163 = .ok (.iconst 1, 1) := by decide +kernel
theorem dX7_leaveTrace_164 : decode cX7_leaveTrace 164 = .ok (.iadd, 1) := by decide +kernel
theorem dX7_leaveTrace_165 : decode cX7_leaveTrace 165 = .ok (.iastore, 1) := by decide +kernel
theorem dX7_leaveTrace_166 : decode cX7_leaveTrace 166 = .ok (.return_, 1) := by decide +kernel
theorem dX7_burn_0 : decode cX7_burn 0 = .ok (.aload_n 0, 1) := by decide +kernel
theorem dX7_burn_1 : decode cX7_burn 1 = .ok (.getfield 7, 3) := by decide +kernel
theorem dX7_burn_4 : decode cX7_burn 4 = .ok (.iload_n 1, 1) := by decide +kernel
theorem dX7_burn_5 : decode cX7_burn 5 = .ok (.invokestatic 36, 3) := by decide +kernel
theorem dX7_burn_8 : decode cX7_burn 8 = .ok (.iaload, 1) := by decide +kernel
theorem dX7_burn_9 : decode cX7_burn 9 = .ok (.istore_n 2, 1) := by decide +kernel
theorem dX7_burn_10 : decode cX7_burn 10 = .ok (.aload_n 0, 1) := by decide +kernel
theorem dX7_burn_11 : decode cX7_burn 11 = .ok (.iload_n 1, 1) := by decide +kernel
theorem dX7_burn_12 : decode cX7_burn 12 = .ok (.invokevirtual 63, 3) := by decide +kernel
theorem dX7_burn_15 : decode cX7_burn 15 = .ok (.aload_n 0, 1) := by decide +kernel
theorem dX7_burn_16 : decode cX7_burn 16 = .ok (.getfield 7, 3) := by decide +kernel
theorem dX7_burn_19 : decode cX7_burn 19 = .ok (.bipush 9, 2) := by decide +kernel
theorem dX7_burn_21 : decode cX7_burn 21 = .ok (.dup2, 1) := by decide +kernel
theorem dX7_burn_22 : decode cX7_burn 22 = .ok (.iaload, 1) := by decide +kernel
theorem dX7_burn_23 : decode cX7_burn 23 = .ok (.iconst 1, 1) := by decide +kernel
theorem dX7_burn_24 : decode cX7_burn 24 = .ok (.iadd, 1) := by decide +kernel
theorem dX7_burn_25 : decode cX7_burn 25 = .ok (.iastore, 1) := by decide +kernel
theorem dX7_burn_26 : decode cX7_burn 26 = .ok (.aload_n 0, 1) := by decide +kernel
theorem dX7_burn_27 : decode cX7_burn 27 = .ok (.getfield 7, 3) := by decide +kernel
theorem dX7_burn_30 : decode cX7_burn 30 = .ok (.bipush 10, 2) := by decide +kernel
theorem dX7_burn_32 : decode cX7_burn 32 = .ok (.dup2, 1) := by decide +kernel
theorem dX7_burn_33 : decode cX7_burn 33 = .ok (.iaload, 1) := by decide +kernel
theorem dX7_burn_34 : decode cX7_burn 34 = .ok (.aload_n 0, 1) := by decide +kernel
theorem dX7_burn_35 : decode cX7_burn 35 = .ok (.getfield 7, 3) := by decide +kernel
theorem dX7_burn_38 : decode cX7_burn 38 = .ok (.iload_n 1, 1) := by decide +kernel
theorem dX7_burn_39 : decode cX7_burn 39 = .ok (.invokestatic 36, 3) := by decide +kernel
theorem dX7_burn_42 : decode cX7_burn 42 = .ok (.iconst 2, 1) := by decide +kernel
theorem dX7_burn_43 : decode cX7_burn 43 = .ok (.iadd, 1) := by decide +kernel
theorem dX7_burn_44 : decode cX7_burn 44 = .ok (.iaload, 1) := by decide +kernel
theorem dX7_burn_45 : decode cX7_burn 45 = .ok (.iadd, 1) := by decide +kernel
theorem dX7_burn_46 : decode cX7_burn 46 = .ok (.iastore, 1) := by decide +kernel
theorem dX7_burn_47 : decode cX7_burn 47 = .ok (.iconst 0, 1) := by decide +kernel
theorem dX7_burn_48 : decode cX7_burn 48 = .ok (.istore_n 3, 1) := by decide +kernel
theorem dX7_burn_49 : decode cX7_burn 49 = .ok (.iload_n 3, 1) := by decide +kernel
theorem dX7_burn_50 : decode cX7_burn 50 = .ok (.aload_n 0, 1) := by decide +kernel
theorem dX7_burn_51 : decode cX7_burn 51 = .ok (.getfield 7, 3) := by decide +kernel
theorem dX7_burn_54 : decode cX7_burn 54 = .ok (.bipush 14, 2) := by decide +kernel
theorem dX7_burn_56 : decode cX7_burn 56 = .ok (.iaload, 1) := by decide +kernel
theorem dX7_burn_57 : decode cX7_burn 57 = .ok (.if_icmp .ge 53, 3) := by decide +kernel
theorem dX7_burn_60 : decode cX7_burn 60 = .ok (.aload_n 0, 1) := by decide +kernel
theorem dX7_burn_61 : decode cX7_burn 61 = .ok (.getfield 7, 3) := by decide +kernel
theorem dX7_burn_64 : decode cX7_burn 64 = .ok (.iload_n 3, 1) := by decide +kernel
theorem dX7_burn_65 : decode cX7_burn 65 = .ok (.invokestatic 36, 3) := by decide +kernel
theorem dX7_burn_68 : decode cX7_burn 68 = .ok (.bipush 6, 2) := by decide +kernel
theorem dX7_burn_70 : decode cX7_burn 70 = .ok (.iadd, 1) := by decide +kernel
theorem dX7_burn_71 : decode cX7_burn 71 = .ok (.aload_n 0, 1) := by decide +kernel
theorem dX7_burn_72 : decode cX7_burn 72 = .ok (.getfield 7, 3) := by decide +kernel
theorem dX7_burn_75 : decode cX7_burn 75 = .ok (.iload_n 3, 1) := by decide +kernel
theorem dX7_burn_76 : decode cX7_burn 76 = .ok (.invokestatic 36, 3) := by decide +kernel
theorem dX7_burn_79 : decode cX7_burn 79 = .ok (.bipush 6, 2) := by decide +kernel
theorem dX7_burn_81 : decode cX7_burn 81 = .ok (.iadd, 1) := by decide +kernel
theorem dX7_burn_82 : decode cX7_burn 82 = .ok (.iaload, 1) := by decide +kernel
theorem dX7_burn_83 : decode cX7_burn 83 = .ok (.iload_n 2, 1) := by decide +kernel
theorem dX7_burn_84 : decode cX7_burn 84 = .ok (.if_icmp .ne 7, 3) := by decide +kernel
theorem dX7_burn_87 : decode cX7_burn 87 = .ok (.iconst (-1), 1) := by decide +kernel
theorem dX7_burn_88 : decode cX7_burn 88 = .ok (.goto 15, 3) := by decide +kernel
theorem dX7_burn_91 : decode cX7_burn 91 = .ok (.aload_n 0, 1) := by decide +kernel
theorem dX7_burn_92 : decode cX7_burn 92 = .ok (.getfield 7, 3) := by decide +kernel
theorem dX7_burn_95 : decode cX7_burn 95 = .ok (.iload_n 3, 1) := by decide +kernel
theorem dX7_burn_96 : decode cX7_burn 96 = .ok (.invokestatic 36, 3) := by decide +kernel
theorem dX7_burn_99 : decode cX7_burn 99 = .ok (.bipush 6, 2) := by decide +kernel
theorem dX7_burn_101 : decode cX7_burn 101 = .ok (.iadd, 1) := by decide +kernel
theorem dX7_burn_102 : decode cX7_burn 102 = .ok (.iaload, 1) := by decide +kernel
theorem dX7_burn_103 : decode cX7_burn 103 = .ok (.iastore, 1) := by decide +kernel
theorem dX7_burn_104 : decode cX7_burn 104 = .ok (.iinc 3 1, 3) := by decide +kernel
theorem dX7_burn_107 : decode cX7_burn 107 = .ok (.goto (-58), 3) := by decide +kernel
theorem dX7_burn_110 : decode cX7_burn 110 = .ok (.return_, 1) := by decide +kernel
theorem dX7_burning_0 : decode cX7_burning 0 = .ok (.iconst 0, 1) := by decide +kernel
theorem dX7_burning_1 : decode cX7_burning 1 = .ok (.istore_n 1, 1) := by decide +kernel
theorem dX7_burning_2 : decode cX7_burning 2 = .ok (.aload_n 0, 1) := by decide +kernel
theorem dX7_burning_3 : decode cX7_burning 3 = .ok (.invokevirtual 67, 3) := by decide +kernel
theorem dX7_burning_6 : decode cX7_burning 6 = .ok (.iconst 0, 1) := by decide +kernel
theorem dX7_burning_7 : decode cX7_burning 7 = .ok (.istore_n 2, 1) := by decide +kernel
theorem dX7_burning_8 : decode cX7_burning 8 = .ok (.iload_n 2, 1) := by decide +kernel
theorem dX7_burning_9 : decode cX7_burning 9 = .ok (.aload_n 0, 1) := by decide +kernel
theorem dX7_burning_10 : decode cX7_burning 10 = .ok (.getfield 7, 3) := by decide +kernel
theorem dX7_burning_13 : decode cX7_burning 13 = .ok (.bipush 14, 2) := by decide +kernel
theorem dX7_burning_15 : decode cX7_burning 15 = .ok (.iaload, 1) := by decide +kernel
theorem dX7_burning_16 : decode cX7_burning 16 = .ok (.if_icmp .ge 26, 3) := by decide +kernel
theorem dX7_burning_19 : decode cX7_burning 19 = .ok (.aload_n 0, 1) := by decide +kernel
theorem dX7_burning_20 : decode cX7_burning 20 = .ok (.getfield 22, 3) := by decide +kernel
theorem dX7_burning_23 : decode cX7_burning 23 = .ok (.iload_n 2, 1) := by decide +kernel
theorem dX7_burning_24 : decode cX7_burning 24 = .ok (.baload, 1) := by decide +kernel
theorem dX7_burning_25 : decode cX7_burning 25 = .ok (.ifCond .ne 11, 3) := by decide +kernel
theorem dX7_burning_28 : decode cX7_burning 28 = .ok (.aload_n 0, 1) := by decide +kernel
theorem dX7_burning_29 : decode cX7_burning 29 = .ok (.iload_n 2, 1) := by decide +kernel
theorem dX7_burning_30 : decode cX7_burning 30 = .ok (.invokevirtual 70, 3) := by decide +kernel
theorem dX7_burning_33 : decode cX7_burning 33 = .ok (.iinc 1 1, 3) := by decide +kernel
theorem dX7_burning_36 : decode cX7_burning 36 = .ok (.iinc 2 1, 3) := by decide +kernel
theorem dX7_burning_39 : decode cX7_burning 39 = .ok (.goto (-31), 3) := by decide +kernel
theorem dX7_burning_42 : decode cX7_burning 42 = .ok (.iconst 0, 1) := by decide +kernel
theorem dX7_burning_43 : decode cX7_burning 43 = .ok (.istore_n 2, 1) := by decide +kernel
theorem dX7_burning_44 : decode cX7_burning 44 = .ok (.iconst 0, 1) := by decide +kernel
theorem dX7_burning_45 : decode cX7_burning 45 = .ok (.istore_n 3, 1) := by decide +kernel
theorem dX7_burning_46 : decode cX7_burning 46 = .ok (.iload_n 3, 1) := by decide +kernel
theorem dX7_burning_47 : decode cX7_burning 47 = .ok (.aload_n 0, 1) := by decide +kernel
theorem dX7_burning_48 : decode cX7_burning 48 = .ok (.getfield 7, 3) := by decide +kernel
theorem dX7_burning_51 : decode cX7_burning 51 = .ok (.bipush 14, 2) := by decide +kernel
theorem dX7_burning_53 : decode cX7_burning 53 = .ok (.iaload, 1) := by decide +kernel
theorem dX7_burning_54 : decode cX7_burning 54 = .ok (.if_icmp .ge 61, 3) := by decide +kernel
theorem dX7_burning_57 : decode cX7_burning 57 = .ok (.aload_n 0, 1) := by decide +kernel
theorem dX7_burning_58 : decode cX7_burning 58 = .ok (.getfield 22, 3) := by decide +kernel
theorem dX7_burning_61 : decode cX7_burning 61 = .ok (.iload_n 3, 1) := by decide +kernel
theorem dX7_burning_62 : decode cX7_burning 62 = .ok (.baload, 1) := by decide +kernel
theorem dX7_burning_63 : decode cX7_burning 63 = .ok (.ifCond .eq 46, 3) := by decide +kernel
theorem dX7_burning_66 : decode cX7_burning 66 = .ok (.iconst 0, 1) := by decide +kernel
theorem dX7_burning_67 : decode cX7_burning 67 = .ok (.istore 4, 2) := by decide +kernel
theorem dX7_burning_69 : decode cX7_burning 69 = .ok (.iload 4, 2) := by decide +kernel
theorem dX7_burning_71 : decode cX7_burning 71 = .ok (.bipush 15, 2) := by decide +kernel
theorem dX7_burning_73 : decode cX7_burning 73 = .ok (.if_icmp .ge 33, 3) := by decide +kernel
theorem dX7_burning_76 : decode cX7_burning 76 = .ok (.aload_n 0, 1) := by decide +kernel
theorem dX7_burning_77 : decode cX7_burning 77 = .ok (.getfield 7, 3) := by decide +kernel
theorem dX7_burning_80 : decode cX7_burning 80 = .ok (.iload_n 2, 1) := by decide +kernel
theorem dX7_burning_81 : decode cX7_burning 81 = .ok (.invokestatic 36, 3) := by decide +kernel
theorem dX7_burning_84 : decode cX7_burning 84 = .ok (.iload 4, 2) := by decide +kernel
theorem dX7_burning_86 : decode cX7_burning 86 = .ok (.iadd, 1) := by decide +kernel
theorem dX7_burning_87 : decode cX7_burning 87 = .ok (.aload_n 0, 1) := by decide +kernel
theorem dX7_burning_88 : decode cX7_burning 88 = .ok (.getfield 7, 3) := by decide +kernel
theorem dX7_burning_91 : decode cX7_burning 91 = .ok (.iload_n 3, 1) := by decide +kernel
theorem dX7_burning_92 : decode cX7_burning 92 = .ok (.invokestatic 36, 3) := by decide +kernel
theorem dX7_burning_95 : decode cX7_burning 95 = .ok (.iload 4, 2) := by decide +kernel
theorem dX7_burning_97 : decode cX7_burning 97 = .ok (.iadd, 1) := by decide +kernel
theorem dX7_burning_98 : decode cX7_burning 98 = .ok (.iaload, 1) := by decide +kernel
theorem dX7_burning_99 : decode cX7_burning 99 = .ok (.iastore, 1) := by decide +kernel
theorem dX7_burning_100 : decode cX7_burning 100 = .ok (.iinc 4 1, 3) := by decide +kernel
theorem dX7_burning_103 : decode cX7_burning 103 = .ok (.goto (-34), 3) := by decide +kernel
theorem dX7_burning_106 : decode cX7_burning 106 = .ok (.iinc 2 1, 3) := by decide +kernel
theorem dX7_burning_109 : decode cX7_burning 109 = .ok (.iinc 3 1, 3) := by decide +kernel
theorem dX7_burning_112 : decode cX7_burning 112 = .ok (.goto (-66), 3) := by decide +kernel
theorem dX7_burning_115 : decode cX7_burning 115 = .ok (.aload_n 0, 1) := by decide +kernel
theorem dX7_burning_116 : decode cX7_burning 116 = .ok (.getfield 7, 3) := by decide +kernel
theorem dX7_burning_119 : decode cX7_burning 119 = .ok (.bipush 14, 2) := by decide +kernel
theorem dX7_burning_121 : decode cX7_burning 121 = .ok (.iload_n 2, 1) := by decide +kernel
theorem dX7_burning_122 : decode cX7_burning 122 = .ok (.iastore, 1) := by decide +kernel
theorem dX7_burning_123 : decode cX7_burning 123 = .ok (.aload_n 0, 1) := by decide +kernel
theorem dX7_burning_124 : decode cX7_burning 124 = .ok (.getfield 7, 3) := by decide +kernel
theorem dX7_burning_127 : decode cX7_burning 127 = .ok (.bipush 13, 2) := by decide +kernel
theorem dX7_burning_129 : decode cX7_burning 129 = .ok (.dup2, 1) := by decide +kernel
theorem dX7_burning_130 : decode cX7_burning 130 = .ok (.iaload, 1) := by decide +kernel
theorem dX7_burning_131 : decode cX7_burning 131 = .ok (.iconst 1, 1) := by decide +kernel
theorem dX7_burning_132 : decode cX7_burning 132 = .ok (.iadd, 1) := by decide +kernel
theorem dX7_burning_133 : decode cX7_burning 133 = .ok (.iastore, 1) := by decide +kernel
theorem dX7_burning_134 : decode cX7_burning 134 = .ok (.iload_n 1, 1) := by decide +kernel
theorem dX7_burning_135 : decode cX7_burning 135 = .ok (.ireturn, 1) := by decide +kernel
theorem dX7_asks_0 : decode cX7_asks 0 = .ok (.aload_n 0, 1) := by decide +kernel
theorem dX7_asks_1 : decode cX7_asks 1 = .ok (.getfield 7, 3) := by decide +kernel
theorem dX7_asks_4 : decode cX7_asks 4 = .ok (.iload_n 1, 1) := by decide +kernel
theorem dX7_asks_5 : decode cX7_asks 5 = .ok (.invokestatic 36, 3) := by decide +kernel
theorem dX7_asks_8 : decode cX7_asks 8 = .ok (.iconst 4, 1) := by decide +kernel
theorem dX7_asks_9 : decode cX7_asks 9 = .ok (.iadd, 1) := by decide +kernel
theorem dX7_asks_10 : decode cX7_asks 10 = .ok (.aload_n 0, 1) := by decide +kernel
theorem dX7_asks_11 : decode cX7_asks 11 = .ok (.getfield 7, 3) := by decide +kernel
theorem dX7_asks_14 : decode cX7_asks 14 = .ok (.bipush 7, 2) := by decide +kernel
theorem dX7_asks_16 : decode cX7_asks 16 = .ok (.iaload, 1) := by decide +kernel
theorem dX7_asks_17 : decode cX7_asks 17 = .ok (.iastore, 1) := by decide +kernel
theorem dX7_asks_18 : decode cX7_asks 18 = .ok (.aload_n 0, 1) := by decide +kernel
theorem dX7_asks_19 : decode cX7_asks 19 = .ok (.getfield 7, 3) := by decide +kernel
theorem dX7_asks_22 : decode cX7_asks 22 = .ok (.iload_n 1, 1) := by decide +kernel
theorem dX7_asks_23 : decode cX7_asks 23 = .ok (.invokestatic 36, 3) := by decide +kernel
theorem dX7_asks_26 : decode cX7_asks 26 = .ok (.iconst 5, 1) := by decide +kernel
theorem dX7_asks_27 : decode cX7_asks 27 = .ok (.iadd, 1) := by decide +kernel
theorem dX7_asks_28 : decode cX7_asks 28 = .ok (.dup2, 1) := by decide +kernel
theorem dX7_asks_29 : decode cX7_asks 29 = .ok (.iaload, 1) := by decide +kernel
theorem dX7_asks_30 : decode cX7_asks 30 = .ok (.iconst 1, 1) := by decide +kernel
theorem dX7_asks_31 : decode cX7_asks 31 = .ok (.iadd, 1) := by decide +kernel
theorem dX7_asks_32 : decode cX7_asks 32 = .ok (.iastore, 1) := by decide +kernel
theorem dX7_asks_33 : decode cX7_asks 33 = .ok (.aload_n 0, 1) := by decide +kernel
theorem dX7_asks_34 : decode cX7_asks 34 = .ok (.getfield 7, 3) := by decide +kernel
theorem dX7_asks_37 : decode cX7_asks 37 = .ok (.bipush 11, 2) := by decide +kernel
theorem dX7_asks_39 : decode cX7_asks 39 = .ok (.dup2, 1) := by decide +kernel
theorem dX7_asks_40 : decode cX7_asks 40 = .ok (.iaload, 1) := by decide +kernel
theorem dX7_asks_41 : decode cX7_asks 41 = .ok (.iconst 1, 1) := by decide +kernel
theorem dX7_asks_42 : decode cX7_asks 42 = .ok (.iadd, 1) := by decide +kernel
theorem dX7_asks_43 : decode cX7_asks 43 = .ok (.iastore, 1) := by decide +kernel
theorem dX7_asks_44 : decode cX7_asks 44 = .ok (.aload_n 0, 1) := by decide +kernel
theorem dX7_asks_45 : decode cX7_asks 45 = .ok (.getfield 7, 3) := by decide +kernel
theorem dX7_asks_48 : decode cX7_asks 48 = .ok (.iload_n 1, 1) := by decide +kernel
theorem dX7_asks_49 : decode cX7_asks 49 = .ok (.invokestatic 36, 3) := by decide +kernel
theorem dX7_asks_52 : decode cX7_asks 52 = .ok (.iconst 5, 1) := by decide +kernel
theorem dX7_asks_53 : decode cX7_asks 53 = .ok (.iadd, 1) := by decide +kernel
theorem dX7_asks_54 : decode cX7_asks 54 = .ok (.iaload, 1) := by decide +kernel
theorem dX7_asks_55 : decode cX7_asks 55 = .ok (.ireturn, 1) := by decide +kernel
theorem dX7_removeReservation_0 : decode cX7_removeReservation 0 = .ok (.sipush 377, 3) := by decide +kernel
theorem dX7_removeReservation_3 : decode cX7_removeReservation 3 = .ok (.iconst 2, 1) := by decide +kernel
theorem dX7_removeReservation_4 : decode cX7_removeReservation 4 = .ok (.iload_n 1, 1) := by decide +kernel
theorem dX7_removeReservation_5 : decode cX7_removeReservation 5 = .ok (.imul, 1) := by decide +kernel
theorem dX7_removeReservation_6 : decode cX7_removeReservation 6 = .ok (.iadd, 1) := by decide +kernel
theorem dX7_removeReservation_7 : decode cX7_removeReservation 7 = .ok (.istore_n 2, 1) := by decide +kernel
theorem dX7_removeReservation_8 : decode cX7_removeReservation 8 = .ok (.iload_n 2, 1) := by decide +kernel
theorem dX7_removeReservation_9 : decode cX7_removeReservation 9 = .ok (.sipush 377, 3) := by decide +kernel
theorem dX7_removeReservation_12 : decode cX7_removeReservation 12 = .ok (.iconst 2, 1) := by decide +kernel
theorem dX7_removeReservation_13 : decode cX7_removeReservation 13 = .ok (.aload_n 0, 1) := by decide +kernel
theorem dX7_removeReservation_14 : decode cX7_removeReservation 14 = .ok (.getfield 7, 3) := by decide +kernel
theorem dX7_removeReservation_17 : decode cX7_removeReservation 17 = .ok (.bipush 15, 2) := by decide +kernel
theorem dX7_removeReservation_19 : decode cX7_removeReservation 19 = .ok (.iaload, 1) := by decide +kernel
theorem dX7_removeReservation_20 : decode cX7_removeReservation 20 = .ok (.imul, 1) := by decide +kernel
theorem dX7_removeReservation_21 : decode cX7_removeReservation 21 = .ok (.iadd, 1) := by decide +kernel
theorem dX7_removeReservation_22 : decode cX7_removeReservation 22 = .ok (.iconst 2, 1) := by decide +kernel
theorem dX7_removeReservation_23 : decode cX7_removeReservation 23 = .ok (.isub, 1) := by decide +kernel
theorem dX7_removeReservation_24 : decode cX7_removeReservation 24 = .ok (.if_icmp .ge 23, 3) := by decide +kernel
theorem dX7_removeReservation_27 : decode cX7_removeReservation 27 = .ok (.aload_n 0, 1) := by decide +kernel
theorem dX7_removeReservation_28 : decode cX7_removeReservation 28 = .ok (.getfield 7, 3) := by decide +kernel
theorem dX7_removeReservation_31 : decode cX7_removeReservation 31 = .ok (.iload_n 2, 1) := by decide +kernel
theorem dX7_removeReservation_32 : decode cX7_removeReservation 32 = .ok (.aload_n 0, 1) := by decide +kernel
theorem dX7_removeReservation_33 : decode cX7_removeReservation 33 = .ok (.getfield 7, 3) := by decide +kernel
theorem dX7_removeReservation_36 : decode cX7_removeReservation 36 = .ok (.iload_n 2, 1) := by decide +kernel
theorem dX7_removeReservation_37 : decode cX7_removeReservation 37 = .ok (.iconst 2, 1) := by decide +kernel
theorem dX7_removeReservation_38 : decode cX7_removeReservation 38 = .ok (.iadd, 1) := by decide +kernel
theorem dX7_removeReservation_39 : decode cX7_removeReservation 39 = .ok (.iaload, 1) := by decide +kernel
theorem dX7_removeReservation_40 : decode cX7_removeReservation 40 = .ok (.iastore, 1) := by decide +kernel
theorem dX7_removeReservation_41 : decode cX7_removeReservation 41 = .ok (.iinc 2 1, 3) := by decide +kernel
theorem dX7_removeReservation_44 : decode cX7_removeReservation 44 = .ok (.goto (-36), 3) := by decide +kernel
theorem dX7_removeReservation_47 : decode cX7_removeReservation 47 = .ok (.aload_n 0, 1) := by decide +kernel
theorem dX7_removeReservation_48 : decode cX7_removeReservation 48 = .ok (.getfield 7, 3) := by decide +kernel
theorem dX7_removeReservation_51 : decode cX7_removeReservation 51 = .ok (.bipush 15, 2) := by decide +kernel
theorem dX7_removeReservation_53 : decode cX7_removeReservation 53 = .ok (.dup2, 1) := by decide +kernel
theorem dX7_removeReservation_54 : decode cX7_removeReservation 54 = .ok (.iaload, 1) := by decide +kernel
theorem dX7_removeReservation_55 : decode cX7_removeReservation 55 = .ok (.iconst 1, 1) := by decide +kernel
theorem dX7_removeReservation_56 : decode cX7_removeReservation 56 = .ok (.isub, 1) := by decide +kernel
theorem dX7_removeReservation_57 : decode cX7_removeReservation 57 = .ok (.iastore, 1) := by decide +kernel
theorem dX7_removeReservation_58 : decode cX7_removeReservation 58 = .ok (.return_, 1) := by decide +kernel
theorem dX7_reserved_0 : decode cX7_reserved 0 = .ok (.iconst 0, 1) := by decide +kernel
theorem dX7_reserved_1 : decode cX7_reserved 1 = .ok (.istore_n 1, 1) := by decide +kernel
theorem dX7_reserved_2 : decode cX7_reserved 2 = .ok (.aload_n 0, 1) := by decide +kernel
theorem dX7_reserved_3 : decode cX7_reserved 3 = .ok (.getfield 7, 3) := by decide +kernel
theorem dX7_reserved_6 : decode cX7_reserved 6 = .ok (.bipush 15, 2) := by decide +kernel
theorem dX7_reserved_8 : decode cX7_reserved 8 = .ok (.iaload, 1) := by decide +kernel
theorem dX7_reserved_9 : decode cX7_reserved 9 = .ok (.iconst 1, 1) := by decide +kernel
theorem dX7_reserved_10 : decode cX7_reserved 10 = .ok (.isub, 1) := by decide +kernel
theorem dX7_reserved_11 : decode cX7_reserved 11 = .ok (.istore_n 2, 1) := by decide +kernel
theorem dX7_reserved_12 : decode cX7_reserved 12 = .ok (.iload_n 2, 1) := by decide +kernel
theorem dX7_reserved_13 : decode cX7_reserved 13 = .ok (.ifCond .lt 62, 3) := by decide +kernel
theorem dX7_reserved_16 : decode cX7_reserved 16 = .ok (.aload_n 0, 1) := by decide +kernel
theorem dX7_reserved_17 : decode cX7_reserved 17 = .ok (.getfield 7, 3) := by decide +kernel
theorem dX7_reserved_20 : decode cX7_reserved 20 = .ok (.sipush 377, 3) := by decide +kernel
theorem dX7_reserved_23 : decode cX7_reserved 23 = .ok (.iconst 2, 1) := by decide +kernel
theorem dX7_reserved_24 : decode cX7_reserved 24 = .ok (.iload_n 2, 1) := by decide +kernel
theorem dX7_reserved_25 : decode cX7_reserved 25 = .ok (.imul, 1) := by decide +kernel
theorem dX7_reserved_26 : decode cX7_reserved 26 = .ok (.iadd, 1) := by decide +kernel
theorem dX7_reserved_27 : decode cX7_reserved 27 = .ok (.iconst 1, 1) := by decide +kernel
theorem dX7_reserved_28 : decode cX7_reserved 28 = .ok (.iadd, 1) := by decide +kernel
theorem dX7_reserved_29 : decode cX7_reserved 29 = .ok (.iaload, 1) := by decide +kernel
theorem dX7_reserved_30 : decode cX7_reserved 30 = .ok (.aload_n 0, 1) := by decide +kernel
theorem dX7_reserved_31 : decode cX7_reserved 31 = .ok (.getfield 7, 3) := by decide +kernel
theorem dX7_reserved_34 : decode cX7_reserved 34 = .ok (.bipush 7, 2) := by decide +kernel
theorem dX7_reserved_36 : decode cX7_reserved 36 = .ok (.iaload, 1) := by decide +kernel
theorem dX7_reserved_37 : decode cX7_reserved 37 = .ok (.if_icmp .ne 32, 3) := by decide +kernel
theorem dX7_reserved_40 : decode cX7_reserved 40 = .ok (.aload_n 0, 1) := by decide +kernel
theorem dX7_reserved_41 : decode cX7_reserved 41 = .ok (.aload_n 0, 1) := by decide +kernel
theorem dX7_reserved_42 : decode cX7_reserved 42 = .ok (.aload_n 0, 1) := by decide +kernel
theorem dX7_reserved_43 : decode cX7_reserved 43 = .ok (.getfield 7, 3) := by decide +kernel
theorem dX7_reserved_46 : decode cX7_reserved 46 = .ok (.sipush 377, 3) := by decide +kernel
theorem dX7_reserved_49 : decode cX7_reserved 49 = .ok (.iconst 2, 1) := by decide +kernel
theorem dX7_reserved_50 : decode cX7_reserved 50 = .ok (.iload_n 2, 1) := by decide +kernel
theorem dX7_reserved_51 : decode cX7_reserved 51 = .ok (.imul, 1) := by decide +kernel
theorem dX7_reserved_52 : decode cX7_reserved 52 = .ok (.iadd, 1) := by decide +kernel
theorem dX7_reserved_53 : decode cX7_reserved 53 = .ok (.iaload, 1) := by decide +kernel
theorem dX7_reserved_54 : decode cX7_reserved 54 = .ok (.invokevirtual 60, 3) := by decide +kernel
theorem dX7_reserved_57 : decode cX7_reserved 57 = .ok (.invokevirtual 73, 3) := by decide +kernel
theorem dX7_reserved_60 : decode cX7_reserved 60 = .ok (.istore_n 3, 1) := by decide +kernel
theorem dX7_reserved_61 : decode cX7_reserved 61 = .ok (.aload_n 0, 1) := by decide +kernel
theorem dX7_reserved_62 : decode cX7_reserved 62 = .ok (.iload_n 2, 1) := by decide +kernel
theorem dX7_reserved_63 : decode cX7_reserved 63 = .ok (.invokevirtual 76, 3) := by decide +kernel
theorem dX7_reserved_66 : decode cX7_reserved 66 = .ok (.iinc 1 1, 3) := by decide +kernel
theorem dX7_reserved_69 : decode cX7_reserved 69 = .ok (.iinc 2 (-1), 3) := by decide +kernel
theorem dX7_reserved_72 : decode cX7_reserved 72 = .ok (.goto (-60), 3) := by decide +kernel
theorem dX7_reserved_75 : decode cX7_reserved 75 = .ok (.iload_n 1, 1) := by decide +kernel
theorem dX7_reserved_76 : decode cX7_reserved 76 = .ok (.ireturn, 1) := by decide +kernel
theorem dX7_day_0 : decode cX7_day 0 = .ok (.aload_n 0, 1) := by decide +kernel
theorem dX7_day_1 : decode cX7_day 1 = .ok (.getfield 7, 3) := by decide +kernel
theorem dX7_day_4 : decode cX7_day 4 = .ok (.bipush 7, 2) := by decide +kernel
theorem dX7_day_6 : decode cX7_day 6 = .ok (.dup2, 1) := by decide +kernel
theorem dX7_day_7 : decode cX7_day 7 = .ok (.iaload, 1) := by decide +kernel
theorem dX7_day_8 : decode cX7_day 8 = .ok (.iconst 1, 1) := by decide +kernel
theorem dX7_day_9 : decode cX7_day 9 = .ok (.iadd, 1) := by decide +kernel
theorem dX7_day_10 : decode cX7_day 10 = .ok (.iastore, 1) := by decide +kernel
theorem dX7_day_11 : decode cX7_day 11 = .ok (.aload_n 0, 1) := by decide +kernel
theorem dX7_day_12 : decode cX7_day 12 = .ok (.invokevirtual 79, 3) := by decide +kernel
theorem dX7_day_15 : decode cX7_day 15 = .ok (.istore_n 1, 1) := by decide +kernel
theorem dX7_day_16 : decode cX7_day 16 = .ok (.aload_n 0, 1) := by decide +kernel
theorem dX7_day_17 : decode cX7_day 17 = .ok (.getfield 7, 3) := by decide +kernel
theorem dX7_day_20 : decode cX7_day 20 = .ok (.bipush 7, 2) := by decide +kernel
theorem dX7_day_22 : decode cX7_day 22 = .ok (.iaload, 1) := by decide +kernel
theorem dX7_day_23 : decode cX7_day 23 = .ok (.bipush 90, 2) := by decide +kernel
theorem dX7_day_25 : decode cX7_day 25 = .ok (.irem, 1) := by decide +kernel
theorem dX7_day_26 : decode cX7_day 26 = .ok (.ifCond .ne 10, 3) := by decide +kernel
theorem dX7_day_29 : decode cX7_day 29 = .ok (.aload_n 0, 1) := by decide +kernel
theorem dX7_day_30 : decode cX7_day 30 = .ok (.invokevirtual 83, 3) := by decide +kernel
theorem dX7_day_33 : decode cX7_day 33 = .ok (.goto 4, 3) := by decide +kernel
theorem dX7_day_36 : decode cX7_day 36 = .ok (.iconst 0, 1) := by decide +kernel
theorem dX7_day_37 : decode cX7_day 37 = .ok (.ireturn, 1) := by decide +kernel
theorem dX7_adds_0 : decode cX7_adds 0 = .ok (.iload_n 1, 1) := by decide +kernel
theorem dX7_adds_1 : decode cX7_adds 1 = .ok (.iconst 0, 1) := by decide +kernel
theorem dX7_adds_2 : decode cX7_adds 2 = .ok (.iconst 4, 1) := by decide +kernel
theorem dX7_adds_3 : decode cX7_adds 3 = .ok (.invokestatic 86, 3) := by decide +kernel
theorem dX7_adds_6 : decode cX7_adds 6 = .ok (.ifCond .eq 13, 3) := by decide +kernel
theorem dX7_adds_9 : decode cX7_adds 9 = .ok (.iload_n 2, 1) := by decide +kernel
theorem dX7_adds_10 : decode cX7_adds 10 = .ok (.iconst 1, 1) := by decide +kernel
theorem dX7_adds_11 : decode cX7_adds 11 = .ok (.bipush 50, 2) := by decide +kernel
theorem dX7_adds_13 : decode cX7_adds 13 = .ok (.invokestatic 86, 3) := by decide +kernel
theorem dX7_adds_16 : decode cX7_adds 16 = .ok (.ifCond .ne 6, 3) := by decide +kernel
theorem dX7_adds_19 : decode cX7_adds 19 = .ok (.bipush (-2), 2) := by decide +kernel
theorem dX7_adds_21 : decode cX7_adds 21 = .ok (.ireturn, 1) := by decide +kernel
theorem dX7_adds_22 : decode cX7_adds 22 = .ok (.aload_n 0, 1) := by decide +kernel
theorem dX7_adds_23 : decode cX7_adds 23 = .ok (.getfield 7, 3) := by decide +kernel
theorem dX7_adds_26 : decode cX7_adds 26 = .ok (.bipush 14, 2) := by decide +kernel
theorem dX7_adds_28 : decode cX7_adds 28 = .ok (.iaload, 1) := by decide +kernel
theorem dX7_adds_29 : decode cX7_adds 29 = .ok (.bipush 24, 2) := by decide +kernel
theorem dX7_adds_31 : decode cX7_adds 31 = .ok (.if_icmp .eq 32, 3) := by decide +kernel
theorem dX7_adds_34 : decode cX7_adds 34 = .ok (.aload_n 0, 1) := by decide +kernel
theorem dX7_adds_35 : decode cX7_adds 35 = .ok (.getfield 7, 3) := by decide +kernel
theorem dX7_adds_38 : decode cX7_adds 38 = .ok (.bipush 8, 2) := by decide +kernel
theorem dX7_adds_40 : decode cX7_adds 40 = .ok (.iaload, 1) := by decide +kernel
theorem dX7_adds_41 : decode cX7_adds 41 = .ok (.sipush 200, 3) := by decide +kernel
theorem dX7_adds_44 : decode cX7_adds 44 = .ok (.if_icmp .eq 19, 3) := by decide +kernel
theorem dX7_adds_47 : decode cX7_adds 47 = .ok (.aload_n 0, 1) := by decide +kernel
theorem dX7_adds_48 : decode cX7_adds 48 = .ok (.invokevirtual 90, 3) := by decide +kernel
theorem dX7_adds_51 : decode cX7_adds 51 = .ok (.iload_n 2, 1) := by decide +kernel
theorem dX7_adds_52 : decode cX7_adds 52 = .ok (.iadd, 1) := by decide +kernel
theorem dX7_adds_53 : decode cX7_adds 53 = .ok (.aload_n 0, 1) := by decide +kernel
theorem dX7_adds_54 : decode cX7_adds 54 = .ok (.getfield 7, 3) := by decide +kernel
theorem dX7_adds_57 : decode cX7_adds 57 = .ok (.bipush 6, 2) := by decide +kernel
theorem dX7_adds_59 : decode cX7_adds 59 = .ok (.iaload, 1) := by decide +kernel
theorem dX7_adds_60 : decode cX7_adds 60 = .ok (.if_icmp .le 6, 3) := by decide +kernel
theorem dX7_adds_63 : decode cX7_adds 63 = .ok (.bipush (-4), 2) := by decide +kernel
theorem dX7_adds_65 : decode cX7_adds 65 = .ok (.ireturn, 1) := by decide +kernel
theorem dX7_adds_66 : decode cX7_adds 66 = .ok (.aload_n 0, 1) := by decide +kernel
theorem dX7_adds_67 : decode cX7_adds 67 = .ok (.getfield 7, 3) := by decide +kernel
theorem dX7_adds_70 : decode cX7_adds 70 = .ok (.bipush 14, 2) := by decide +kernel
theorem dX7_adds_72 : decode cX7_adds 72 = .ok (.iaload, 1) := by decide +kernel
theorem dX7_adds_73 : decode cX7_adds 73 = .ok (.invokestatic 36, 3) := by decide +kernel
theorem dX7_adds_76 : decode cX7_adds 76 = .ok (.istore_n 3, 1) := by decide +kernel
theorem dX7_adds_77 : decode cX7_adds 77 = .ok (.iconst 0, 1) := by decide +kernel
theorem dX7_adds_78 : decode cX7_adds 78 = .ok (.istore 4, 2) := by decide +kernel
theorem dX7_adds_80 : decode cX7_adds 80 = .ok (.iload 4, 2) := by decide +kernel
theorem dX7_adds_82 : decode cX7_adds 82 = .ok (.bipush 15, 2) := by decide +kernel
theorem dX7_adds_84 : decode cX7_adds 84 = .ok (.if_icmp .ge 19, 3) := by decide +kernel
theorem dX7_adds_87 : decode cX7_adds 87 = .ok (.aload_n 0, 1) := by decide +kernel
theorem dX7_adds_88 : decode cX7_adds 88 = .ok (.getfield 7, 3) := by decide +kernel
theorem dX7_adds_91 : decode cX7_adds 91 = .ok (.iload_n 3, 1) := by decide +kernel
theorem dX7_adds_92 : decode cX7_adds 92 = .ok (.iload 4, 2) := by decide +kernel
theorem dX7_adds_94 : decode cX7_adds 94 = .ok (.iadd, 1) := by decide +kernel
theorem dX7_adds_95 : decode cX7_adds 95 = .ok (.iconst 0, 1) := by decide +kernel
theorem dX7_adds_96 : decode cX7_adds 96 = .ok (.iastore, 1) := by decide +kernel
theorem dX7_adds_97 : decode cX7_adds 97 = .ok (.iinc 4 1, 3) := by decide +kernel
theorem dX7_adds_100 : decode cX7_adds 100 = .ok (.goto (-20), 3) := by decide +kernel
theorem dX7_adds_103 : decode cX7_adds 103 = .ok (.aload_n 0, 1) := by decide +kernel
theorem dX7_adds_104 : decode cX7_adds 104 = .ok (.getfield 7, 3) := by decide +kernel
theorem dX7_adds_107 : decode cX7_adds 107 = .ok (.iload_n 3, 1) := by decide +kernel
theorem dX7_adds_108 : decode cX7_adds 108 = .ok (.aload_n 0, 1) := by decide +kernel
theorem dX7_adds_109 : decode cX7_adds 109 = .ok (.getfield 7, 3) := by decide +kernel
theorem dX7_adds_112 : decode cX7_adds 112 = .ok (.bipush 8, 2) := by decide +kernel
theorem dX7_adds_114 : decode cX7_adds 114 = .ok (.iaload, 1) := by decide +kernel
theorem dX7_adds_115 : decode cX7_adds 115 = .ok (.iastore, 1) := by decide +kernel
theorem dX7_adds_116 : decode cX7_adds 116 = .ok (.aload_n 0, 1) := by decide +kernel
theorem dX7_adds_117 : decode cX7_adds 117 = .ok (.getfield 7, 3) := by decide +kernel
theorem dX7_adds_120 : decode cX7_adds 120 = .ok (.iload_n 3, 1) := by decide +kernel
theorem dX7_adds_121 : decode cX7_adds 121 = .ok (.iconst 1, 1) := by decide +kernel
theorem dX7_adds_122 : decode cX7_adds 122 = .ok (.iadd, 1) := by decide +kernel
theorem dX7_adds_123 : decode cX7_adds 123 = .ok (.iload_n 1, 1) := by decide +kernel
theorem dX7_adds_124 : decode cX7_adds 124 = .ok (.iastore, 1) := by decide +kernel
theorem dX7_adds_125 : decode cX7_adds 125 = .ok (.aload_n 0, 1) := by decide +kernel
theorem dX7_adds_126 : decode cX7_adds 126 = .ok (.getfield 7, 3) := by decide +kernel
theorem dX7_adds_129 : decode cX7_adds 129 = .ok (.iload_n 3, 1) := by decide +kernel
theorem dX7_adds_130 : decode cX7_adds 130 = .ok (.iconst 2, 1) := by decide +kernel
theorem dX7_adds_131 : decode cX7_adds 131 = .ok (.iadd, 1) := by decide +kernel
theorem dX7_adds_132 : decode cX7_adds 132 = .ok (.iload_n 2, 1) := by decide +kernel
theorem dX7_adds_133 : decode cX7_adds 133 = .ok (.iastore, 1) := by decide +kernel
theorem dX7_adds_134 : decode cX7_adds 134 = .ok (.aload_n 0, 1) := by decide +kernel
theorem dX7_adds_135 : decode cX7_adds 135 = .ok (.getfield 7, 3) := by decide +kernel
theorem dX7_adds_138 : decode cX7_adds 138 = .ok (.iload_n 3, 1) := by decide +kernel
theorem dX7_adds_139 : decode cX7_adds 139 = .ok (.iconst 3, 1) := by decide +kernel
theorem dX7_adds_140 : decode cX7_adds 140 = .ok (.iadd, 1) := by decide +kernel
theorem dX7_adds_141 : decode cX7_adds 141 = .ok (.aload_n 0, 1) := by decide +kernel
theorem dX7_adds_142 : decode cX7_adds 142 = .ok (.getfield 7, 3) := by decide +kernel
theorem dX7_adds_145 : decode cX7_adds 145 = .ok (.bipush 7, 2) := by decide +kernel
theorem dX7_adds_147 : decode cX7_adds 147 = .ok (.iaload, 1) := by decide +kernel
theorem dX7_adds_148 : decode cX7_adds 148 = .ok (.iastore, 1) := by decide +kernel
theorem dX7_adds_149 : decode cX7_adds 149 = .ok (.aload_n 0, 1) := by decide +kernel
theorem dX7_adds_150 : decode cX7_adds 150 = .ok (.getfield 7, 3) := by decide +kernel
theorem dX7_adds_153 : decode cX7_adds 153 = .ok (.iload_n 3, 1) := by decide +kernel
theorem dX7_adds_154 : decode cX7_adds 154 = .ok (.iconst 4, 1) := by decide +kernel
theorem dX7_adds_155 : decode cX7_adds 155 = .ok (.iadd, 1) := by decide +kernel
theorem dX7_adds_156 : decode cX7_adds 156 = .ok (.iconst (-1), 1) := by decide +kernel
theorem dX7_adds_157 : decode cX7_adds 157 = .ok (.iastore, 1) := by decide +kernel
theorem dX7_adds_158 : decode cX7_adds 158 = .ok (.aload_n 0, 1) := by decide +kernel
theorem dX7_adds_159 : decode cX7_adds 159 = .ok (.getfield 7, 3) := by decide +kernel
theorem dX7_adds_162 : decode cX7_adds 162 = .ok (.iload_n 3, 1) := by decide +kernel
theorem dX7_adds_163 : decode cX7_adds 163 = .ok (.bipush 6, 2) := by decide +kernel
theorem dX7_adds_165 : decode cX7_adds 165 = .ok (.iadd, 1) := by decide +kernel
theorem dX7_adds_166 : decode cX7_adds 166 = .ok (.iconst (-1), 1) := by decide +kernel
theorem dX7_adds_167 : decode cX7_adds 167 = .ok (.iastore, 1) := by decide +kernel
theorem dX7_adds_168 : decode cX7_adds 168 = .ok (.aload_n 0, 1) := by decide +kernel
theorem dX7_adds_169 : decode cX7_adds 169 = .ok (.getfield 7, 3) := by decide +kernel
theorem dX7_adds_172 : decode cX7_adds 172 = .ok (.bipush 14, 2) := by decide +kernel
theorem dX7_adds_174 : decode cX7_adds 174 = .ok (.dup2, 1) := by decide +kernel
theorem dX7_adds_175 : decode cX7_adds 175 = .ok (.iaload, 1) := by decide +kernel
theorem dX7_adds_176 : decode cX7_adds 176 = .ok (.iconst 1, 1) := by decide +kernel
theorem dX7_adds_177 : decode cX7_adds 177 = .ok (.iadd, 1) := by decide +kernel
theorem dX7_adds_178 : decode cX7_adds 178 = .ok (.iastore, 1) := by decide +kernel
theorem dX7_adds_179 : decode cX7_adds 179 = .ok (.aload_n 0, 1) := by decide +kernel
theorem dX7_adds_180 : decode cX7_adds 180 = .ok (.getfield 7, 3) := by decide +kernel
theorem dX7_adds_183 : decode cX7_adds 183 = .ok (.bipush 8, 2) := by decide +kernel
theorem dX7_adds_185 : decode cX7_adds 185 = .ok (.dup2, 1) := by decide +kernel
theorem dX7_adds_186 : decode cX7_adds 186 = .ok (.iaload, 1) := by decide +kernel
theorem dX7_adds_187 : decode cX7_adds 187 = .ok (.iconst 1, 1) := by decide +kernel
theorem dX7_adds_188 : decode cX7_adds 188 = .ok (.iadd, 1) := by decide +kernel
theorem dX7_adds_189 : decode cX7_adds 189 = .ok (.iastore, 1) := by decide +kernel
theorem dX7_adds_190 : decode cX7_adds 190 = .ok (.aload_n 0, 1) := by decide +kernel
theorem dX7_adds_191 : decode cX7_adds 191 = .ok (.getfield 7, 3) := by decide +kernel
theorem dX7_adds_194 : decode cX7_adds 194 = .ok (.bipush 8, 2) := by decide +kernel
theorem dX7_adds_196 : decode cX7_adds 196 = .ok (.iaload, 1) := by decide +kernel
theorem dX7_adds_197 : decode cX7_adds 197 = .ok (.iconst 1, 1) := by decide +kernel
theorem dX7_adds_198 : decode cX7_adds 198 = .ok (.isub, 1) := by decide +kernel
theorem dX7_adds_199 : decode cX7_adds 199 = .ok (.ireturn, 1) := by decide +kernel
theorem dX7_asksFor_0 : decode cX7_asksFor 0 = .ok (.iload_n 1, 1) := by decide +kernel
theorem dX7_asksFor_1 : decode cX7_asksFor 1 = .ok (.iconst 0, 1) := by decide +kernel
theorem dX7_asksFor_2 : decode cX7_asksFor 2 = .ok (.aload_n 0, 1) := by decide +kernel
theorem dX7_asksFor_3 : decode cX7_asksFor 3 = .ok (.getfield 7, 3) := by decide +kernel
theorem dX7_asksFor_6 : decode cX7_asksFor 6 = .ok (.bipush 8, 2) := by decide +kernel
theorem dX7_asksFor_8 : decode cX7_asksFor 8 = .ok (.iaload, 1) := by decide +kernel
theorem dX7_asksFor_9 : decode cX7_asksFor 9 = .ok (.iconst 1, 1) := by decide +kernel
theorem dX7_asksFor_10 : decode cX7_asksFor 10 = .ok (.isub, 1) := by decide +kernel
theorem dX7_asksFor_11 : decode cX7_asksFor 11 = .ok (.invokestatic 86, 3) := by decide +kernel
theorem dX7_asksFor_14 : decode cX7_asksFor 14 = .ok (.ifCond .ne 5, 3) := by decide +kernel
theorem dX7_asksFor_17 : decode cX7_asksFor 17 = .ok (.iconst (-1), 1) := by decide +kernel
theorem dX7_asksFor_18 : decode cX7_asksFor 18 = .ok (.ireturn, 1) := by decide +kernel
theorem dX7_asksFor_19 : decode cX7_asksFor 19 = .ok (.aload_n 0, 1) := by decide +kernel
theorem dX7_asksFor_20 : decode cX7_asksFor 20 = .ok (.iload_n 1, 1) := by decide +kernel
theorem dX7_asksFor_21 : decode cX7_asksFor 21 = .ok (.invokevirtual 60, 3) := by decide +kernel
theorem dX7_asksFor_24 : decode cX7_asksFor 24 = .ok (.istore_n 2, 1) := by decide +kernel
theorem dX7_asksFor_25 : decode cX7_asksFor 25 = .ok (.iload_n 2, 1) := by decide +kernel
theorem dX7_asksFor_26 : decode cX7_asksFor 26 = .ok (.iconst (-1), 1) := by decide +kernel
theorem dX7_asksFor_27 : decode cX7_asksFor 27 = .ok (.if_icmp .ne 17, 3) := by decide +kernel
theorem dX7_asksFor_30 : decode cX7_asksFor 30 = .ok (.aload_n 0, 1) := by decide +kernel
theorem dX7_asksFor_31 : decode cX7_asksFor 31 = .ok (.getfield 7, 3) := by decide +kernel
theorem dX7_asksFor_34 : decode cX7_asksFor 34 = .ok (.bipush 12, 2) := by decide +kernel
theorem dX7_asksFor_36 : decode cX7_asksFor 36 = .ok (.dup2, 1) := by decide +kernel
theorem dX7_asksFor_37 : decode cX7_asksFor 37 = .ok (.iaload, 1) := by decide +kernel
theorem dX7_asksFor_38 : decode cX7_asksFor 38 = .ok (.iconst 1, 1) := by decide +kernel
theorem dX7_asksFor_39 : decode cX7_asksFor 39 = .ok (.iadd, 1) := by decide +kernel
theorem dX7_asksFor_40 : decode cX7_asksFor 40 = .ok (.iastore, 1) := by decide +kernel
theorem dX7_asksFor_41 : decode cX7_asksFor 41 = .ok (.bipush (-6), 2) := by decide +kernel
theorem dX7_asksFor_43 : decode cX7_asksFor 43 = .ok (.ireturn, 1) := by decide +kernel
theorem dX7_asksFor_44 : decode cX7_asksFor 44 = .ok (.aload_n 0, 1) := by decide +kernel
theorem dX7_asksFor_45 : decode cX7_asksFor 45 = .ok (.iload_n 2, 1) := by decide +kernel
theorem dX7_asksFor_46 : decode cX7_asksFor 46 = .ok (.invokevirtual 73, 3) := by decide +kernel
theorem dX7_asksFor_49 : decode cX7_asksFor 49 = .ok (.ireturn, 1) := by decide +kernel
theorem dX7_seals_0 : decode cX7_seals 0 = .ok (.aload_n 0, 1) := by decide +kernel
theorem dX7_seals_1 : decode cX7_seals 1 = .ok (.iload_n 2, 1) := by decide +kernel
theorem dX7_seals_2 : decode cX7_seals 2 = .ok (.invokevirtual 60, 3) := by decide +kernel
theorem dX7_seals_5 : decode cX7_seals 5 = .ok (.istore 4, 2) := by decide +kernel
theorem dX7_seals_7 : decode cX7_seals 7 = .ok (.iload_n 1, 1) := by decide +kernel
theorem dX7_seals_8 : decode cX7_seals 8 = .ok (.iconst 0, 1) := by decide +kernel
theorem dX7_seals_9 : decode cX7_seals 9 = .ok (.bipush 7, 2) := by decide +kernel
theorem dX7_seals_11 : decode cX7_seals 11 = .ok (.invokestatic 86, 3) := by decide +kernel
theorem dX7_seals_14 : decode cX7_seals 14 = .ok (.ifCond .eq 9, 3) := by decide +kernel
theorem dX7_seals_17 : decode cX7_seals 17 = .ok (.iload 4, 2) := by decide +kernel
theorem dX7_seals_19 : decode cX7_seals 19 = .ok (.iconst (-1), 1) := by decide +kernel
theorem dX7_seals_20 : decode cX7_seals 20 = .ok (.if_icmp .ne 5, 3) := by decide +kernel
theorem dX7_seals_23 : decode cX7_seals 23 = .ok (.iconst (-1), 1) := by decide +kernel
theorem dX7_seals_24 : decode cX7_seals 24 = .ok (.ireturn, 1) := by decide +kernel
theorem dX7_seals_25 : decode cX7_seals 25 = .ok (.iload_n 3, 1) := by decide +kernel
theorem dX7_seals_26 : decode cX7_seals 26 = .ok (.iconst (-1), 1) := by decide +kernel
theorem dX7_seals_27 : decode cX7_seals 27 = .ok (.if_icmp .eq 23, 3) := by decide +kernel
theorem dX7_seals_30 : decode cX7_seals 30 = .ok (.iload_n 3, 1) := by decide +kernel
theorem dX7_seals_31 : decode cX7_seals 31 = .ok (.aload_n 0, 1) := by decide +kernel
theorem dX7_seals_32 : decode cX7_seals 32 = .ok (.getfield 7, 3) := by decide +kernel
theorem dX7_seals_35 : decode cX7_seals 35 = .ok (.bipush 7, 2) := by decide +kernel
theorem dX7_seals_37 : decode cX7_seals 37 = .ok (.iaload, 1) := by decide +kernel
theorem dX7_seals_38 : decode cX7_seals 38 = .ok (.sipush 9999, 3) := by decide +kernel
theorem dX7_seals_41 : decode cX7_seals 41 = .ok (.invokestatic 86, 3) := by decide +kernel
theorem dX7_seals_44 : decode cX7_seals 44 = .ok (.ifCond .ne 6, 3) := by decide +kernel
theorem dX7_seals_47 : decode cX7_seals 47 = .ok (.bipush (-2), 2) := by decide +kernel
theorem dX7_seals_49 : decode cX7_seals 49 = .ok (.ireturn, 1) := by decide +kernel
theorem dX7_seals_50 : decode cX7_seals 50 = .ok (.aload_n 0, 1) := by decide +kernel
theorem dX7_seals_51 : decode cX7_seals 51 = .ok (.getfield 7, 3) := by decide +kernel
theorem dX7_seals_54 : decode cX7_seals 54 = .ok (.iload 4, 2) := by decide +kernel
theorem dX7_seals_56 : decode cX7_seals 56 = .ok (.invokestatic 36, 3) := by decide +kernel
theorem dX7_seals_59 : decode cX7_seals 59 = .ok (.bipush 7, 2) := by decide +kernel
theorem dX7_seals_61 : decode cX7_seals 61 = .ok (.iadd, 1) := by decide +kernel
theorem dX7_seals_62 : decode cX7_seals 62 = .ok (.iload_n 1, 1) := by decide +kernel
theorem dX7_seals_63 : decode cX7_seals 63 = .ok (.iadd, 1) := by decide +kernel
theorem dX7_seals_64 : decode cX7_seals 64 = .ok (.iload_n 3, 1) := by decide +kernel
theorem dX7_seals_65 : decode cX7_seals 65 = .ok (.iconst (-1), 1) := by decide +kernel
theorem dX7_seals_66 : decode cX7_seals 66 = .ok (.if_icmp .ne 9, 3) := by decide +kernel
theorem dX7_seals_69 : decode cX7_seals 69 = .ok (.sipush 10001, 3) := by decide +kernel
theorem dX7_seals_72 : decode cX7_seals 72 = .ok (.goto 6, 3) := by decide +kernel
theorem dX7_seals_75 : decode cX7_seals 75 = .ok (.iload_n 3, 1) := by decide +kernel
theorem dX7_seals_76 : decode cX7_seals 76 = .ok (.iconst 1, 1) := by decide +kernel
theorem dX7_seals_77 : decode cX7_seals 77 = .ok (.iadd, 1) := by decide +kernel
theorem dX7_seals_78 : decode cX7_seals 78 = .ok (.iastore, 1) := by decide +kernel
theorem dX7_seals_79 : decode cX7_seals 79 = .ok (.aload_n 0, 1) := by decide +kernel
theorem dX7_seals_80 : decode cX7_seals 80 = .ok (.iload 4, 2) := by decide +kernel
theorem dX7_seals_82 : decode cX7_seals 82 = .ok (.invokevirtual 51, 3) := by decide +kernel
theorem dX7_seals_85 : decode cX7_seals 85 = .ok (.invokestatic 93, 3) := by decide +kernel
theorem dX7_seals_88 : decode cX7_seals 88 = .ok (.ireturn, 1) := by decide +kernel
theorem dX7_lifts_0 : decode cX7_lifts 0 = .ok (.aload_n 0, 1) := by decide +kernel
theorem dX7_lifts_1 : decode cX7_lifts 1 = .ok (.iload_n 2, 1) := by decide +kernel
theorem dX7_lifts_2 : decode cX7_lifts 2 = .ok (.invokevirtual 60, 3) := by decide +kernel
theorem dX7_lifts_5 : decode cX7_lifts 5 = .ok (.istore_n 3, 1) := by decide +kernel
theorem dX7_lifts_6 : decode cX7_lifts 6 = .ok (.iload_n 1, 1) := by decide +kernel
theorem dX7_lifts_7 : decode cX7_lifts 7 = .ok (.iconst 0, 1) := by decide +kernel
theorem dX7_lifts_8 : decode cX7_lifts 8 = .ok (.bipush 7, 2) := by decide +kernel
theorem dX7_lifts_10 : decode cX7_lifts 10 = .ok (.invokestatic 86, 3) := by decide +kernel
theorem dX7_lifts_13 : decode cX7_lifts 13 = .ok (.ifCond .eq 25, 3) := by decide +kernel
theorem dX7_lifts_16 : decode cX7_lifts 16 = .ok (.iload_n 3, 1) := by decide +kernel
theorem dX7_lifts_17 : decode cX7_lifts 17 = .ok (.iconst (-1), 1) := by decide +kernel
theorem dX7_lifts_18 : decode cX7_lifts 18 = .ok (.if_icmp .eq 20, 3) := by decide +kernel
theorem dX7_lifts_21 : decode cX7_lifts 21 = .ok (.aload_n 0, 1) := by decide +kernel
theorem dX7_lifts_22 : decode cX7_lifts 22 = .ok (.getfield 7, 3) := by decide +kernel
theorem dX7_lifts_25 : decode cX7_lifts 25 = .ok (.iload_n 3, 1) := by decide +kernel
theorem dX7_lifts_26 : decode cX7_lifts 26 = .ok (.invokestatic 36, 3) := by decide +kernel
theorem dX7_lifts_29 : decode cX7_lifts 29 = .ok (.bipush 7, 2) := by decide +kernel
theorem dX7_lifts_31 : decode cX7_lifts 31 = .ok (.iadd, 1) := by decide +kernel
theorem dX7_lifts_32 : decode cX7_lifts 32 = .ok (.iload_n 1, 1) := by decide +kernel
theorem dX7_lifts_33 : decode cX7_lifts 33 = .ok (.iadd, 1) := by decide +kernel
theorem dX7_lifts_34 : decode cX7_lifts 34 = .ok (.iaload, 1) := by decide +kernel
theorem dX7_lifts_35 : decode cX7_lifts 35 = .ok (.ifCond .ne 5, 3) := by decide +kernel
theorem dX7_lifts_38 : decode cX7_lifts 38 = .ok (.iconst (-1), 1) := by decide +kernel
theorem dX7_lifts_39 : decode cX7_lifts 39 = .ok (.ireturn, 1) := by decide +kernel
theorem dX7_lifts_40 : decode cX7_lifts 40 = .ok (.aload_n 0, 1) := by decide +kernel
theorem dX7_lifts_41 : decode cX7_lifts 41 = .ok (.getfield 7, 3) := by decide +kernel
theorem dX7_lifts_44 : decode cX7_lifts 44 = .ok (.iload_n 3, 1) := by decide +kernel
theorem dX7_lifts_45 : decode cX7_lifts 45 = .ok (.invokestatic 36, 3) := by decide +kernel
theorem dX7_lifts_48 : decode cX7_lifts 48 = .ok (.bipush 7, 2) := by decide +kernel
theorem dX7_lifts_50 : decode cX7_lifts 50 = .ok (.iadd, 1) := by decide +kernel
theorem dX7_lifts_51 : decode cX7_lifts 51 = .ok (.iload_n 1, 1) := by decide +kernel
theorem dX7_lifts_52 : decode cX7_lifts 52 = .ok (.iadd, 1) := by decide +kernel
theorem dX7_lifts_53 : decode cX7_lifts 53 = .ok (.iconst 0, 1) := by decide +kernel
theorem dX7_lifts_54 : decode cX7_lifts 54 = .ok (.iastore, 1) := by decide +kernel
theorem dX7_lifts_55 : decode cX7_lifts 55 = .ok (.aload_n 0, 1) := by decide +kernel
theorem dX7_lifts_56 : decode cX7_lifts 56 = .ok (.iload_n 3, 1) := by decide +kernel
theorem dX7_lifts_57 : decode cX7_lifts 57 = .ok (.invokevirtual 51, 3) := by decide +kernel
theorem dX7_lifts_60 : decode cX7_lifts 60 = .ok (.invokestatic 93, 3) := by decide +kernel
theorem dX7_lifts_63 : decode cX7_lifts 63 = .ok (.ireturn, 1) := by decide +kernel
theorem dX7_refers_0 : decode cX7_refers 0 = .ok (.aload_n 0, 1) := by decide +kernel
theorem dX7_refers_1 : decode cX7_refers 1 = .ok (.iload_n 1, 1) := by decide +kernel
theorem dX7_refers_2 : decode cX7_refers 2 = .ok (.invokevirtual 60, 3) := by decide +kernel
theorem dX7_refers_5 : decode cX7_refers 5 = .ok (.istore_n 3, 1) := by decide +kernel
theorem dX7_refers_6 : decode cX7_refers 6 = .ok (.iload_n 3, 1) := by decide +kernel
theorem dX7_refers_7 : decode cX7_refers 7 = .ok (.iconst (-1), 1) := by decide +kernel
theorem dX7_refers_8 : decode cX7_refers 8 = .ok (.if_icmp .eq 12, 3) := by decide +kernel
theorem dX7_refers_11 : decode cX7_refers 11 = .ok (.aload_n 0, 1) := by decide +kernel
theorem dX7_refers_12 : decode cX7_refers 12 = .ok (.iload_n 2, 1) := by decide +kernel
theorem dX7_refers_13 : decode cX7_refers 13 = .ok (.invokevirtual 60, 3) := by decide +kernel
theorem dX7_refers_16 : decode cX7_refers 16 = .ok (.iconst (-1), 1) := by decide +kernel
theorem dX7_refers_17 : decode cX7_refers 17 = .ok (.if_icmp .ne 5, 3) := by decide +kernel
theorem dX7_refers_20 : decode cX7_refers 20 = .ok (.iconst (-1), 1) := by decide +kernel
theorem dX7_refers_21 : decode cX7_refers 21 = .ok (.ireturn, 1) := by decide +kernel
theorem dX7_refers_22 : decode cX7_refers 22 = .ok (.aload_n 0, 1) := by decide +kernel
theorem dX7_refers_23 : decode cX7_refers 23 = .ok (.getfield 7, 3) := by decide +kernel
theorem dX7_refers_26 : decode cX7_refers 26 = .ok (.iload_n 3, 1) := by decide +kernel
theorem dX7_refers_27 : decode cX7_refers 27 = .ok (.invokestatic 36, 3) := by decide +kernel
theorem dX7_refers_30 : decode cX7_refers 30 = .ok (.bipush 6, 2) := by decide +kernel
theorem dX7_refers_32 : decode cX7_refers 32 = .ok (.iadd, 1) := by decide +kernel
theorem dX7_refers_33 : decode cX7_refers 33 = .ok (.iload_n 2, 1) := by decide +kernel
theorem dX7_refers_34 : decode cX7_refers 34 = .ok (.iastore, 1) := by decide +kernel
theorem dX7_refers_35 : decode cX7_refers 35 = .ok (.aload_n 0, 1) := by decide +kernel
theorem dX7_refers_36 : decode cX7_refers 36 = .ok (.iload_n 2, 1) := by decide +kernel
theorem dX7_refers_37 : decode cX7_refers 37 = .ok (.invokevirtual 96, 3) := by decide +kernel
theorem dX7_refers_40 : decode cX7_refers 40 = .ok (.ireturn, 1) := by decide +kernel
theorem dX7_passes_0 : decode cX7_passes 0 = .ok (.iload_n 1, 1) := by decide +kernel
theorem dX7_passes_1 : decode cX7_passes 1 = .ok (.iconst 1, 1) := by decide +kernel
theorem dX7_passes_2 : decode cX7_passes 2 = .ok (.sipush 400, 3) := by decide +kernel
theorem dX7_passes_5 : decode cX7_passes 5 = .ok (.invokestatic 86, 3) := by decide +kernel
theorem dX7_passes_8 : decode cX7_passes 8 = .ok (.ifCond .ne 6, 3) := by decide +kernel
theorem dX7_passes_11 : decode cX7_passes 11 = .ok (.bipush (-2), 2) := by decide +kernel
theorem dX7_passes_13 : decode cX7_passes 13 = .ok (.ireturn, 1) := by decide +kernel
theorem dX7_passes_14 : decode cX7_passes 14 = .ok (.aload_n 0, 1) := by decide +kernel
theorem dX7_passes_15 : decode cX7_passes 15 = .ok (.getfield 7, 3) := by decide +kernel
theorem dX7_passes_18 : decode cX7_passes 18 = .ok (.bipush 7, 2) := by decide +kernel
theorem dX7_passes_20 : decode cX7_passes 20 = .ok (.iaload, 1) := by decide +kernel
theorem dX7_passes_21 : decode cX7_passes 21 = .ok (.iload_n 1, 1) := by decide +kernel
theorem dX7_passes_22 : decode cX7_passes 22 = .ok (.iadd, 1) := by decide +kernel
theorem dX7_passes_23 : decode cX7_passes 23 = .ok (.sipush 9999, 3) := by decide +kernel
theorem dX7_passes_26 : decode cX7_passes 26 = .ok (.if_icmp .le 6, 3) := by decide +kernel
theorem dX7_passes_29 : decode cX7_passes 29 = .ok (.bipush (-5), 2) := by decide +kernel
theorem dX7_passes_31 : decode cX7_passes 31 = .ok (.ireturn, 1) := by decide +kernel
theorem dX7_passes_32 : decode cX7_passes 32 = .ok (.iconst 0, 1) := by decide +kernel
theorem dX7_passes_33 : decode cX7_passes 33 = .ok (.istore_n 2, 1) := by decide +kernel
theorem dX7_passes_34 : decode cX7_passes 34 = .ok (.iconst 0, 1) := by decide +kernel
theorem dX7_passes_35 : decode cX7_passes 35 = .ok (.istore_n 3, 1) := by decide +kernel
theorem dX7_passes_36 : decode cX7_passes 36 = .ok (.iload_n 3, 1) := by decide +kernel
theorem dX7_passes_37 : decode cX7_passes 37 = .ok (.iload_n 1, 1) := by decide +kernel
theorem dX7_passes_38 : decode cX7_passes 38 = .ok (.if_icmp .ge 16, 3) := by decide +kernel
theorem dX7_passes_41 : decode cX7_passes 41 = .ok (.iload_n 2, 1) := by decide +kernel
theorem dX7_passes_42 : decode cX7_passes 42 = .ok (.aload_n 0, 1) := by decide +kernel
theorem dX7_passes_43 : decode cX7_passes 43 = .ok (.invokevirtual 99, 3) := by decide +kernel
theorem dX7_passes_46 : decode cX7_passes 46 = .ok (.iadd, 1) := by decide +kernel
theorem dX7_passes_47 : decode cX7_passes 47 = .ok (.istore_n 2, 1) := by decide +kernel
theorem dX7_passes_48 : decode cX7_passes 48 = .ok (.iinc 3 1, 3) := by decide +kernel
theorem dX7_passes_51 : decode cX7_passes 51 = .ok (.goto (-15), 3) := by decide +kernel
theorem dX7_passes_54 : decode cX7_passes 54 = .ok (.iload_n 2, 1) := by decide +kernel
theorem dX7_passes_55 : decode cX7_passes 55 = .ok (.ireturn, 1) := by decide +kernel
theorem dX7_add_0 : decode cX7_add 0 = .ok (.aload_n 0, 1) := by decide +kernel
theorem dX7_add_1 : decode cX7_add 1 = .ok (.invokevirtual 102, 3) := by decide +kernel
theorem dX7_add_4 : decode cX7_add 4 = .ok (.aload_n 0, 1) := by decide +kernel
theorem dX7_add_5 : decode cX7_add 5 = .ok (.aload_n 0, 1) := by decide +kernel
theorem dX7_add_6 : decode cX7_add 6 = .ok (.iload_n 1, 1) := by decide +kernel
theorem dX7_add_7 : decode cX7_add 7 = .ok (.iload_n 2, 1) := by decide +kernel
theorem dX7_add_8 : decode cX7_add 8 = .ok (.invokevirtual 105, 3) := by decide +kernel
theorem dX7_add_11 : decode cX7_add 11 = .ok (.invokevirtual 109, 3) := by decide +kernel
theorem dX7_add_14 : decode cX7_add 14 = .ok (.ireturn, 1) := by decide +kernel
theorem dX7_ask_0 : decode cX7_ask 0 = .ok (.aload_n 0, 1) := by decide +kernel
theorem dX7_ask_1 : decode cX7_ask 1 = .ok (.invokevirtual 102, 3) := by decide +kernel
theorem dX7_ask_4 : decode cX7_ask 4 = .ok (.aload_n 0, 1) := by decide +kernel
theorem dX7_ask_5 : decode cX7_ask 5 = .ok (.aload_n 0, 1) := by decide +kernel
theorem dX7_ask_6 : decode cX7_ask 6 = .ok (.iload_n 1, 1) := by decide +kernel
theorem dX7_ask_7 : decode cX7_ask 7 = .ok (.invokevirtual 112, 3) := by decide +kernel
theorem dX7_ask_10 : decode cX7_ask 10 = .ok (.invokevirtual 109, 3) := by decide +kernel
theorem dX7_ask_13 : decode cX7_ask 13 = .ok (.ireturn, 1) := by decide +kernel
theorem dX7_seal_0 : decode cX7_seal 0 = .ok (.aload_n 0, 1) := by decide +kernel
theorem dX7_seal_1 : decode cX7_seal 1 = .ok (.invokevirtual 102, 3) := by decide +kernel
theorem dX7_seal_4 : decode cX7_seal 4 = .ok (.aload_n 0, 1) := by decide +kernel
theorem dX7_seal_5 : decode cX7_seal 5 = .ok (.aload_n 0, 1) := by decide +kernel
theorem dX7_seal_6 : decode cX7_seal 6 = .ok (.iload_n 1, 1) := by decide +kernel
theorem dX7_seal_7 : decode cX7_seal 7 = .ok (.iload_n 2, 1) := by decide +kernel
theorem dX7_seal_8 : decode cX7_seal 8 = .ok (.iload_n 3, 1) := by decide +kernel
theorem dX7_seal_9 : decode cX7_seal 9 = .ok (.invokevirtual 115, 3) := by decide +kernel
theorem dX7_seal_12 : decode cX7_seal 12 = .ok (.invokevirtual 109, 3) := by decide +kernel
theorem dX7_seal_15 : decode cX7_seal 15 = .ok (.ireturn, 1) := by decide +kernel
theorem dX7_lift_0 : decode cX7_lift 0 = .ok (.aload_n 0, 1) := by decide +kernel
theorem dX7_lift_1 : decode cX7_lift 1 = .ok (.invokevirtual 102, 3) := by decide +kernel
theorem dX7_lift_4 : decode cX7_lift 4 = .ok (.aload_n 0, 1) := by decide +kernel
theorem dX7_lift_5 : decode cX7_lift 5 = .ok (.aload_n 0, 1) := by decide +kernel
theorem dX7_lift_6 : decode cX7_lift 6 = .ok (.iload_n 1, 1) := by decide +kernel
theorem dX7_lift_7 : decode cX7_lift 7 = .ok (.iload_n 2, 1) := by decide +kernel
theorem dX7_lift_8 : decode cX7_lift 8 = .ok (.invokevirtual 119, 3) := by decide +kernel
theorem dX7_lift_11 : decode cX7_lift 11 = .ok (.invokevirtual 109, 3) := by decide +kernel
theorem dX7_lift_14 : decode cX7_lift 14 = .ok (.ireturn, 1) := by decide +kernel
theorem dX7_refer_0 : decode cX7_refer 0 = .ok (.aload_n 0, 1) := by decide +kernel
theorem dX7_refer_1 : decode cX7_refer 1 = .ok (.invokevirtual 102, 3) := by decide +kernel
theorem dX7_refer_4 : decode cX7_refer 4 = .ok (.aload_n 0, 1) := by decide +kernel
theorem dX7_refer_5 : decode cX7_refer 5 = .ok (.aload_n 0, 1) := by decide +kernel
theorem dX7_refer_6 : decode cX7_refer 6 = .ok (.iload_n 1, 1) := by decide +kernel
theorem dX7_refer_7 : decode cX7_refer 7 = .ok (.iload_n 2, 1) := by decide +kernel
theorem dX7_refer_8 : decode cX7_refer 8 = .ok (.invokevirtual 122, 3) := by decide +kernel
theorem dX7_refer_11 : decode cX7_refer 11 = .ok (.invokevirtual 109, 3) := by decide +kernel
theorem dX7_refer_14 : decode cX7_refer 14 = .ok (.ireturn, 1) := by decide +kernel
theorem dX7_find_0 : decode cX7_find 0 = .ok (.iconst (-1), 1) := by decide +kernel
theorem dX7_find_1 : decode cX7_find 1 = .ok (.istore_n 3, 1) := by decide +kernel
theorem dX7_find_2 : decode cX7_find 2 = .ok (.iconst 0, 1) := by decide +kernel
theorem dX7_find_3 : decode cX7_find 3 = .ok (.istore 4, 2) := by decide +kernel
theorem dX7_find_5 : decode cX7_find 5 = .ok (.iload 4, 2) := by decide +kernel
theorem dX7_find_7 : decode cX7_find 7 = .ok (.aload_n 0, 1) := by decide +kernel
theorem dX7_find_8 : decode cX7_find 8 = .ok (.getfield 7, 3) := by decide +kernel
theorem dX7_find_11 : decode cX7_find 11 = .ok (.bipush 15, 2) := by decide +kernel
theorem dX7_find_13 : decode cX7_find 13 = .ok (.iaload, 1) := by decide +kernel
theorem dX7_find_14 : decode cX7_find 14 = .ok (.if_icmp .ge 52, 3) := by decide +kernel
theorem dX7_find_17 : decode cX7_find 17 = .ok (.aload_n 0, 1) := by decide +kernel
theorem dX7_find_18 : decode cX7_find 18 = .ok (.getfield 7, 3) := by decide +kernel
theorem dX7_find_21 : decode cX7_find 21 = .ok (.sipush 377, 3) := by decide +kernel
theorem dX7_find_24 : decode cX7_find 24 = .ok (.iconst 2, 1) := by decide +kernel
theorem dX7_find_25 : decode cX7_find 25 = .ok (.iload 4, 2) := by decide +kernel
theorem dX7_find_27 : decode cX7_find 27 = .ok (.imul, 1) := by decide +kernel
theorem dX7_find_28 : decode cX7_find 28 = .ok (.iadd, 1) := by decide +kernel
theorem dX7_find_29 : decode cX7_find 29 = .ok (.iaload, 1) := by decide +kernel
theorem dX7_find_30 : decode cX7_find 30 = .ok (.iload_n 1, 1) := by decide +kernel
theorem dX7_find_31 : decode cX7_find 31 = .ok (.if_icmp .ne 27, 3) := by decide +kernel
theorem dX7_find_34 : decode cX7_find 34 = .ok (.aload_n 0, 1) := by decide +kernel
theorem dX7_find_35 : decode cX7_find 35 = .ok (.getfield 7, 3) := by decide +kernel
theorem dX7_find_38 : decode cX7_find 38 = .ok (.sipush 377, 3) := by decide +kernel
theorem dX7_find_41 : decode cX7_find 41 = .ok (.iconst 2, 1) := by decide +kernel
theorem dX7_find_42 : decode cX7_find 42 = .ok (.iload 4, 2) := by decide +kernel
theorem dX7_find_44 : decode cX7_find 44 = .ok (.imul, 1) := by decide +kernel
theorem dX7_find_45 : decode cX7_find 45 = .ok (.iadd, 1) := by decide +kernel
theorem dX7_find_46 : decode cX7_find 46 = .ok (.iconst 1, 1) := by decide +kernel
theorem dX7_find_47 : decode cX7_find 47 = .ok (.iadd, 1) := by decide +kernel
theorem dX7_find_48 : decode cX7_find 48 = .ok (.iaload, 1) := by decide +kernel
theorem dX7_find_49 : decode cX7_find 49 = .ok (.iload_n 2, 1) := by decide +kernel
theorem dX7_find_50 : decode cX7_find 50 = .ok (.if_icmp .ne 8, 3) := by decide +kernel
theorem dX7_find_53 : decode cX7_find 53 = .ok (.iload 4, 2) := by decide +kernel
theorem dX7_find_55 : decode cX7_find 55 = .ok (.goto 4, 3) := by decide +kernel
theorem dX7_find_58 : decode cX7_find 58 = .ok (.iload_n 3, 1) := by decide +kernel
theorem dX7_find_59 : decode cX7_find 59 = .ok (.istore_n 3, 1) := by decide +kernel
theorem dX7_find_60 : decode cX7_find 60 = .ok (.iinc 4 1, 3) := by decide +kernel
theorem dX7_find_63 : decode cX7_find 63 = .ok (.goto (-58), 3) := by decide +kernel
theorem dX7_find_66 : decode cX7_find 66 = .ok (.iload_n 3, 1) := by decide +kernel
theorem dX7_find_67 : decode cX7_find 67 = .ok (.ireturn, 1) := by decide +kernel
theorem dX7_reserve_0 : decode cX7_reserve 0 = .ok (.aload_n 0, 1) := by decide +kernel
theorem dX7_reserve_1 : decode cX7_reserve 1 = .ok (.iload_n 1, 1) := by decide +kernel
theorem dX7_reserve_2 : decode cX7_reserve 2 = .ok (.invokevirtual 60, 3) := by decide +kernel
theorem dX7_reserve_5 : decode cX7_reserve 5 = .ok (.iconst (-1), 1) := by decide +kernel
theorem dX7_reserve_6 : decode cX7_reserve 6 = .ok (.if_icmp .ne 5, 3) := by decide +kernel
theorem dX7_reserve_9 : decode cX7_reserve 9 = .ok (.iconst (-1), 1) := by decide +kernel
theorem dX7_reserve_10 : decode cX7_reserve 10 = .ok (.ireturn, 1) := by decide +kernel
theorem dX7_reserve_11 : decode cX7_reserve 11 = .ok (.iload_n 2, 1) := by decide +kernel
theorem dX7_reserve_12 : decode cX7_reserve 12 = .ok (.aload_n 0, 1) := by decide +kernel
theorem dX7_reserve_13 : decode cX7_reserve 13 = .ok (.getfield 7, 3) := by decide +kernel
theorem dX7_reserve_16 : decode cX7_reserve 16 = .ok (.bipush 7, 2) := by decide +kernel
theorem dX7_reserve_18 : decode cX7_reserve 18 = .ok (.iaload, 1) := by decide +kernel
theorem dX7_reserve_19 : decode cX7_reserve 19 = .ok (.iconst 1, 1) := by decide +kernel
theorem dX7_reserve_20 : decode cX7_reserve 20 = .ok (.iadd, 1) := by decide +kernel
theorem dX7_reserve_21 : decode cX7_reserve 21 = .ok (.sipush 9999, 3) := by decide +kernel
theorem dX7_reserve_24 : decode cX7_reserve 24 = .ok (.invokestatic 86, 3) := by decide +kernel
theorem dX7_reserve_27 : decode cX7_reserve 27 = .ok (.ifCond .ne 6, 3) := by decide +kernel
theorem dX7_reserve_30 : decode cX7_reserve 30 = .ok (.bipush (-2), 2) := by decide +kernel
theorem dX7_reserve_32 : decode cX7_reserve 32 = .ok (.ireturn, 1) := by decide +kernel
theorem dX7_reserve_33 : decode cX7_reserve 33 = .ok (.aload_n 0, 1) := by decide +kernel
theorem dX7_reserve_34 : decode cX7_reserve 34 = .ok (.iload_n 1, 1) := by decide +kernel
theorem dX7_reserve_35 : decode cX7_reserve 35 = .ok (.iload_n 2, 1) := by decide +kernel
theorem dX7_reserve_36 : decode cX7_reserve 36 = .ok (.invokevirtual 125, 3) := by decide +kernel
theorem dX7_reserve_39 : decode cX7_reserve 39 = .ok (.iconst (-1), 1) := by decide +kernel
theorem dX7_reserve_40 : decode cX7_reserve 40 = .ok (.if_icmp .eq 6, 3) := by decide +kernel
theorem dX7_reserve_43 : decode cX7_reserve 43 = .ok (.bipush (-5), 2) := by decide +kernel
theorem dX7_reserve_45 : decode cX7_reserve 45 = .ok (.ireturn, 1) := by decide +kernel
theorem dX7_reserve_46 : decode cX7_reserve 46 = .ok (.aload_n 0, 1) := by decide +kernel
theorem dX7_reserve_47 : decode cX7_reserve 47 = .ok (.getfield 7, 3) := by decide +kernel
theorem dX7_reserve_50 : decode cX7_reserve 50 = .ok (.bipush 15, 2) := by decide +kernel
theorem dX7_reserve_52 : decode cX7_reserve 52 = .ok (.iaload, 1) := by decide +kernel
theorem dX7_reserve_53 : decode cX7_reserve 53 = .ok (.bipush 8, 2) := by decide +kernel
theorem dX7_reserve_55 : decode cX7_reserve 55 = .ok (.if_icmp .ne 6, 3) := by decide +kernel
theorem dX7_reserve_58 : decode cX7_reserve 58 = .ok (.bipush (-4), 2) := by decide +kernel
theorem dX7_reserve_60 : decode cX7_reserve 60 = .ok (.ireturn, 1) := by decide +kernel
theorem dX7_reserve_61 : decode cX7_reserve 61 = .ok (.aload_n 0, 1) := by decide +kernel
theorem dX7_reserve_62 : decode cX7_reserve 62 = .ok (.invokevirtual 102, 3) := by decide +kernel
theorem dX7_reserve_65 : decode cX7_reserve 65 = .ok (.aload_n 0, 1) := by decide +kernel
theorem dX7_reserve_66 : decode cX7_reserve 66 = .ok (.getfield 7, 3) := by decide +kernel
theorem dX7_reserve_69 : decode cX7_reserve 69 = .ok (.sipush 377, 3) := by decide +kernel
theorem dX7_reserve_72 : decode cX7_reserve 72 = .ok (.iconst 2, 1) := by decide +kernel
theorem dX7_reserve_73 : decode cX7_reserve 73 = .ok (.aload_n 0, 1) := by decide +kernel
theorem dX7_reserve_74 : decode cX7_reserve 74 = .ok (.getfield 7, 3) := by decide +kernel
theorem dX7_reserve_77 : decode cX7_reserve 77 = .ok (.bipush 15, 2) := by decide +kernel
theorem dX7_reserve_79 : decode cX7_reserve 79 = .ok (.iaload, 1) := by decide +kernel
theorem dX7_reserve_80 : decode cX7_reserve 80 = .ok (.imul, 1) := by decide +kernel
theorem dX7_reserve_81 : decode cX7_reserve 81 = .ok (.iadd, 1) := by decide +kernel
theorem dX7_reserve_82 : decode cX7_reserve 82 = .ok (.iload_n 1, 1) := by decide +kernel
theorem dX7_reserve_83 : decode cX7_reserve 83 = .ok (.iastore, 1) := by decide +kernel
theorem dX7_reserve_84 : decode cX7_reserve 84 = .ok (.aload_n 0, 1) := by decide +kernel
theorem dX7_reserve_85 : decode cX7_reserve 85 = .ok (.getfield 7, 3) := by decide +kernel
theorem dX7_reserve_88 : decode cX7_reserve 88 = .ok (.sipush 377, 3) := by decide +kernel
theorem dX7_reserve_91 : decode cX7_reserve 91 = .ok (.iconst 2, 1) := by decide +kernel
theorem dX7_reserve_92 : decode cX7_reserve 92 = .ok (.aload_n 0, 1) := by decide +kernel
theorem dX7_reserve_93 : decode cX7_reserve 93 = .ok (.getfield 7, 3) := by decide +kernel
theorem dX7_reserve_96 : decode cX7_reserve 96 = .ok (.bipush 15, 2) := by decide +kernel
theorem dX7_reserve_98 : decode cX7_reserve 98 = .ok (.iaload, 1) := by decide +kernel
theorem dX7_reserve_99 : decode cX7_reserve 99 = .ok (.imul, 1) := by decide +kernel
theorem dX7_reserve_100 : decode cX7_reserve 100 = .ok (.iadd, 1) := by decide +kernel
theorem dX7_reserve_101 : decode cX7_reserve 101 = .ok (.iconst 1, 1) := by decide +kernel
theorem dX7_reserve_102 : decode cX7_reserve 102 = .ok (.iadd, 1) := by decide +kernel
theorem dX7_reserve_103 : decode cX7_reserve 103 = .ok (.iload_n 2, 1) := by decide +kernel
theorem dX7_reserve_104 : decode cX7_reserve 104 = .ok (.iastore, 1) := by decide +kernel
theorem dX7_reserve_105 : decode cX7_reserve 105 = .ok (.aload_n 0, 1) := by decide +kernel
theorem dX7_reserve_106 : decode cX7_reserve 106 = .ok (.getfield 7, 3) := by decide +kernel
theorem dX7_reserve_109 : decode cX7_reserve 109 = .ok (.bipush 15, 2) := by decide +kernel
theorem dX7_reserve_111 : decode cX7_reserve 111 = .ok (.dup2, 1) := by decide +kernel
theorem dX7_reserve_112 : decode cX7_reserve 112 = .ok (.iaload, 1) := by decide +kernel
theorem dX7_reserve_113 : decode cX7_reserve 113 = .ok (.iconst 1, 1) := by decide +kernel
theorem dX7_reserve_114 : decode cX7_reserve 114 = .ok (.iadd, 1) := by decide +kernel
theorem dX7_reserve_115 : decode cX7_reserve 115 = .ok (.iastore, 1) := by decide +kernel
theorem dX7_reserve_116 : decode cX7_reserve 116 = .ok (.aload_n 0, 1) := by decide +kernel
theorem dX7_reserve_117 : decode cX7_reserve 117 = .ok (.aload_n 0, 1) := by decide +kernel
theorem dX7_reserve_118 : decode cX7_reserve 118 = .ok (.getfield 7, 3) := by decide +kernel
theorem dX7_reserve_121 : decode cX7_reserve 121 = .ok (.bipush 15, 2) := by decide +kernel
theorem dX7_reserve_123 : decode cX7_reserve 123 = .ok (.iaload, 1) := by decide +kernel
theorem dX7_reserve_124 : decode cX7_reserve 124 = .ok (.invokevirtual 109, 3) := by decide +kernel
theorem dX7_reserve_127 : decode cX7_reserve 127 = .ok (.ireturn, 1) := by decide +kernel
theorem dX7_cancel_0 : decode cX7_cancel 0 = .ok (.aload_n 0, 1) := by decide +kernel
theorem dX7_cancel_1 : decode cX7_cancel 1 = .ok (.iload_n 1, 1) := by decide +kernel
theorem dX7_cancel_2 : decode cX7_cancel 2 = .ok (.iload_n 2, 1) := by decide +kernel
theorem dX7_cancel_3 : decode cX7_cancel 3 = .ok (.invokevirtual 125, 3) := by decide +kernel
theorem dX7_cancel_6 : decode cX7_cancel 6 = .ok (.istore_n 3, 1) := by decide +kernel
theorem dX7_cancel_7 : decode cX7_cancel 7 = .ok (.iload_n 3, 1) := by decide +kernel
theorem dX7_cancel_8 : decode cX7_cancel 8 = .ok (.iconst (-1), 1) := by decide +kernel
theorem dX7_cancel_9 : decode cX7_cancel 9 = .ok (.if_icmp .ne 5, 3) := by decide +kernel
theorem dX7_cancel_12 : decode cX7_cancel 12 = .ok (.iconst (-1), 1) := by decide +kernel
theorem dX7_cancel_13 : decode cX7_cancel 13 = .ok (.ireturn, 1) := by decide +kernel
theorem dX7_cancel_14 : decode cX7_cancel 14 = .ok (.aload_n 0, 1) := by decide +kernel
theorem dX7_cancel_15 : decode cX7_cancel 15 = .ok (.invokevirtual 102, 3) := by decide +kernel
theorem dX7_cancel_18 : decode cX7_cancel 18 = .ok (.aload_n 0, 1) := by decide +kernel
theorem dX7_cancel_19 : decode cX7_cancel 19 = .ok (.iload_n 3, 1) := by decide +kernel
theorem dX7_cancel_20 : decode cX7_cancel 20 = .ok (.invokevirtual 76, 3) := by decide +kernel
theorem dX7_cancel_23 : decode cX7_cancel 23 = .ok (.aload_n 0, 1) := by decide +kernel
theorem dX7_cancel_24 : decode cX7_cancel 24 = .ok (.aload_n 0, 1) := by decide +kernel
theorem dX7_cancel_25 : decode cX7_cancel 25 = .ok (.getfield 7, 3) := by decide +kernel
theorem dX7_cancel_28 : decode cX7_cancel 28 = .ok (.bipush 15, 2) := by decide +kernel
theorem dX7_cancel_30 : decode cX7_cancel 30 = .ok (.iaload, 1) := by decide +kernel
theorem dX7_cancel_31 : decode cX7_cancel 31 = .ok (.invokevirtual 109, 3) := by decide +kernel
theorem dX7_cancel_34 : decode cX7_cancel 34 = .ok (.ireturn, 1) := by decide +kernel
theorem dX7_pass_0 : decode cX7_pass 0 = .ok (.aload_n 0, 1) := by decide +kernel
theorem dX7_pass_1 : decode cX7_pass 1 = .ok (.invokevirtual 102, 3) := by decide +kernel
theorem dX7_pass_4 : decode cX7_pass 4 = .ok (.aload_n 0, 1) := by decide +kernel
theorem dX7_pass_5 : decode cX7_pass 5 = .ok (.aload_n 0, 1) := by decide +kernel
theorem dX7_pass_6 : decode cX7_pass 6 = .ok (.iload_n 1, 1) := by decide +kernel
theorem dX7_pass_7 : decode cX7_pass 7 = .ok (.invokevirtual 128, 3) := by decide +kernel
theorem dX7_pass_10 : decode cX7_pass 10 = .ok (.invokevirtual 109, 3) := by decide +kernel
theorem dX7_pass_13 : decode cX7_pass 13 = .ok (.ireturn, 1) := by decide +kernel
theorem dX7_set_0 : decode cX7_set 0 = .ok (.iload_n 1, 1) := by decide +kernel
theorem dX7_set_1 : decode cX7_set 1 = .ok (.iconst 0, 1) := by decide +kernel
theorem dX7_set_2 : decode cX7_set 2 = .ok (.bipush 6, 2) := by decide +kernel
theorem dX7_set_4 : decode cX7_set 4 = .ok (.invokestatic 86, 3) := by decide +kernel
theorem dX7_set_7 : decode cX7_set 7 = .ok (.ifCond .ne 5, 3) := by decide +kernel
theorem dX7_set_10 : decode cX7_set 10 = .ok (.iconst (-1), 1) := by decide +kernel
theorem dX7_set_11 : decode cX7_set 11 = .ok (.ireturn, 1) := by decide +kernel
theorem dX7_set_12 : decode cX7_set 12 = .ok (.iload_n 2, 1) := by decide +kernel
theorem dX7_set_13 : decode cX7_set 13 = .ok (.iload_n 1, 1) := by decide +kernel
theorem dX7_set_14 : decode cX7_set 14 = .ok (.iconst 5, 1) := by decide +kernel
theorem dX7_set_15 : decode cX7_set 15 = .ok (.if_icmp .ge 8, 3) := by decide +kernel
theorem dX7_set_18 : decode cX7_set 18 = .ok (.bipush 30, 2) := by decide +kernel
theorem dX7_set_20 : decode cX7_set 20 = .ok (.goto 14, 3) := by decide +kernel
theorem dX7_set_23 : decode cX7_set 23 = .ok (.iload_n 1, 1) := by decide +kernel
theorem dX7_set_24 : decode cX7_set 24 = .ok (.iconst 5, 1) := by decide +kernel
theorem dX7_set_25 : decode cX7_set 25 = .ok (.if_icmp .ne 7, 3) := by decide +kernel
theorem dX7_set_28 : decode cX7_set 28 = .ok (.iconst 1, 1) := by decide +kernel
theorem dX7_set_29 : decode cX7_set 29 = .ok (.goto 5, 3) := by decide +kernel
theorem dX7_set_32 : decode cX7_set 32 = .ok (.bipush 50, 2) := by decide +kernel
theorem dX7_set_34 : decode cX7_set 34 = .ok (.iload_n 1, 1) := by decide +kernel
theorem dX7_set_35 : decode cX7_set 35 = .ok (.iconst 5, 1) := by decide +kernel
theorem dX7_set_36 : decode cX7_set 36 = .ok (.if_icmp .ge 9, 3) := by decide +kernel
theorem dX7_set_39 : decode cX7_set 39 = .ok (.sipush 2000, 3) := by decide +kernel
theorem dX7_set_42 : decode cX7_set 42 = .ok (.goto 16, 3) := by decide +kernel
theorem dX7_set_45 : decode cX7_set 45 = .ok (.iload_n 1, 1) := by decide +kernel
theorem dX7_set_46 : decode cX7_set 46 = .ok (.iconst 5, 1) := by decide +kernel
theorem dX7_set_47 : decode cX7_set 47 = .ok (.if_icmp .ne 8, 3) := by decide +kernel
theorem dX7_set_50 : decode cX7_set 50 = .ok (.bipush 20, 2) := by decide +kernel
theorem dX7_set_52 : decode cX7_set 52 = .ok (.goto 6, 3) := by decide +kernel
theorem dX7_set_55 : decode cX7_set 55 = .ok (.sipush 600, 3) := by decide +kernel
theorem dX7_set_58 : decode cX7_set 58 = .ok (.invokestatic 86, 3) := by decide +kernel
theorem dX7_set_61 : decode cX7_set 61 = .ok (.ifCond .ne 6, 3) := by decide +kernel
theorem dX7_set_64 : decode cX7_set 64 = .ok (.bipush (-2), 2) := by decide +kernel
theorem dX7_set_66 : decode cX7_set 66 = .ok (.ireturn, 1) := by decide +kernel
theorem dX7_set_67 : decode cX7_set 67 = .ok (.aload_n 0, 1) := by decide +kernel
theorem dX7_set_68 : decode cX7_set 68 = .ok (.invokevirtual 102, 3) := by decide +kernel
theorem dX7_set_71 : decode cX7_set 71 = .ok (.aload_n 0, 1) := by decide +kernel
theorem dX7_set_72 : decode cX7_set 72 = .ok (.getfield 7, 3) := by decide +kernel
theorem dX7_set_75 : decode cX7_set 75 = .ok (.iload_n 1, 1) := by decide +kernel
theorem dX7_set_76 : decode cX7_set 76 = .ok (.iaload, 1) := by decide +kernel
theorem dX7_set_77 : decode cX7_set 77 = .ok (.istore_n 3, 1) := by decide +kernel
theorem dX7_set_78 : decode cX7_set 78 = .ok (.aload_n 0, 1) := by decide +kernel
theorem dX7_set_79 : decode cX7_set 79 = .ok (.getfield 7, 3) := by decide +kernel
theorem dX7_set_82 : decode cX7_set 82 = .ok (.iload_n 1, 1) := by decide +kernel
theorem dX7_set_83 : decode cX7_set 83 = .ok (.iload_n 2, 1) := by decide +kernel
theorem dX7_set_84 : decode cX7_set 84 = .ok (.iastore, 1) := by decide +kernel
theorem dX7_set_85 : decode cX7_set 85 = .ok (.aload_n 0, 1) := by decide +kernel
theorem dX7_set_86 : decode cX7_set 86 = .ok (.iload_n 3, 1) := by decide +kernel
theorem dX7_set_87 : decode cX7_set 87 = .ok (.invokevirtual 109, 3) := by decide +kernel
theorem dX7_set_90 : decode cX7_set 90 = .ok (.ireturn, 1) := by decide +kernel
theorem dX7_append_0 : decode cX7_append 0 = .ok (.iload_n 1, 1) := by decide +kernel
theorem dX7_append_1 : decode cX7_append 1 = .ok (.bipush 32, 2) := by decide +kernel
theorem dX7_append_3 : decode cX7_append 3 = .ok (.bipush 126, 2) := by decide +kernel
theorem dX7_append_5 : decode cX7_append 5 = .ok (.invokestatic 86, 3) := by decide +kernel
theorem dX7_append_8 : decode cX7_append 8 = .ok (.ifCond .ne 6, 3) := by decide +kernel
theorem dX7_append_11 : decode cX7_append 11 = .ok (.bipush (-2), 2) := by decide +kernel
theorem dX7_append_13 : decode cX7_append 13 = .ok (.ireturn, 1) := by decide +kernel
theorem dX7_append_14 : decode cX7_append 14 = .ok (.aload_n 0, 1) := by decide +kernel
theorem dX7_append_15 : decode cX7_append 15 = .ok (.getfield 131, 3) := by decide +kernel
theorem dX7_append_18 : decode cX7_append 18 = .ok (.bipush 60, 2) := by decide +kernel
theorem dX7_append_20 : decode cX7_append 20 = .ok (.if_icmp .ne 6, 3) := by decide +kernel
theorem dX7_append_23 : decode cX7_append 23 = .ok (.bipush (-4), 2) := by decide +kernel
theorem dX7_append_25 : decode cX7_append 25 = .ok (.ireturn, 1) := by decide +kernel
theorem dX7_append_26 : decode cX7_append 26 = .ok (.aload_n 0, 1) := by decide +kernel
theorem dX7_append_27 : decode cX7_append 27 = .ok (.getfield 32, 3) := by decide +kernel
theorem dX7_append_30 : decode cX7_append 30 = .ok (.aload_n 0, 1) := by decide +kernel
theorem dX7_append_31 : decode cX7_append 31 = .ok (.getfield 131, 3) := by decide +kernel
theorem dX7_append_34 : decode cX7_append 34 = .ok (.iload_n 1, 1) := by decide +kernel
theorem dX7_append_35 : decode cX7_append 35 = .ok (.i2c, 1) := by decide +kernel
theorem dX7_append_36 : decode cX7_append 36 = .ok (.castore, 1) := by decide +kernel
theorem dX7_append_37 : decode cX7_append 37 = .ok (.aload_n 0, 1) := by decide +kernel
theorem dX7_append_38 : decode cX7_append 38 = .ok (.dup, 1) := by decide +kernel
theorem dX7_append_39 : decode cX7_append 39 = .ok (.getfield 131, 3) := by decide +kernel
theorem dX7_append_42 : decode cX7_append 42 = .ok (.iconst 1, 1) := by decide +kernel
theorem dX7_append_43 : decode cX7_append 43 = .ok (.iadd, 1) := by decide +kernel
theorem dX7_append_44 : decode cX7_append 44 = .ok (.putfield 131, 3) := by decide +kernel
theorem dX7_append_47 : decode cX7_append 47 = .ok (.aload_n 0, 1) := by decide +kernel
theorem dX7_append_48 : decode cX7_append 48 = .ok (.getfield 131, 3) := by decide +kernel
theorem dX7_append_51 : decode cX7_append 51 = .ok (.ireturn, 1) := by decide +kernel
theorem dX7_clearText_0 : decode cX7_clearText 0 = .ok (.aload_n 0, 1) := by decide +kernel
theorem dX7_clearText_1 : decode cX7_clearText 1 = .ok (.getfield 131, 3) := by decide +kernel
theorem dX7_clearText_4 : decode cX7_clearText 4 = .ok (.istore_n 1, 1) := by decide +kernel
theorem dX7_clearText_5 : decode cX7_clearText 5 = .ok (.aload_n 0, 1) := by decide +kernel
theorem dX7_clearText_6 : decode cX7_clearText 6 = .ok (.iconst 0, 1) := by decide +kernel
theorem dX7_clearText_7 : decode cX7_clearText 7 = .ok (.putfield 131, 3) := by decide +kernel
theorem dX7_clearText_10 : decode cX7_clearText 10 = .ok (.iload_n 1, 1) := by decide +kernel
theorem dX7_clearText_11 : decode cX7_clearText 11 = .ok (.ireturn, 1) := by decide +kernel
theorem dX7_isSign_0 : decode cX7_isSign 0 = .ok (.aload_n 0, 1) := by decide +kernel
theorem dX7_isSign_1 : decode cX7_isSign 1 = .ok (.getfield 134, 3) := by decide +kernel
theorem dX7_isSign_4 : decode cX7_isSign 4 = .ok (.aload_n 0, 1) := by decide +kernel
theorem dX7_isSign_5 : decode cX7_isSign 5 = .ok (.getfield 131, 3) := by decide +kernel
theorem dX7_isSign_8 : decode cX7_isSign 8 = .ok (.if_icmp .ge 33, 3) := by decide +kernel
theorem dX7_isSign_11 : decode cX7_isSign 11 = .ok (.aload_n 0, 1) := by decide +kernel
theorem dX7_isSign_12 : decode cX7_isSign 12 = .ok (.getfield 32, 3) := by decide +kernel
theorem dX7_isSign_15 : decode cX7_isSign 15 = .ok (.aload_n 0, 1) := by decide +kernel
theorem dX7_isSign_16 : decode cX7_isSign 16 = .ok (.getfield 134, 3) := by decide +kernel
theorem dX7_isSign_19 : decode cX7_isSign 19 = .ok (.caload, 1) := by decide +kernel
theorem dX7_isSign_20 : decode cX7_isSign 20 = .ok (.iload_n 1, 1) := by decide +kernel
theorem dX7_isSign_21 : decode cX7_isSign 21 = .ok (.if_icmp .lt 20, 3) := by decide +kernel
theorem dX7_isSign_24 : decode cX7_isSign 24 = .ok (.aload_n 0, 1) := by decide +kernel
theorem dX7_isSign_25 : decode cX7_isSign 25 = .ok (.getfield 32, 3) := by decide +kernel
theorem dX7_isSign_28 : decode cX7_isSign 28 = .ok (.aload_n 0, 1) := by decide +kernel
theorem dX7_isSign_29 : decode cX7_isSign 29 = .ok (.getfield 134, 3) := by decide +kernel
theorem dX7_isSign_32 : decode cX7_isSign 32 = .ok (.caload, 1) := by decide +kernel
theorem dX7_isSign_33 : decode cX7_isSign 33 = .ok (.iload_n 2, 1) := by decide +kernel
theorem dX7_isSign_34 : decode cX7_isSign 34 = .ok (.if_icmp .gt 7, 3) := by decide +kernel
theorem dX7_isSign_37 : decode cX7_isSign 37 = .ok (.iconst 1, 1) := by decide +kernel
theorem dX7_isSign_38 : decode cX7_isSign 38 = .ok (.goto 4, 3) := by decide +kernel
theorem dX7_isSign_41 : decode cX7_isSign 41 = .ok (.iconst 0, 1) := by decide +kernel
theorem dX7_isSign_42 : decode cX7_isSign 42 = .ok (.ireturn, 1) := by decide +kernel
theorem dX7_accepts_0 : decode cX7_accepts 0 = .ok (.aload_n 0, 1) := by decide +kernel
theorem dX7_accepts_1 : decode cX7_accepts 1 = .ok (.iload_n 1, 1) := by decide +kernel
theorem dX7_accepts_2 : decode cX7_accepts 2 = .ok (.iload_n 1, 1) := by decide +kernel
theorem dX7_accepts_3 : decode cX7_accepts 3 = .ok (.invokevirtual 137, 3) := by decide +kernel
theorem dX7_accepts_6 : decode cX7_accepts 6 = .ok (.istore_n 2, 1) := by decide +kernel
theorem dX7_accepts_7 : decode cX7_accepts 7 = .ok (.aload_n 0, 1) := by decide +kernel
theorem dX7_accepts_8 : decode cX7_accepts 8 = .ok (.dup, 1) := by decide +kernel
theorem dX7_accepts_9 : decode cX7_accepts 9 = .ok (.getfield 134, 3) := by decide +kernel
theorem dX7_accepts_12 : decode cX7_accepts 12 = .ok (.iload_n 2, 1) := by decide +kernel
theorem dX7_accepts_13 : decode cX7_accepts 13 = .ok (.ifCond .eq 7, 3) := by decide +kernel
theorem dX7_accepts_16 : decode cX7_accepts 16 = .ok (.iconst 1, 1) := by decide +kernel
theorem dX7_accepts_17 : decode cX7_accepts 17 = .ok (.goto 4, 3) := by decide +kernel
theorem dX7_accepts_20 : decode cX7_accepts 20 = .ok (.iconst 0, 1) := by decide +kernel
theorem dX7_accepts_21 : decode cX7_accepts 21 = .ok (.iadd, 1) := by decide +kernel
theorem dX7_accepts_22 : decode cX7_accepts 22 = .ok (.putfield 134, 3) := by decide +kernel
theorem dX7_accepts_25 : decode cX7_accepts 25 = .ok (.iload_n 2, 1) := by decide +kernel
theorem dX7_accepts_26 : decode cX7_accepts 26 = .ok (.ireturn, 1) := by decide +kernel
theorem dX7_number_0 : decode cX7_number 0 = .ok (.iconst 4, 1) := by decide +kernel
theorem dX7_number_1 : decode cX7_number 1 = .ok (.aload_n 0, 1) := by decide +kernel
theorem dX7_number_2 : decode cX7_number 2 = .ok (.getfield 141, 3) := by decide +kernel
theorem dX7_number_5 : decode cX7_number 5 = .ok (.imul, 1) := by decide +kernel
theorem dX7_number_6 : decode cX7_number 6 = .ok (.iload_n 1, 1) := by decide +kernel
theorem dX7_number_7 : decode cX7_number 7 = .ok (.iadd, 1) := by decide +kernel
theorem dX7_number_8 : decode cX7_number 8 = .ok (.istore 4, 2) := by decide +kernel
theorem dX7_number_10 : decode cX7_number 10 = .ok (.aload_n 0, 1) := by decide +kernel
theorem dX7_number_11 : decode cX7_number 11 = .ok (.iload_n 2, 1) := by decide +kernel
theorem dX7_number_12 : decode cX7_number 12 = .ok (.ifCond .ne 8, 3) := by decide +kernel
theorem dX7_number_15 : decode cX7_number 15 = .ok (.bipush 48, 2) := by decide +kernel
theorem dX7_number_17 : decode cX7_number 17 = .ok (.goto 5, 3) := by decide +kernel
theorem dX7_number_20 : decode cX7_number 20 = .ok (.bipush 49, 2) := by decide +kernel
theorem dX7_number_22 : decode cX7_number 22 = .ok (.bipush 57, 2) := by decide +kernel
theorem dX7_number_24 : decode cX7_number 24 = .ok (.invokevirtual 137, 3) := by decide +kernel
theorem dX7_number_27 : decode cX7_number 27 = .ok (.ifCond .ne 5, 3) := by decide +kernel
theorem dX7_number_30 : decode cX7_number 30 = .ok (.iconst 0, 1) := by decide +kernel
theorem dX7_number_31 : decode cX7_number 31 = .ok (.ireturn, 1) := by decide +kernel
theorem dX7_number_32 : decode cX7_number 32 = .ok (.aload_n 0, 1) := by decide +kernel
theorem dX7_number_33 : decode cX7_number 33 = .ok (.getfield 26, 3) := by decide +kernel
theorem dX7_number_36 : decode cX7_number 36 = .ok (.iload 4, 2) := by decide +kernel
theorem dX7_number_38 : decode cX7_number 38 = .ok (.aload_n 0, 1) := by decide +kernel
theorem dX7_number_39 : decode cX7_number 39 = .ok (.getfield 32, 3) := by decide +kernel
theorem dX7_number_42 : decode cX7_number 42 = .ok (.aload_n 0, 1) := by decide +kernel
theorem dX7_number_43 : decode cX7_number 43 = .ok (.getfield 134, 3) := by decide +kernel
theorem dX7_number_46 : decode cX7_number 46 = .ok (.caload, 1) := by decide +kernel
theorem dX7_number_47 : decode cX7_number 47 = .ok (.bipush 48, 2) := by decide +kernel
theorem dX7_number_49 : decode cX7_number 49 = .ok (.isub, 1) := by decide +kernel
theorem dX7_number_50 : decode cX7_number 50 = .ok (.iastore, 1) := by decide +kernel
theorem dX7_number_51 : decode cX7_number 51 = .ok (.aload_n 0, 1) := by decide +kernel
theorem dX7_number_52 : decode cX7_number 52 = .ok (.getfield 26, 3) := by decide +kernel
theorem dX7_number_55 : decode cX7_number 55 = .ok (.iload 4, 2) := by decide +kernel
theorem dX7_number_57 : decode cX7_number 57 = .ok (.iaload, 1) := by decide +kernel
theorem dX7_number_58 : decode cX7_number 58 = .ok (.iload_n 3, 1) := by decide +kernel
theorem dX7_number_59 : decode cX7_number 59 = .ok (.if_icmp .gt 7, 3) := by decide +kernel
theorem dX7_number_62 : decode cX7_number 62 = .ok (.iconst 1, 1) := by decide +kernel
theorem dX7_number_63 : decode cX7_number 63 = .ok (.goto 4, 3) := by decide +kernel
theorem dX7_number_66 : decode cX7_number 66 = .ok (.iconst 0, 1) := by decide +kernel
theorem dX7_number_67 : decode cX7_number 67 = .ok (.istore 5, 2) := by decide +kernel
theorem dX7_number_69 : decode cX7_number 69 = .ok (.aload_n 0, 1) := by decide +kernel
theorem dX7_number_70 : decode cX7_number 70 = .ok (.dup, 1) := by decide +kernel
theorem dX7_number_71 : decode cX7_number 71 = .ok (.getfield 134, 3) := by decide +kernel
theorem dX7_number_74 : decode cX7_number 74 = .ok (.iload 5, 2) := by decide +kernel
theorem dX7_number_76 : decode cX7_number 76 = .ok (.ifCond .eq 7, 3) := by decide +kernel
theorem dX7_number_79 : decode cX7_number 79 = .ok (.iconst 1, 1) := by decide +kernel
theorem dX7_number_80 : decode cX7_number 80 = .ok (.goto 4, 3) := by decide +kernel
theorem dX7_number_83 : decode cX7_number 83 = .ok (.iconst 0, 1) := by decide +kernel
theorem dX7_number_84 : decode cX7_number 84 = .ok (.iadd, 1) := by decide +kernel
theorem dX7_number_85 : decode cX7_number 85 = .ok (.putfield 134, 3) := by decide +kernel
theorem dX7_number_88 : decode cX7_number 88 = .ok (.iload 5, 2) := by decide +kernel
theorem dX7_number_90 : decode cX7_number 90 = .ok (.ifCond .eq 94, 3) := by decide +kernel
theorem dX7_number_93 : decode cX7_number 93 = .ok (.aload_n 0, 1) := by decide +kernel
theorem dX7_number_94 : decode cX7_number 94 = .ok (.getfield 26, 3) := by decide +kernel
theorem dX7_number_97 : decode cX7_number 97 = .ok (.iload 4, 2) := by decide +kernel
theorem dX7_number_99 : decode cX7_number 99 = .ok (.iaload, 1) := by decide +kernel
theorem dX7_number_100 : decode cX7_number 100 = .ok (.ifCond .le 84, 3) := by decide +kernel
theorem dX7_number_103 : decode cX7_number 103 = .ok (.aload_n 0, 1) := by decide +kernel
theorem dX7_number_104 : decode cX7_number 104 = .ok (.bipush 48, 2) := by decide +kernel
theorem dX7_number_106 : decode cX7_number 106 = .ok (.bipush 57, 2) := by decide +kernel
theorem dX7_number_108 : decode cX7_number 108 = .ok (.invokevirtual 137, 3) := by decide +kernel
theorem dX7_number_111 : decode cX7_number 111 = .ok (.ifCond .eq 73, 3) := by decide +kernel
theorem dX7_number_114 : decode cX7_number 114 = .ok (.bipush 10, 2) := by decide +kernel
theorem dX7_number_116 : decode cX7_number 116 = .ok (.aload_n 0, 1) := by decide +kernel
theorem dX7_number_117 : decode cX7_number 117 = .ok (.getfield 26, 3) := by decide +kernel
theorem dX7_number_120 : decode cX7_number 120 = .ok (.iload 4, 2) := by decide +kernel
theorem dX7_number_122 : decode cX7_number 122 = .ok (.iaload, 1) := by decide +kernel
theorem dX7_number_123 : decode cX7_number 123 = .ok (.imul, 1) := by decide +kernel
theorem dX7_number_124 : decode cX7_number 124 = .ok (.aload_n 0, 1) := by decide +kernel
theorem dX7_number_125 : decode cX7_number 125 = .ok (.getfield 32, 3) := by decide +kernel
theorem dX7_number_128 : decode cX7_number 128 = .ok (.aload_n 0, 1) := by decide +kernel
theorem dX7_number_129 : decode cX7_number 129 = .ok (.getfield 134, 3) := by decide +kernel
theorem dX7_number_132 : decode cX7_number 132 = .ok (.caload, 1) := by decide +kernel
theorem dX7_number_133 : decode cX7_number 133 = .ok (.iadd, 1) := by decide +kernel
theorem dX7_number_134 : decode cX7_number 134 = .ok (.bipush 48, 2) := by decide +kernel
theorem dX7_number_136 : decode cX7_number 136 = .ok (.isub, 1) := by decide +kernel
theorem dX7_number_137 : decode cX7_number 137 = .ok (.iload_n 3, 1) := by decide +kernel
theorem dX7_number_138 : decode cX7_number 138 = .ok (.if_icmp .gt 46, 3) := by decide +kernel
theorem dX7_number_141 : decode cX7_number 141 = .ok (.aload_n 0, 1) := by decide +kernel
theorem dX7_number_142 : decode cX7_number 142 = .ok (.getfield 26, 3) := by decide +kernel
theorem dX7_number_145 : decode cX7_number 145 = .ok (.iload 4, 2) := by decide +kernel
theorem dX7_number_147 : decode cX7_number 147 = .ok (.bipush 10, 2) := by decide +kernel
theorem dX7_number_149 : decode cX7_number 149 = .ok (.aload_n 0, 1) := by decide +kernel
theorem dX7_number_150 : decode cX7_number 150 = .ok (.getfield 26, 3) := by decide +kernel
theorem dX7_number_153 : decode cX7_number 153 = .ok (.iload 4, 2) := by decide +kernel
theorem dX7_number_155 : decode cX7_number 155 = .ok (.iaload, 1) := by decide +kernel
theorem dX7_number_156 : decode cX7_number 156 = .ok (.imul, 1) := by decide +kernel
theorem dX7_number_157 : decode cX7_number 157 = .ok (.aload_n 0, 1) := by decide +kernel
theorem dX7_number_158 : decode cX7_number 158 = .ok (.getfield 32, 3) := by decide +kernel
theorem dX7_number_161 : decode cX7_number 161 = .ok (.aload_n 0, 1) := by decide +kernel
theorem dX7_number_162 : decode cX7_number 162 = .ok (.getfield 134, 3) := by decide +kernel
theorem dX7_number_165 : decode cX7_number 165 = .ok (.caload, 1) := by decide +kernel
theorem dX7_number_166 : decode cX7_number 166 = .ok (.iadd, 1) := by decide +kernel
theorem dX7_number_167 : decode cX7_number 167 = .ok (.bipush 48, 2) := by decide +kernel
theorem dX7_number_169 : decode cX7_number 169 = .ok (.isub, 1) := by decide +kernel
theorem dX7_number_170 : decode cX7_number 170 = .ok (.iastore, 1) := by decide +kernel
theorem dX7_number_171 : decode cX7_number 171 = .ok (.aload_n 0, 1) := by decide +kernel
theorem dX7_number_172 : decode cX7_number 172 = .ok (.dup, 1) := by decide +kernel
theorem dX7_number_173 : decode cX7_number 173 = .ok (.getfield 134, 3) := by decide +kernel
theorem dX7_number_176 : decode cX7_number 176 = .ok (.iconst 1, 1) := by decide +kernel
theorem dX7_number_177 : decode cX7_number 177 = .ok (.iadd, 1) := by decide +kernel
theorem dX7_number_178 : decode cX7_number 178 = .ok (.putfield 134, 3) := by decide +kernel
theorem dX7_number_181 : decode cX7_number 181 = .ok (.goto (-93), 3) := by decide +kernel
theorem dX7_number_184 : decode cX7_number 184 = .ok (.iload 5, 2) := by decide +kernel
theorem dX7_number_186 : decode cX7_number 186 = .ok (.ireturn, 1) := by decide +kernel
theorem dX7_readsOrder_0 : decode cX7_readsOrder 0 = .ok (.aload_n 0, 1) := by decide +kernel
theorem dX7_readsOrder_1 : decode cX7_readsOrder 1 = .ok (.getfield 26, 3) := by decide +kernel
theorem dX7_readsOrder_4 : decode cX7_readsOrder 4 = .ok (.iconst 4, 1) := by decide +kernel
theorem dX7_readsOrder_5 : decode cX7_readsOrder 5 = .ok (.aload_n 0, 1) := by decide +kernel
theorem dX7_readsOrder_6 : decode cX7_readsOrder 6 = .ok (.getfield 141, 3) := by decide +kernel
theorem dX7_readsOrder_9 : decode cX7_readsOrder 9 = .ok (.imul, 1) := by decide +kernel
theorem dX7_readsOrder_10 : decode cX7_readsOrder 10 = .ok (.aload_n 0, 1) := by decide +kernel
theorem dX7_readsOrder_11 : decode cX7_readsOrder 11 = .ok (.getfield 134, 3) := by decide +kernel
theorem dX7_readsOrder_14 : decode cX7_readsOrder 14 = .ok (.iastore, 1) := by decide +kernel
theorem dX7_readsOrder_15 : decode cX7_readsOrder 15 = .ok (.aload_n 0, 1) := by decide +kernel
theorem dX7_readsOrder_16 : decode cX7_readsOrder 16 = .ok (.getfield 26, 3) := by decide +kernel
theorem dX7_readsOrder_19 : decode cX7_readsOrder 19 = .ok (.iconst 4, 1) := by decide +kernel
theorem dX7_readsOrder_20 : decode cX7_readsOrder 20 = .ok (.aload_n 0, 1) := by decide +kernel
theorem dX7_readsOrder_21 : decode cX7_readsOrder 21 = .ok (.getfield 141, 3) := by decide +kernel
theorem dX7_readsOrder_24 : decode cX7_readsOrder 24 = .ok (.imul, 1) := by decide +kernel
theorem dX7_readsOrder_25 : decode cX7_readsOrder 25 = .ok (.iconst 1, 1) := by decide +kernel
theorem dX7_readsOrder_26 : decode cX7_readsOrder 26 = .ok (.iadd, 1) := by decide +kernel
theorem dX7_readsOrder_27 : decode cX7_readsOrder 27 = .ok (.aload_n 0, 1) := by decide +kernel
theorem dX7_readsOrder_28 : decode cX7_readsOrder 28 = .ok (.getfield 134, 3) := by decide +kernel
theorem dX7_readsOrder_31 : decode cX7_readsOrder 31 = .ok (.aload_n 0, 1) := by decide +kernel
theorem dX7_readsOrder_32 : decode cX7_readsOrder 32 = .ok (.getfield 131, 3) := by decide +kernel
theorem dX7_readsOrder_35 : decode cX7_readsOrder 35 = .ok (.if_icmp .ge 15, 3) := by decide +kernel
theorem dX7_readsOrder_38 : decode cX7_readsOrder 38 = .ok (.aload_n 0, 1) := by decide +kernel
theorem dX7_readsOrder_39 : decode cX7_readsOrder 39 = .ok (.getfield 32, 3) := by decide +kernel
theorem dX7_readsOrder_42 : decode cX7_readsOrder 42 = .ok (.aload_n 0, 1) := by decide +kernel
theorem dX7_readsOrder_43 : decode cX7_readsOrder 43 = .ok (.getfield 134, 3) := by decide +kernel
theorem dX7_readsOrder_46 : decode cX7_readsOrder 46 = .ok (.caload, 1) := by decide +kernel
theorem dX7_readsOrder_47 : decode cX7_readsOrder 47 = .ok (.goto 4, 3) := by decide +kernel
theorem dX7_readsOrder_50 : decode cX7_readsOrder 50 = .ok (.iconst 0, 1) := by decide +kernel
theorem dX7_readsOrder_51 : decode cX7_readsOrder 51 = .ok (.iastore, 1) := by decide +kernel
theorem dX7_readsOrder_52 : decode cX7_readsOrder 52 = .ok (.aload_n 0, 1) := by decide +kernel
theorem dX7_readsOrder_53 : decode cX7_readsOrder 53 = .ok (.bipush 110, 2) := by decide +kernel
theorem dX7_readsOrder_55 : decode cX7_readsOrder 55 = .ok (.invokevirtual 144, 3) := by decide +kernel
theorem dX7_readsOrder_58 : decode cX7_readsOrder 58 = .ok (.ifCond .eq 42, 3) := by decide +kernel
theorem dX7_readsOrder_61 : decode cX7_readsOrder 61 = .ok (.aload_n 0, 1) := by decide +kernel
theorem dX7_readsOrder_62 : decode cX7_readsOrder 62 = .ok (.iconst 2, 1) := by decide +kernel
theorem dX7_readsOrder_63 : decode cX7_readsOrder 63 = .ok (.iconst 0, 1) := by decide +kernel
theorem dX7_readsOrder_64 : decode cX7_readsOrder 64 = .ok (.iconst 4, 1) := by decide +kernel
theorem dX7_readsOrder_65 : decode cX7_readsOrder 65 = .ok (.invokevirtual 148, 3) := by decide +kernel
theorem dX7_readsOrder_68 : decode cX7_readsOrder 68 = .ok (.ifCond .eq 27, 3) := by decide +kernel
theorem dX7_readsOrder_71 : decode cX7_readsOrder 71 = .ok (.aload_n 0, 1) := by decide +kernel
theorem dX7_readsOrder_72 : decode cX7_readsOrder 72 = .ok (.bipush 44, 2) := by decide +kernel
theorem dX7_readsOrder_74 : decode cX7_readsOrder 74 = .ok (.invokevirtual 144, 3) := by decide +kernel
theorem dX7_readsOrder_77 : decode cX7_readsOrder 77 = .ok (.ifCond .eq 18, 3) := by decide +kernel
theorem dX7_readsOrder_80 : decode cX7_readsOrder 80 = .ok (.aload_n 0, 1) := by decide +kernel
theorem dX7_readsOrder_81 : decode cX7_readsOrder 81 = .ok (.iconst 3, 1) := by decide +kernel
theorem dX7_readsOrder_82 : decode cX7_readsOrder 82 = .ok (.iconst 1, 1) := by decide +kernel
theorem dX7_readsOrder_83 : decode cX7_readsOrder 83 = .ok (.bipush 50, 2) := by decide +kernel
theorem dX7_readsOrder_85 : decode cX7_readsOrder 85 = .ok (.invokevirtual 148, 3) := by decide +kernel
theorem dX7_readsOrder_88 : decode cX7_readsOrder 88 = .ok (.ifCond .eq 7, 3) := by decide +kernel
theorem dX7_readsOrder_91 : decode cX7_readsOrder 91 = .ok (.iconst 1, 1) := by decide +kernel
theorem dX7_readsOrder_92 : decode cX7_readsOrder 92 = .ok (.goto 4, 3) := by decide +kernel
theorem dX7_readsOrder_95 : decode cX7_readsOrder 95 = .ok (.iconst 0, 1) := by decide +kernel
theorem dX7_readsOrder_96 : decode cX7_readsOrder 96 = .ok (.istore_n 1, 1) := by decide +kernel
theorem dX7_readsOrder_97 : decode cX7_readsOrder 97 = .ok (.goto 162, 3) := by decide +kernel
theorem dX7_readsOrder_100 : decode cX7_readsOrder 100 = .ok (.aload_n 0, 1) := by decide +kernel
theorem dX7_readsOrder_101 : decode cX7_readsOrder 101 = .ok (.bipush 97, 2) := by decide +kernel
theorem dX7_readsOrder_103 : decode cX7_readsOrder 103 = .ok (.invokevirtual 144, 3) := by decide +kernel
theorem dX7_readsOrder_106 : decode cX7_readsOrder 106 = .ok (.ifCond .eq 16, 3) := by decide +kernel
theorem dX7_readsOrder_109 : decode cX7_readsOrder 109 = .ok (.aload_n 0, 1) := by decide +kernel
theorem dX7_readsOrder_110 : decode cX7_readsOrder 110 = .ok (.iconst 2, 1) := by decide +kernel
theorem dX7_readsOrder_111 : decode cX7_readsOrder 111 = .ok (.iconst 0, 1) := by decide +kernel
theorem dX7_readsOrder_112 : decode cX7_readsOrder 112 = .ok (.sipush 199, 3) := by decide +kernel
theorem dX7_readsOrder_115 : decode cX7_readsOrder 115 = .ok (.invokevirtual 148, 3) := by decide +kernel
theorem dX7_readsOrder_118 : decode cX7_readsOrder 118 = .ok (.istore_n 1, 1) := by decide +kernel
theorem dX7_readsOrder_119 : decode cX7_readsOrder 119 = .ok (.goto 140, 3) := by decide +kernel
theorem dX7_readsOrder_122 : decode cX7_readsOrder 122 = .ok (.aload_n 0, 1) := by decide +kernel
theorem dX7_readsOrder_123 : decode cX7_readsOrder 123 = .ok (.bipush 115, 2) := by decide +kernel
theorem dX7_readsOrder_125 : decode cX7_readsOrder 125 = .ok (.invokevirtual 144, 3) := by decide +kernel
theorem dX7_readsOrder_128 : decode cX7_readsOrder 128 = .ok (.ifCond .ne 12, 3) := by decide +kernel
theorem dX7_readsOrder_131 : decode cX7_readsOrder 131 = .ok (.aload_n 0, 1) := by decide +kernel
theorem dX7_readsOrder_132 : decode cX7_readsOrder 132 = .ok (.bipush 108, 2) := by decide +kernel
theorem dX7_readsOrder_134 : decode cX7_readsOrder 134 = .ok (.invokevirtual 144, 3) := by decide +kernel
theorem dX7_readsOrder_137 : decode cX7_readsOrder 137 = .ok (.ifCond .eq 44, 3) := by decide +kernel
theorem dX7_readsOrder_140 : decode cX7_readsOrder 140 = .ok (.aload_n 0, 1) := by decide +kernel
theorem dX7_readsOrder_141 : decode cX7_readsOrder 141 = .ok (.iconst 2, 1) := by decide +kernel
theorem dX7_readsOrder_142 : decode cX7_readsOrder 142 = .ok (.iconst 0, 1) := by decide +kernel
theorem dX7_readsOrder_143 : decode cX7_readsOrder 143 = .ok (.bipush 7, 2) := by decide +kernel
theorem dX7_readsOrder_145 : decode cX7_readsOrder 145 = .ok (.invokevirtual 148, 3) := by decide +kernel
theorem dX7_readsOrder_148 : decode cX7_readsOrder 148 = .ok (.ifCond .eq 28, 3) := by decide +kernel
theorem dX7_readsOrder_151 : decode cX7_readsOrder 151 = .ok (.aload_n 0, 1) := by decide +kernel
theorem dX7_readsOrder_152 : decode cX7_readsOrder 152 = .ok (.bipush 44, 2) := by decide +kernel
theorem dX7_readsOrder_154 : decode cX7_readsOrder 154 = .ok (.invokevirtual 144, 3) := by decide +kernel
theorem dX7_readsOrder_157 : decode cX7_readsOrder 157 = .ok (.ifCond .eq 19, 3) := by decide +kernel
theorem dX7_readsOrder_160 : decode cX7_readsOrder 160 = .ok (.aload_n 0, 1) := by decide +kernel
theorem dX7_readsOrder_161 : decode cX7_readsOrder 161 = .ok (.iconst 3, 1) := by decide +kernel
theorem dX7_readsOrder_162 : decode cX7_readsOrder 162 = .ok (.iconst 0, 1) := by decide +kernel
theorem dX7_readsOrder_163 : decode cX7_readsOrder 163 = .ok (.sipush 199, 3) := by decide +kernel
theorem dX7_readsOrder_166 : decode cX7_readsOrder 166 = .ok (.invokevirtual 148, 3) := by decide +kernel
theorem dX7_readsOrder_169 : decode cX7_readsOrder 169 = .ok (.ifCond .eq 7, 3) := by decide +kernel
theorem dX7_readsOrder_172 : decode cX7_readsOrder 172 = .ok (.iconst 1, 1) := by decide +kernel
theorem dX7_readsOrder_173 : decode cX7_readsOrder 173 = .ok (.goto 4, 3) := by decide +kernel
theorem dX7_readsOrder_176 : decode cX7_readsOrder 176 = .ok (.iconst 0, 1) := by decide +kernel
theorem dX7_readsOrder_177 : decode cX7_readsOrder 177 = .ok (.istore_n 1, 1) := by decide +kernel
theorem dX7_readsOrder_178 : decode cX7_readsOrder 178 = .ok (.goto 81, 3) := by decide +kernel
theorem dX7_readsOrder_181 : decode cX7_readsOrder 181 = .ok (.aload_n 0, 1) := by decide +kernel
theorem dX7_readsOrder_182 : decode cX7_readsOrder 182 = .ok (.bipush 102, 2) := by decide +kernel
theorem dX7_readsOrder_184 : decode cX7_readsOrder 184 = .ok (.invokevirtual 144, 3) := by decide +kernel
theorem dX7_readsOrder_187 : decode cX7_readsOrder 187 = .ok (.ifCond .eq 45, 3) := by decide +kernel
theorem dX7_readsOrder_190 : decode cX7_readsOrder 190 = .ok (.aload_n 0, 1) := by decide +kernel
theorem dX7_readsOrder_191 : decode cX7_readsOrder 191 = .ok (.iconst 2, 1) := by decide +kernel
theorem dX7_readsOrder_192 : decode cX7_readsOrder 192 = .ok (.iconst 0, 1) := by decide +kernel
theorem dX7_readsOrder_193 : decode cX7_readsOrder 193 = .ok (.sipush 199, 3) := by decide +kernel
theorem dX7_readsOrder_196 : decode cX7_readsOrder 196 = .ok (.invokevirtual 148, 3) := by decide +kernel
theorem dX7_readsOrder_199 : decode cX7_readsOrder 199 = .ok (.ifCond .eq 28, 3) := by decide +kernel
theorem dX7_readsOrder_202 : decode cX7_readsOrder 202 = .ok (.aload_n 0, 1) := by decide +kernel
theorem dX7_readsOrder_203 : decode cX7_readsOrder 203 = .ok (.bipush 44, 2) := by decide +kernel
theorem dX7_readsOrder_205 : decode cX7_readsOrder 205 = .ok (.invokevirtual 144, 3) := by decide +kernel
theorem dX7_readsOrder_208 : decode cX7_readsOrder 208 = .ok (.ifCond .eq 19, 3) := by decide +kernel
theorem dX7_readsOrder_211 : decode cX7_readsOrder 211 = .ok (.aload_n 0, 1) := by decide +kernel
theorem dX7_readsOrder_212 : decode cX7_readsOrder 212 = .ok (.iconst 3, 1) := by decide +kernel
theorem dX7_readsOrder_213 : decode cX7_readsOrder 213 = .ok (.iconst 0, 1) := by decide +kernel
theorem dX7_readsOrder_214 : decode cX7_readsOrder 214 = .ok (.sipush 199, 3) := by decide +kernel
theorem dX7_readsOrder_217 : decode cX7_readsOrder 217 = .ok (.invokevirtual 148, 3) := by decide +kernel
theorem dX7_readsOrder_220 : decode cX7_readsOrder 220 = .ok (.ifCond .eq 7, 3) := by decide +kernel
theorem dX7_readsOrder_223 : decode cX7_readsOrder 223 = .ok (.iconst 1, 1) := by decide +kernel
theorem dX7_readsOrder_224 : decode cX7_readsOrder 224 = .ok (.goto 4, 3) := by decide +kernel
theorem dX7_readsOrder_227 : decode cX7_readsOrder 227 = .ok (.iconst 0, 1) := by decide +kernel
theorem dX7_readsOrder_228 : decode cX7_readsOrder 228 = .ok (.istore_n 1, 1) := by decide +kernel
theorem dX7_readsOrder_229 : decode cX7_readsOrder 229 = .ok (.goto 30, 3) := by decide +kernel
theorem dX7_readsOrder_232 : decode cX7_readsOrder 232 = .ok (.aload_n 0, 1) := by decide +kernel
theorem dX7_readsOrder_233 : decode cX7_readsOrder 233 = .ok (.bipush 100, 2) := by decide +kernel
theorem dX7_readsOrder_235 : decode cX7_readsOrder 235 = .ok (.invokevirtual 144, 3) := by decide +kernel
theorem dX7_readsOrder_238 : decode cX7_readsOrder 238 = .ok (.ifCond .eq 19, 3) := by decide +kernel
theorem dX7_readsOrder_241 : decode cX7_readsOrder 241 = .ok (.aload_n 0, 1) := by decide +kernel
theorem dX7_readsOrder_242 : decode cX7_readsOrder 242 = .ok (.iconst 2, 1) := by decide +kernel
theorem dX7_readsOrder_243 : decode cX7_readsOrder 243 = .ok (.iconst 1, 1) := by decide +kernel
theorem dX7_readsOrder_244 : decode cX7_readsOrder 244 = .ok (.sipush 400, 3) := by decide +kernel
theorem dX7_readsOrder_247 : decode cX7_readsOrder 247 = .ok (.invokevirtual 148, 3) := by decide +kernel
theorem dX7_readsOrder_250 : decode cX7_readsOrder 250 = .ok (.ifCond .eq 7, 3) := by decide +kernel
theorem dX7_readsOrder_253 : decode cX7_readsOrder 253 = .ok (.iconst 1, 1) := by decide +kernel
theorem dX7_readsOrder_254 : decode cX7_readsOrder 254 = .ok (.goto 4, 3) := by decide +kernel
theorem dX7_readsOrder_257 : decode cX7_readsOrder 257 = .ok (.iconst 0, 1) := by decide +kernel
theorem dX7_readsOrder_258 : decode cX7_readsOrder 258 = .ok (.istore_n 1, 1) := by decide +kernel
theorem dX7_readsOrder_259 : decode cX7_readsOrder 259 = .ok (.aload_n 0, 1) := by decide +kernel
theorem dX7_readsOrder_260 : decode cX7_readsOrder 260 = .ok (.dup, 1) := by decide +kernel
theorem dX7_readsOrder_261 : decode cX7_readsOrder 261 = .ok (.getfield 141, 3) := by decide +kernel
theorem dX7_readsOrder_264 : decode cX7_readsOrder 264 = .ok (.iload_n 1, 1) := by decide +kernel
theorem dX7_readsOrder_265 : decode cX7_readsOrder 265 = .ok (.ifCond .eq 7, 3) := by decide +kernel
theorem dX7_readsOrder_268 : decode cX7_readsOrder 268 = .ok (.iconst 1, 1) := by decide +kernel
theorem dX7_readsOrder_269 : decode cX7_readsOrder 269 = .ok (.goto 4, 3) := by decide +kernel
theorem dX7_readsOrder_272 : decode cX7_readsOrder 272 = .ok (.iconst 0, 1) := by decide +kernel
theorem dX7_readsOrder_273 : decode cX7_readsOrder 273 = .ok (.iadd, 1) := by decide +kernel
theorem dX7_readsOrder_274 : decode cX7_readsOrder 274 = .ok (.putfield 141, 3) := by decide +kernel
theorem dX7_readsOrder_277 : decode cX7_readsOrder 277 = .ok (.iload_n 1, 1) := by decide +kernel
theorem dX7_readsOrder_278 : decode cX7_readsOrder 278 = .ok (.ireturn, 1) := by decide +kernel
theorem dX7_faultOf_0 : decode cX7_faultOf 0 = .ok (.aload_n 0, 1) := by decide +kernel
theorem dX7_faultOf_1 : decode cX7_faultOf 1 = .ok (.iconst 0, 1) := by decide +kernel
theorem dX7_faultOf_2 : decode cX7_faultOf 2 = .ok (.putfield 134, 3) := by decide +kernel
theorem dX7_faultOf_5 : decode cX7_faultOf 5 = .ok (.aload_n 0, 1) := by decide +kernel
theorem dX7_faultOf_6 : decode cX7_faultOf 6 = .ok (.iconst 0, 1) := by decide +kernel
theorem dX7_faultOf_7 : decode cX7_faultOf 7 = .ok (.putfield 141, 3) := by decide +kernel
theorem dX7_faultOf_10 : decode cX7_faultOf 10 = .ok (.aload_n 0, 1) := by decide +kernel
theorem dX7_faultOf_11 : decode cX7_faultOf 11 = .ok (.invokevirtual 151, 3) := by decide +kernel
theorem dX7_faultOf_14 : decode cX7_faultOf 14 = .ok (.istore_n 1, 1) := by decide +kernel
theorem dX7_faultOf_15 : decode cX7_faultOf 15 = .ok (.iload_n 1, 1) := by decide +kernel
theorem dX7_faultOf_16 : decode cX7_faultOf 16 = .ok (.ifCond .eq 39, 3) := by decide +kernel
theorem dX7_faultOf_19 : decode cX7_faultOf 19 = .ok (.aload_n 0, 1) := by decide +kernel
theorem dX7_faultOf_20 : decode cX7_faultOf 20 = .ok (.getfield 134, 3) := by decide +kernel
theorem dX7_faultOf_23 : decode cX7_faultOf 23 = .ok (.aload_n 0, 1) := by decide +kernel
theorem dX7_faultOf_24 : decode cX7_faultOf 24 = .ok (.getfield 131, 3) := by decide +kernel
theorem dX7_faultOf_27 : decode cX7_faultOf 27 = .ok (.if_icmp .ge 28, 3) := by decide +kernel
theorem dX7_faultOf_30 : decode cX7_faultOf 30 = .ok (.aload_n 0, 1) := by decide +kernel
theorem dX7_faultOf_31 : decode cX7_faultOf 31 = .ok (.bipush 59, 2) := by decide +kernel
theorem dX7_faultOf_33 : decode cX7_faultOf 33 = .ok (.invokevirtual 144, 3) := by decide +kernel
theorem dX7_faultOf_36 : decode cX7_faultOf 36 = .ok (.ifCond .eq 14, 3) := by decide +kernel
theorem dX7_faultOf_39 : decode cX7_faultOf 39 = .ok (.aload_n 0, 1) := by decide +kernel
theorem dX7_faultOf_40 : decode cX7_faultOf 40 = .ok (.invokevirtual 151, 3) := by decide +kernel
theorem dX7_faultOf_43 : decode cX7_faultOf 43 = .ok (.ifCond .eq 7, 3) := by decide +kernel
theorem dX7_faultOf_46 : decode cX7_faultOf 46 = .ok (.iconst 1, 1) := by decide +kernel
theorem dX7_faultOf_47 : decode cX7_faultOf 47 = .ok (.goto 4, 3) := by decide +kernel
theorem dX7_faultOf_50 : decode cX7_faultOf 50 = .ok (.iconst 0, 1) := by decide +kernel
theorem dX7_faultOf_51 : decode cX7_faultOf 51 = .ok (.istore_n 1, 1) := by decide +kernel
theorem dX7_faultOf_52 : decode cX7_faultOf 52 = .ok (.goto (-37), 3) := by decide +kernel
theorem dX7_faultOf_55 : decode cX7_faultOf 55 = .ok (.iload_n 1, 1) := by decide +kernel
theorem dX7_faultOf_56 : decode cX7_faultOf 56 = .ok (.ifCond .eq 7, 3) := by decide +kernel
theorem dX7_faultOf_59 : decode cX7_faultOf 59 = .ok (.iconst (-1), 1) := by decide +kernel
theorem dX7_faultOf_60 : decode cX7_faultOf 60 = .ok (.goto 7, 3) := by decide +kernel
theorem dX7_faultOf_63 : decode cX7_faultOf 63 = .ok (.aload_n 0, 1) := by decide +kernel
theorem dX7_faultOf_64 : decode cX7_faultOf 64 = .ok (.getfield 134, 3) := by decide +kernel
theorem dX7_faultOf_67 : decode cX7_faultOf 67 = .ok (.ireturn, 1) := by decide +kernel
theorem dX7_fault_0 : decode cX7_fault 0 = .ok (.aload_n 0, 1) := by decide +kernel
theorem dX7_fault_1 : decode cX7_fault 1 = .ok (.invokevirtual 155, 3) := by decide +kernel
theorem dX7_fault_4 : decode cX7_fault 4 = .ok (.istore_n 1, 1) := by decide +kernel
theorem dX7_fault_5 : decode cX7_fault 5 = .ok (.iload_n 1, 1) := by decide +kernel
theorem dX7_fault_6 : decode cX7_fault 6 = .ok (.ifCond .ge 8, 3) := by decide +kernel
theorem dX7_fault_9 : decode cX7_fault 9 = .ok (.bipush (-6), 2) := by decide +kernel
theorem dX7_fault_11 : decode cX7_fault 11 = .ok (.goto 4, 3) := by decide +kernel
theorem dX7_fault_14 : decode cX7_fault 14 = .ok (.iload_n 1, 1) := by decide +kernel
theorem dX7_fault_15 : decode cX7_fault 15 = .ok (.ireturn, 1) := by decide +kernel
theorem dX7_does_0 : decode cX7_does 0 = .ok (.iconst 4, 1) := by decide +kernel
theorem dX7_does_1 : decode cX7_does 1 = .ok (.iload_n 1, 1) := by decide +kernel
theorem dX7_does_2 : decode cX7_does 2 = .ok (.imul, 1) := by decide +kernel
theorem dX7_does_3 : decode cX7_does 3 = .ok (.istore_n 2, 1) := by decide +kernel
theorem dX7_does_4 : decode cX7_does 4 = .ok (.aload_n 0, 1) := by decide +kernel
theorem dX7_does_5 : decode cX7_does 5 = .ok (.getfield 26, 3) := by decide +kernel
theorem dX7_does_8 : decode cX7_does 8 = .ok (.iload_n 2, 1) := by decide +kernel
theorem dX7_does_9 : decode cX7_does 9 = .ok (.iconst 1, 1) := by decide +kernel
theorem dX7_does_10 : decode cX7_does 10 = .ok (.iadd, 1) := by decide +kernel
theorem dX7_does_11 : decode cX7_does 11 = .ok (.iaload, 1) := by decide +kernel
theorem dX7_does_12 : decode cX7_does 12 = .ok (.lookupswitch 150 #[(97, 73), (102, 129), (108, 108), (110, 52), (115, 86)], 52) := by decide +kernel
theorem dX7_does_64 : decode cX7_does 64 = .ok (.aload_n 0, 1) := by decide +kernel
theorem dX7_does_65 : decode cX7_does 65 = .ok (.aload_n 0, 1) := by decide +kernel
theorem dX7_does_66 : decode cX7_does 66 = .ok (.getfield 26, 3) := by decide +kernel
theorem dX7_does_69 : decode cX7_does 69 = .ok (.iload_n 2, 1) := by decide +kernel
theorem dX7_does_70 : decode cX7_does 70 = .ok (.iconst 2, 1) := by decide +kernel
theorem dX7_does_71 : decode cX7_does 71 = .ok (.iadd, 1) := by decide +kernel
theorem dX7_does_72 : decode cX7_does 72 = .ok (.iaload, 1) := by decide +kernel
theorem dX7_does_73 : decode cX7_does 73 = .ok (.aload_n 0, 1) := by decide +kernel
theorem dX7_does_74 : decode cX7_does 74 = .ok (.getfield 26, 3) := by decide +kernel
theorem dX7_does_77 : decode cX7_does 77 = .ok (.iload_n 2, 1) := by decide +kernel
theorem dX7_does_78 : decode cX7_does 78 = .ok (.iconst 3, 1) := by decide +kernel
theorem dX7_does_79 : decode cX7_does 79 = .ok (.iadd, 1) := by decide +kernel
theorem dX7_does_80 : decode cX7_does 80 = .ok (.iaload, 1) := by decide +kernel
theorem dX7_does_81 : decode cX7_does 81 = .ok (.invokevirtual 105, 3) := by decide +kernel
theorem dX7_does_84 : decode cX7_does 84 = .ok (.ireturn, 1) := by decide +kernel
theorem dX7_does_85 : decode cX7_does 85 = .ok (.aload_n 0, 1) := by decide +kernel
theorem dX7_does_86 : decode cX7_does 86 = .ok (.aload_n 0, 1) := by decide +kernel
theorem dX7_does_87 : decode cX7_does 87 = .ok (.getfield 26, 3) := by decide +kernel
theorem dX7_does_90 : decode cX7_does 90 = .ok (.iload_n 2, 1) := by decide +kernel
theorem dX7_does_91 : decode cX7_does 91 = .ok (.iconst 2, 1) := by decide +kernel
theorem dX7_does_92 : decode cX7_does 92 = .ok (.iadd, 1) := by decide +kernel
theorem dX7_does_93 : decode cX7_does 93 = .ok (.iaload, 1) := by decide +kernel
theorem dX7_does_94 : decode cX7_does 94 = .ok (.invokevirtual 112, 3) := by decide +kernel
theorem dX7_does_97 : decode cX7_does 97 = .ok (.ireturn, 1) := by decide +kernel
theorem dX7_does_98 : decode cX7_does 98 = .ok (.aload_n 0, 1) := by decide +kernel
theorem dX7_does_99 : decode cX7_does 99 = .ok (.aload_n 0, 1) := by decide +kernel
theorem dX7_does_100 : decode cX7_does 100 = .ok (.getfield 26, 3) := by decide +kernel
theorem dX7_does_103 : decode cX7_does 103 = .ok (.iload_n 2, 1) := by decide +kernel
theorem dX7_does_104 : decode cX7_does 104 = .ok (.iconst 2, 1) := by decide +kernel
theorem dX7_does_105 : decode cX7_does 105 = .ok (.iadd, 1) := by decide +kernel
theorem dX7_does_106 : decode cX7_does 106 = .ok (.iaload, 1) := by decide +kernel
theorem dX7_does_107 : decode cX7_does 107 = .ok (.aload_n 0, 1) := by decide +kernel
theorem dX7_does_108 : decode cX7_does 108 = .ok (.getfield 26, 3) := by decide +kernel
theorem dX7_does_111 : decode cX7_does 111 = .ok (.iload_n 2, 1) := by decide +kernel
theorem dX7_does_112 : decode cX7_does 112 = .ok (.iconst 3, 1) := by decide +kernel
theorem dX7_does_113 : decode cX7_does 113 = .ok (.iadd, 1) := by decide +kernel
theorem dX7_does_114 : decode cX7_does 114 = .ok (.iaload, 1) := by decide +kernel
theorem dX7_does_115 : decode cX7_does 115 = .ok (.iconst (-1), 1) := by decide +kernel
theorem dX7_does_116 : decode cX7_does 116 = .ok (.invokevirtual 115, 3) := by decide +kernel
theorem dX7_does_119 : decode cX7_does 119 = .ok (.ireturn, 1) := by decide +kernel
theorem dX7_does_120 : decode cX7_does 120 = .ok (.aload_n 0, 1) := by decide +kernel
theorem dX7_does_121 : decode cX7_does 121 = .ok (.aload_n 0, 1) := by decide +kernel
theorem dX7_does_122 : decode cX7_does 122 = .ok (.getfield 26, 3) := by decide +kernel
theorem dX7_does_125 : decode cX7_does 125 = .ok (.iload_n 2, 1) := by decide +kernel
theorem dX7_does_126 : decode cX7_does 126 = .ok (.iconst 2, 1) := by decide +kernel
theorem dX7_does_127 : decode cX7_does 127 = .ok (.iadd, 1) := by decide +kernel
theorem dX7_does_128 : decode cX7_does 128 = .ok (.iaload, 1) := by decide +kernel
theorem dX7_does_129 : decode cX7_does 129 = .ok (.aload_n 0, 1) := by decide +kernel
theorem dX7_does_130 : decode cX7_does 130 = .ok (.getfield 26, 3) := by decide +kernel
theorem dX7_does_133 : decode cX7_does 133 = .ok (.iload_n 2, 1) := by decide +kernel
theorem dX7_does_134 : decode cX7_does 134 = .ok (.iconst 3, 1) := by decide +kernel
theorem dX7_does_135 : decode cX7_does 135 = .ok (.iadd, 1) := by decide +kernel
theorem dX7_does_136 : decode cX7_does 136 = .ok (.iaload, 1) := by decide +kernel
theorem dX7_does_137 : decode cX7_does 137 = .ok (.invokevirtual 119, 3) := by decide +kernel
theorem dX7_does_140 : decode cX7_does 140 = .ok (.ireturn, 1) := by decide +kernel
theorem dX7_does_141 : decode cX7_does 141 = .ok (.aload_n 0, 1) := by decide +kernel
theorem dX7_does_142 : decode cX7_does 142 = .ok (.aload_n 0, 1) := by decide +kernel
theorem dX7_does_143 : decode cX7_does 143 = .ok (.getfield 26, 3) := by decide +kernel
theorem dX7_does_146 : decode cX7_does 146 = .ok (.iload_n 2, 1) := by decide +kernel
theorem dX7_does_147 : decode cX7_does 147 = .ok (.iconst 2, 1) := by decide +kernel
theorem dX7_does_148 : decode cX7_does 148 = .ok (.iadd, 1) := by decide +kernel
theorem dX7_does_149 : decode cX7_does 149 = .ok (.iaload, 1) := by decide +kernel
theorem dX7_does_150 : decode cX7_does 150 = .ok (.aload_n 0, 1) := by decide +kernel
theorem dX7_does_151 : decode cX7_does 151 = .ok (.getfield 26, 3) := by decide +kernel
theorem dX7_does_154 : decode cX7_does 154 = .ok (.iload_n 2, 1) := by decide +kernel
theorem dX7_does_155 : decode cX7_does 155 = .ok (.iconst 3, 1) := by decide +kernel
theorem dX7_does_156 : decode cX7_does 156 = .ok (.iadd, 1) := by decide +kernel
theorem dX7_does_157 : decode cX7_does 157 = .ok (.iaload, 1) := by decide +kernel
theorem dX7_does_158 : decode cX7_does 158 = .ok (.invokevirtual 122, 3) := by decide +kernel
theorem dX7_does_161 : decode cX7_does 161 = .ok (.ireturn, 1) := by decide +kernel
theorem dX7_does_162 : decode cX7_does 162 = .ok (.aload_n 0, 1) := by decide +kernel
theorem dX7_does_163 : decode cX7_does 163 = .ok (.aload_n 0, 1) := by decide +kernel
theorem dX7_does_164 : decode cX7_does 164 = .ok (.getfield 26, 3) := by decide +kernel
theorem dX7_does_167 : decode cX7_does 167 = .ok (.iload_n 2, 1) := by decide +kernel
theorem dX7_does_168 : decode cX7_does 168 = .ok (.iconst 2, 1) := by decide +kernel
theorem dX7_does_169 : decode cX7_does 169 = .ok (.iadd, 1) := by decide +kernel
theorem dX7_does_170 : decode cX7_does 170 = .ok (.iaload, 1) := by decide +kernel
theorem dX7_does_171 : decode cX7_does 171 = .ok (.invokevirtual 128, 3) := by decide +kernel
theorem dX7_does_174 : decode cX7_does 174 = .ok (.ireturn, 1) := by decide +kernel
theorem dX7_run_0 : decode cX7_run 0 = .ok (.aload_n 0, 1) := by decide +kernel
theorem dX7_run_1 : decode cX7_run 1 = .ok (.invokevirtual 155, 3) := by decide +kernel
theorem dX7_run_4 : decode cX7_run 4 = .ok (.ifCond .lt 6, 3) := by decide +kernel
theorem dX7_run_7 : decode cX7_run 7 = .ok (.bipush (-3), 2) := by decide +kernel
theorem dX7_run_9 : decode cX7_run 9 = .ok (.ireturn, 1) := by decide +kernel
theorem dX7_run_10 : decode cX7_run 10 = .ok (.aload_n 0, 1) := by decide +kernel
theorem dX7_run_11 : decode cX7_run 11 = .ok (.invokevirtual 102, 3) := by decide +kernel
theorem dX7_run_14 : decode cX7_run 14 = .ok (.iconst 0, 1) := by decide +kernel
theorem dX7_run_15 : decode cX7_run 15 = .ok (.istore_n 1, 1) := by decide +kernel
theorem dX7_run_16 : decode cX7_run 16 = .ok (.aload_n 0, 1) := by decide +kernel
theorem dX7_run_17 : decode cX7_run 17 = .ok (.iconst 0, 1) := by decide +kernel
theorem dX7_run_18 : decode cX7_run 18 = .ok (.putfield 158, 3) := by decide +kernel
theorem dX7_run_21 : decode cX7_run 21 = .ok (.aload_n 0, 1) := by decide +kernel
theorem dX7_run_22 : decode cX7_run 22 = .ok (.getfield 158, 3) := by decide +kernel
theorem dX7_run_25 : decode cX7_run 25 = .ok (.ifCond .ne 70, 3) := by decide +kernel
theorem dX7_run_28 : decode cX7_run 28 = .ok (.iload_n 1, 1) := by decide +kernel
theorem dX7_run_29 : decode cX7_run 29 = .ok (.aload_n 0, 1) := by decide +kernel
theorem dX7_run_30 : decode cX7_run 30 = .ok (.getfield 141, 3) := by decide +kernel
theorem dX7_run_33 : decode cX7_run 33 = .ok (.if_icmp .ge 62, 3) := by decide +kernel
theorem dX7_run_36 : decode cX7_run 36 = .ok (.aload_n 0, 1) := by decide +kernel
theorem dX7_run_37 : decode cX7_run 37 = .ok (.iload_n 1, 1) := by decide +kernel
theorem dX7_run_38 : decode cX7_run 38 = .ok (.invokevirtual 162, 3) := by decide +kernel
theorem dX7_run_41 : decode cX7_run 41 = .ok (.istore_n 2, 1) := by decide +kernel
theorem dX7_run_42 : decode cX7_run 42 = .ok (.iload_n 2, 1) := by decide +kernel
theorem dX7_run_43 : decode cX7_run 43 = .ok (.ifCond .ge 46, 3) := by decide +kernel
theorem dX7_run_46 : decode cX7_run 46 = .ok (.iload_n 2, 1) := by decide +kernel
theorem dX7_run_47 : decode cX7_run 47 = .ok (.bipush (-6), 2) := by decide +kernel
theorem dX7_run_49 : decode cX7_run 49 = .ok (.if_icmp .eq 40, 3) := by decide +kernel
theorem dX7_run_52 : decode cX7_run 52 = .ok (.aload_n 0, 1) := by decide +kernel
theorem dX7_run_53 : decode cX7_run 53 = .ok (.iconst 1, 1) := by decide +kernel
theorem dX7_run_54 : decode cX7_run 54 = .ok (.putfield 158, 3) := by decide +kernel
theorem dX7_run_57 : decode cX7_run 57 = .ok (.aload_n 0, 1) := by decide +kernel
theorem dX7_run_58 : decode cX7_run 58 = .ok (.getfield 29, 3) := by decide +kernel
theorem dX7_run_61 : decode cX7_run 61 = .ok (.iconst 0, 1) := by decide +kernel
theorem dX7_run_62 : decode cX7_run 62 = .ok (.iload_n 1, 1) := by decide +kernel
theorem dX7_run_63 : decode cX7_run 63 = .ok (.iastore, 1) := by decide +kernel
theorem dX7_run_64 : decode cX7_run 64 = .ok (.aload_n 0, 1) := by decide +kernel
theorem dX7_run_65 : decode cX7_run 65 = .ok (.getfield 29, 3) := by decide +kernel
theorem dX7_run_68 : decode cX7_run 68 = .ok (.iconst 1, 1) := by decide +kernel
theorem dX7_run_69 : decode cX7_run 69 = .ok (.aload_n 0, 1) := by decide +kernel
theorem dX7_run_70 : decode cX7_run 70 = .ok (.getfield 26, 3) := by decide +kernel
theorem dX7_run_73 : decode cX7_run 73 = .ok (.iconst 4, 1) := by decide +kernel
theorem dX7_run_74 : decode cX7_run 74 = .ok (.iload_n 1, 1) := by decide +kernel
theorem dX7_run_75 : decode cX7_run 75 = .ok (.imul, 1) := by decide +kernel
theorem dX7_run_76 : decode cX7_run 76 = .ok (.iaload, 1) := by decide +kernel
theorem dX7_run_77 : decode cX7_run 77 = .ok (.iastore, 1) := by decide +kernel
theorem dX7_run_78 : decode cX7_run 78 = .ok (.aload_n 0, 1) := by decide +kernel
theorem dX7_run_79 : decode cX7_run 79 = .ok (.getfield 29, 3) := by decide +kernel
theorem dX7_run_82 : decode cX7_run 82 = .ok (.iconst 2, 1) := by decide +kernel
theorem dX7_run_83 : decode cX7_run 83 = .ok (.iload_n 2, 1) := by decide +kernel
theorem dX7_run_84 : decode cX7_run 84 = .ok (.ineg, 1) := by decide +kernel
theorem dX7_run_85 : decode cX7_run 85 = .ok (.iastore, 1) := by decide +kernel
theorem dX7_run_86 : decode cX7_run 86 = .ok (.goto 6, 3) := by decide +kernel
theorem dX7_run_89 : decode cX7_run 89 = .ok (.iinc 1 1, 3) := by decide +kernel
theorem dX7_run_92 : decode cX7_run 92 = .ok (.goto (-71), 3) := by decide +kernel
theorem dX7_run_95 : decode cX7_run 95 = .ok (.aload_n 0, 1) := by decide +kernel
theorem dX7_run_96 : decode cX7_run 96 = .ok (.iload_n 1, 1) := by decide +kernel
theorem dX7_run_97 : decode cX7_run 97 = .ok (.invokevirtual 109, 3) := by decide +kernel
theorem dX7_run_100 : decode cX7_run 100 = .ok (.ireturn, 1) := by decide +kernel
theorem dX7_why_0 : decode cX7_why 0 = .ok (.iload_n 1, 1) := by decide +kernel
theorem dX7_why_1 : decode cX7_why 1 = .ok (.iconst 0, 1) := by decide +kernel
theorem dX7_why_2 : decode cX7_why 2 = .ok (.iconst 2, 1) := by decide +kernel
theorem dX7_why_3 : decode cX7_why 3 = .ok (.invokestatic 86, 3) := by decide +kernel
theorem dX7_why_6 : decode cX7_why 6 = .ok (.ifCond .ne 8, 3) := by decide +kernel
theorem dX7_why_9 : decode cX7_why 9 = .ok (.bipush (-2), 2) := by decide +kernel
theorem dX7_why_11 : decode cX7_why 11 = .ok (.goto 21, 3) := by decide +kernel
theorem dX7_why_14 : decode cX7_why 14 = .ok (.aload_n 0, 1) := by decide +kernel
theorem dX7_why_15 : decode cX7_why 15 = .ok (.getfield 158, 3) := by decide +kernel
theorem dX7_why_18 : decode cX7_why 18 = .ok (.ifCond .eq 12, 3) := by decide +kernel
theorem dX7_why_21 : decode cX7_why 21 = .ok (.aload_n 0, 1) := by decide +kernel
theorem dX7_why_22 : decode cX7_why 22 = .ok (.getfield 29, 3) := by decide +kernel
theorem dX7_why_25 : decode cX7_why 25 = .ok (.iload_n 1, 1) := by decide +kernel
theorem dX7_why_26 : decode cX7_why 26 = .ok (.iaload, 1) := by decide +kernel
theorem dX7_why_27 : decode cX7_why 27 = .ok (.goto 5, 3) := by decide +kernel
theorem dX7_why_30 : decode cX7_why 30 = .ok (.bipush (-6), 2) := by decide +kernel
theorem dX7_why_32 : decode cX7_why 32 = .ok (.ireturn, 1) := by decide +kernel
theorem dX7_undo_0 : decode cX7_undo 0 = .ok (.aload_n 0, 1) := by decide +kernel
theorem dX7_undo_1 : decode cX7_undo 1 = .ok (.getfield 40, 3) := by decide +kernel
theorem dX7_undo_4 : decode cX7_undo 4 = .ok (.ifCond .ne 6, 3) := by decide +kernel
theorem dX7_undo_7 : decode cX7_undo 7 = .ok (.bipush (-6), 2) := by decide +kernel
theorem dX7_undo_9 : decode cX7_undo 9 = .ok (.ireturn, 1) := by decide +kernel
theorem dX7_undo_10 : decode cX7_undo 10 = .ok (.aload_n 0, 1) := by decide +kernel
theorem dX7_undo_11 : decode cX7_undo 11 = .ok (.dup, 1) := by decide +kernel
theorem dX7_undo_12 : decode cX7_undo 12 = .ok (.getfield 40, 3) := by decide +kernel
theorem dX7_undo_15 : decode cX7_undo 15 = .ok (.iconst 1, 1) := by decide +kernel
theorem dX7_undo_16 : decode cX7_undo 16 = .ok (.isub, 1) := by decide +kernel
theorem dX7_undo_17 : decode cX7_undo 17 = .ok (.putfield 40, 3) := by decide +kernel
theorem dX7_undo_20 : decode cX7_undo 20 = .ok (.iconst 0, 1) := by decide +kernel
theorem dX7_undo_21 : decode cX7_undo 21 = .ok (.istore_n 1, 1) := by decide +kernel
theorem dX7_undo_22 : decode cX7_undo 22 = .ok (.iload_n 1, 1) := by decide +kernel
theorem dX7_undo_23 : decode cX7_undo 23 = .ok (.sipush 453, 3) := by decide +kernel
theorem dX7_undo_26 : decode cX7_undo 26 = .ok (.if_icmp .ge 30, 3) := by decide +kernel
theorem dX7_undo_29 : decode cX7_undo 29 = .ok (.aload_n 0, 1) := by decide +kernel
theorem dX7_undo_30 : decode cX7_undo 30 = .ok (.getfield 7, 3) := by decide +kernel
theorem dX7_undo_33 : decode cX7_undo 33 = .ok (.iload_n 1, 1) := by decide +kernel
theorem dX7_undo_34 : decode cX7_undo 34 = .ok (.aload_n 0, 1) := by decide +kernel
theorem dX7_undo_35 : decode cX7_undo 35 = .ok (.getfield 19, 3) := by decide +kernel
theorem dX7_undo_38 : decode cX7_undo 38 = .ok (.sipush 453, 3) := by decide +kernel
theorem dX7_undo_41 : decode cX7_undo 41 = .ok (.aload_n 0, 1) := by decide +kernel
theorem dX7_undo_42 : decode cX7_undo 42 = .ok (.getfield 40, 3) := by decide +kernel
theorem dX7_undo_45 : decode cX7_undo 45 = .ok (.imul, 1) := by decide +kernel
theorem dX7_undo_46 : decode cX7_undo 46 = .ok (.iload_n 1, 1) := by decide +kernel
theorem dX7_undo_47 : decode cX7_undo 47 = .ok (.iadd, 1) := by decide +kernel
theorem dX7_undo_48 : decode cX7_undo 48 = .ok (.iaload, 1) := by decide +kernel
theorem dX7_undo_49 : decode cX7_undo 49 = .ok (.iastore, 1) := by decide +kernel
theorem dX7_undo_50 : decode cX7_undo 50 = .ok (.iinc 1 1, 3) := by decide +kernel
theorem dX7_undo_53 : decode cX7_undo 53 = .ok (.goto (-31), 3) := by decide +kernel
theorem dX7_undo_56 : decode cX7_undo 56 = .ok (.aload_n 0, 1) := by decide +kernel
theorem dX7_undo_57 : decode cX7_undo 57 = .ok (.getfield 40, 3) := by decide +kernel
theorem dX7_undo_60 : decode cX7_undo 60 = .ok (.ireturn, 1) := by decide +kernel
theorem dX7_now_0 : decode cX7_now 0 = .ok (.aload_n 0, 1) := by decide +kernel
theorem dX7_now_1 : decode cX7_now 1 = .ok (.getfield 7, 3) := by decide +kernel
theorem dX7_now_4 : decode cX7_now 4 = .ok (.bipush 7, 2) := by decide +kernel
theorem dX7_now_6 : decode cX7_now 6 = .ok (.iaload, 1) := by decide +kernel
theorem dX7_now_7 : decode cX7_now 7 = .ok (.ireturn, 1) := by decide +kernel
theorem dX7_count_0 : decode cX7_count 0 = .ok (.iload_n 1, 1) := by decide +kernel
theorem dX7_count_1 : decode cX7_count 1 = .ok (.tableswitch 104 0 9 #[55, 63, 71, 76, 76, 76, 76, 76, 88, 96], 55) := by decide +kernel
theorem dX7_count_56 : decode cX7_count 56 = .ok (.aload_n 0, 1) := by decide +kernel
theorem dX7_count_57 : decode cX7_count 57 = .ok (.getfield 7, 3) := by decide +kernel
theorem dX7_count_60 : decode cX7_count 60 = .ok (.bipush 14, 2) := by decide +kernel
theorem dX7_count_62 : decode cX7_count 62 = .ok (.iaload, 1) := by decide +kernel
theorem dX7_count_63 : decode cX7_count 63 = .ok (.ireturn, 1) := by decide +kernel
theorem dX7_count_64 : decode cX7_count 64 = .ok (.aload_n 0, 1) := by decide +kernel
theorem dX7_count_65 : decode cX7_count 65 = .ok (.getfield 7, 3) := by decide +kernel
theorem dX7_count_68 : decode cX7_count 68 = .ok (.bipush 8, 2) := by decide +kernel
theorem dX7_count_70 : decode cX7_count 70 = .ok (.iaload, 1) := by decide +kernel
theorem dX7_count_71 : decode cX7_count 71 = .ok (.ireturn, 1) := by decide +kernel
theorem dX7_count_72 : decode cX7_count 72 = .ok (.aload_n 0, 1) := by decide +kernel
theorem dX7_count_73 : decode cX7_count 73 = .ok (.invokevirtual 90, 3) := by decide +kernel
theorem dX7_count_76 : decode cX7_count 76 = .ok (.ireturn, 1) := by decide +kernel
theorem dX7_count_77 : decode cX7_count 77 = .ok (.aload_n 0, 1) := by decide +kernel
theorem dX7_count_78 : decode cX7_count 78 = .ok (.getfield 7, 3) := by decide +kernel
theorem dX7_count_81 : decode cX7_count 81 = .ok (.bipush 9, 2) := by decide +kernel
theorem dX7_count_83 : decode cX7_count 83 = .ok (.iload_n 1, 1) := by decide +kernel
theorem dX7_count_84 : decode cX7_count 84 = .ok (.iadd, 1) := by decide +kernel
theorem dX7_count_85 : decode cX7_count 85 = .ok (.iconst 3, 1) := by decide +kernel
theorem dX7_count_86 : decode cX7_count 86 = .ok (.isub, 1) := by decide +kernel
theorem dX7_count_87 : decode cX7_count 87 = .ok (.iaload, 1) := by decide +kernel
theorem dX7_count_88 : decode cX7_count 88 = .ok (.ireturn, 1) := by decide +kernel
theorem dX7_count_89 : decode cX7_count 89 = .ok (.aload_n 0, 1) := by decide +kernel
theorem dX7_count_90 : decode cX7_count 90 = .ok (.getfield 7, 3) := by decide +kernel
theorem dX7_count_93 : decode cX7_count 93 = .ok (.bipush 15, 2) := by decide +kernel
theorem dX7_count_95 : decode cX7_count 95 = .ok (.iaload, 1) := by decide +kernel
theorem dX7_count_96 : decode cX7_count 96 = .ok (.ireturn, 1) := by decide +kernel
theorem dX7_count_97 : decode cX7_count 97 = .ok (.aload_n 0, 1) := by decide +kernel
theorem dX7_count_98 : decode cX7_count 98 = .ok (.getfield 7, 3) := by decide +kernel
theorem dX7_count_101 : decode cX7_count 101 = .ok (.bipush 16, 2) := by decide +kernel
theorem dX7_count_103 : decode cX7_count 103 = .ok (.iaload, 1) := by decide +kernel
theorem dX7_count_104 : decode cX7_count 104 = .ok (.ireturn, 1) := by decide +kernel
theorem dX7_count_105 : decode cX7_count 105 = .ok (.bipush (-2), 2) := by decide +kernel
theorem dX7_count_107 : decode cX7_count 107 = .ok (.ireturn, 1) := by decide +kernel
theorem dX7_fileAt_0 : decode cX7_fileAt 0 = .ok (.iload_n 1, 1) := by decide +kernel
theorem dX7_fileAt_1 : decode cX7_fileAt 1 = .ok (.ifCond .ge 8, 3) := by decide +kernel
theorem dX7_fileAt_4 : decode cX7_fileAt 4 = .ok (.bipush (-2), 2) := by decide +kernel
theorem dX7_fileAt_6 : decode cX7_fileAt 6 = .ok (.goto 28, 3) := by decide +kernel
theorem dX7_fileAt_9 : decode cX7_fileAt 9 = .ok (.iload_n 1, 1) := by decide +kernel
theorem dX7_fileAt_10 : decode cX7_fileAt 10 = .ok (.aload_n 0, 1) := by decide +kernel
theorem dX7_fileAt_11 : decode cX7_fileAt 11 = .ok (.getfield 7, 3) := by decide +kernel
theorem dX7_fileAt_14 : decode cX7_fileAt 14 = .ok (.bipush 14, 2) := by decide +kernel
theorem dX7_fileAt_16 : decode cX7_fileAt 16 = .ok (.iaload, 1) := by decide +kernel
theorem dX7_fileAt_17 : decode cX7_fileAt 17 = .ok (.if_icmp .ge 15, 3) := by decide +kernel
theorem dX7_fileAt_20 : decode cX7_fileAt 20 = .ok (.aload_n 0, 1) := by decide +kernel
theorem dX7_fileAt_21 : decode cX7_fileAt 21 = .ok (.getfield 7, 3) := by decide +kernel
theorem dX7_fileAt_24 : decode cX7_fileAt 24 = .ok (.iload_n 1, 1) := by decide +kernel
theorem dX7_fileAt_25 : decode cX7_fileAt 25 = .ok (.invokestatic 36, 3) := by decide +kernel
theorem dX7_fileAt_28 : decode cX7_fileAt 28 = .ok (.iaload, 1) := by decide +kernel
theorem dX7_fileAt_29 : decode cX7_fileAt 29 = .ok (.goto 5, 3) := by decide +kernel
theorem dX7_fileAt_32 : decode cX7_fileAt 32 = .ok (.bipush (-6), 2) := by decide +kernel
theorem dX7_fileAt_34 : decode cX7_fileAt 34 = .ok (.ireturn, 1) := by decide +kernel
theorem dX7_file_0 : decode cX7_file 0 = .ok (.aload_n 0, 1) := by decide +kernel
theorem dX7_file_1 : decode cX7_file 1 = .ok (.iload_n 1, 1) := by decide +kernel
theorem dX7_file_2 : decode cX7_file 2 = .ok (.invokevirtual 60, 3) := by decide +kernel
theorem dX7_file_5 : decode cX7_file 5 = .ok (.istore_n 3, 1) := by decide +kernel
theorem dX7_file_6 : decode cX7_file 6 = .ok (.iload_n 3, 1) := by decide +kernel
theorem dX7_file_7 : decode cX7_file 7 = .ok (.iconst (-1), 1) := by decide +kernel
theorem dX7_file_8 : decode cX7_file 8 = .ok (.if_icmp .ne 5, 3) := by decide +kernel
theorem dX7_file_11 : decode cX7_file 11 = .ok (.iconst (-1), 1) := by decide +kernel
theorem dX7_file_12 : decode cX7_file 12 = .ok (.ireturn, 1) := by decide +kernel
theorem dX7_file_13 : decode cX7_file 13 = .ok (.iload_n 3, 1) := by decide +kernel
theorem dX7_file_14 : decode cX7_file 14 = .ok (.invokestatic 36, 3) := by decide +kernel
theorem dX7_file_17 : decode cX7_file 17 = .ok (.istore 4, 2) := by decide +kernel
theorem dX7_file_19 : decode cX7_file 19 = .ok (.iload_n 2, 1) := by decide +kernel
theorem dX7_file_20 : decode cX7_file 20 = .ok (.tableswitch 148 0 9 #[56, 56, 56, 68, 56, 95, 124, 130, 136, 142], 56) := by decide +kernel
theorem dX7_file_76 : decode cX7_file 76 = .ok (.aload_n 0, 1) := by decide +kernel
theorem dX7_file_77 : decode cX7_file 77 = .ok (.getfield 7, 3) := by decide +kernel
theorem dX7_file_80 : decode cX7_file 80 = .ok (.iload 4, 2) := by decide +kernel
theorem dX7_file_82 : decode cX7_file 82 = .ok (.iconst 1, 1) := by decide +kernel
theorem dX7_file_83 : decode cX7_file 83 = .ok (.iadd, 1) := by decide +kernel
theorem dX7_file_84 : decode cX7_file 84 = .ok (.iload_n 2, 1) := by decide +kernel
theorem dX7_file_85 : decode cX7_file 85 = .ok (.iadd, 1) := by decide +kernel
theorem dX7_file_86 : decode cX7_file 86 = .ok (.iaload, 1) := by decide +kernel
theorem dX7_file_87 : decode cX7_file 87 = .ok (.ireturn, 1) := by decide +kernel
theorem dX7_file_88 : decode cX7_file 88 = .ok (.aload_n 0, 1) := by decide +kernel
theorem dX7_file_89 : decode cX7_file 89 = .ok (.getfield 7, 3) := by decide +kernel
theorem dX7_file_92 : decode cX7_file 92 = .ok (.iload 4, 2) := by decide +kernel
theorem dX7_file_94 : decode cX7_file 94 = .ok (.iconst 4, 1) := by decide +kernel
theorem dX7_file_95 : decode cX7_file 95 = .ok (.iadd, 1) := by decide +kernel
theorem dX7_file_96 : decode cX7_file 96 = .ok (.iaload, 1) := by decide +kernel
theorem dX7_file_97 : decode cX7_file 97 = .ok (.ifCond .ge 8, 3) := by decide +kernel
theorem dX7_file_100 : decode cX7_file 100 = .ok (.bipush (-6), 2) := by decide +kernel
theorem dX7_file_102 : decode cX7_file 102 = .ok (.goto 12, 3) := by decide +kernel
theorem dX7_file_105 : decode cX7_file 105 = .ok (.aload_n 0, 1) := by decide +kernel
theorem dX7_file_106 : decode cX7_file 106 = .ok (.getfield 7, 3) := by decide +kernel
theorem dX7_file_109 : decode cX7_file 109 = .ok (.iload 4, 2) := by decide +kernel
theorem dX7_file_111 : decode cX7_file 111 = .ok (.iconst 4, 1) := by decide +kernel
theorem dX7_file_112 : decode cX7_file 112 = .ok (.iadd, 1) := by decide +kernel
theorem dX7_file_113 : decode cX7_file 113 = .ok (.iaload, 1) := by decide +kernel
theorem dX7_file_114 : decode cX7_file 114 = .ok (.ireturn, 1) := by decide +kernel
theorem dX7_file_115 : decode cX7_file 115 = .ok (.aload_n 0, 1) := by decide +kernel
theorem dX7_file_116 : decode cX7_file 116 = .ok (.getfield 7, 3) := by decide +kernel
theorem dX7_file_119 : decode cX7_file 119 = .ok (.iload 4, 2) := by decide +kernel
theorem dX7_file_121 : decode cX7_file 121 = .ok (.bipush 6, 2) := by decide +kernel
theorem dX7_file_123 : decode cX7_file 123 = .ok (.iadd, 1) := by decide +kernel
theorem dX7_file_124 : decode cX7_file 124 = .ok (.iaload, 1) := by decide +kernel
theorem dX7_file_125 : decode cX7_file 125 = .ok (.ifCond .ge 8, 3) := by decide +kernel
theorem dX7_file_128 : decode cX7_file 128 = .ok (.bipush (-6), 2) := by decide +kernel
theorem dX7_file_130 : decode cX7_file 130 = .ok (.goto 13, 3) := by decide +kernel
theorem dX7_file_133 : decode cX7_file 133 = .ok (.aload_n 0, 1) := by decide +kernel
theorem dX7_file_134 : decode cX7_file 134 = .ok (.getfield 7, 3) := by decide +kernel
theorem dX7_file_137 : decode cX7_file 137 = .ok (.iload 4, 2) := by decide +kernel
theorem dX7_file_139 : decode cX7_file 139 = .ok (.bipush 6, 2) := by decide +kernel
theorem dX7_file_141 : decode cX7_file 141 = .ok (.iadd, 1) := by decide +kernel
theorem dX7_file_142 : decode cX7_file 142 = .ok (.iaload, 1) := by decide +kernel
theorem dX7_file_143 : decode cX7_file 143 = .ok (.ireturn, 1) := by decide +kernel
theorem dX7_file_144 : decode cX7_file 144 = .ok (.aload_n 0, 1) := by decide +kernel
theorem dX7_file_145 : decode cX7_file 145 = .ok (.iload_n 3, 1) := by decide +kernel
theorem dX7_file_146 : decode cX7_file 146 = .ok (.invokevirtual 48, 3) := by decide +kernel
theorem dX7_file_149 : decode cX7_file 149 = .ok (.ireturn, 1) := by decide +kernel
theorem dX7_file_150 : decode cX7_file 150 = .ok (.aload_n 0, 1) := by decide +kernel
theorem dX7_file_151 : decode cX7_file 151 = .ok (.iload_n 3, 1) := by decide +kernel
theorem dX7_file_152 : decode cX7_file 152 = .ok (.invokevirtual 51, 3) := by decide +kernel
theorem dX7_file_155 : decode cX7_file 155 = .ok (.ireturn, 1) := by decide +kernel
theorem dX7_file_156 : decode cX7_file 156 = .ok (.aload_n 0, 1) := by decide +kernel
theorem dX7_file_157 : decode cX7_file 157 = .ok (.iload_n 1, 1) := by decide +kernel
theorem dX7_file_158 : decode cX7_file 158 = .ok (.invokevirtual 96, 3) := by decide +kernel
theorem dX7_file_161 : decode cX7_file 161 = .ok (.ireturn, 1) := by decide +kernel
theorem dX7_file_162 : decode cX7_file 162 = .ok (.aload_n 0, 1) := by decide +kernel
theorem dX7_file_163 : decode cX7_file 163 = .ok (.iload_n 1, 1) := by decide +kernel
theorem dX7_file_164 : decode cX7_file 164 = .ok (.invokevirtual 54, 3) := by decide +kernel
theorem dX7_file_167 : decode cX7_file 167 = .ok (.ireturn, 1) := by decide +kernel
theorem dX7_file_168 : decode cX7_file 168 = .ok (.bipush (-2), 2) := by decide +kernel
theorem dX7_file_170 : decode cX7_file 170 = .ok (.ireturn, 1) := by decide +kernel
theorem dX7_sealOf_0 : decode cX7_sealOf 0 = .ok (.aload_n 0, 1) := by decide +kernel
theorem dX7_sealOf_1 : decode cX7_sealOf 1 = .ok (.iload_n 2, 1) := by decide +kernel
theorem dX7_sealOf_2 : decode cX7_sealOf 2 = .ok (.invokevirtual 60, 3) := by decide +kernel
theorem dX7_sealOf_5 : decode cX7_sealOf 5 = .ok (.istore_n 3, 1) := by decide +kernel
theorem dX7_sealOf_6 : decode cX7_sealOf 6 = .ok (.iload_n 1, 1) := by decide +kernel
theorem dX7_sealOf_7 : decode cX7_sealOf 7 = .ok (.iconst 0, 1) := by decide +kernel
theorem dX7_sealOf_8 : decode cX7_sealOf 8 = .ok (.bipush 7, 2) := by decide +kernel
theorem dX7_sealOf_10 : decode cX7_sealOf 10 = .ok (.invokestatic 86, 3) := by decide +kernel
theorem dX7_sealOf_13 : decode cX7_sealOf 13 = .ok (.ifCond .eq 8, 3) := by decide +kernel
theorem dX7_sealOf_16 : decode cX7_sealOf 16 = .ok (.iload_n 3, 1) := by decide +kernel
theorem dX7_sealOf_17 : decode cX7_sealOf 17 = .ok (.iconst (-1), 1) := by decide +kernel
theorem dX7_sealOf_18 : decode cX7_sealOf 18 = .ok (.if_icmp .ne 5, 3) := by decide +kernel
theorem dX7_sealOf_21 : decode cX7_sealOf 21 = .ok (.iconst (-1), 1) := by decide +kernel
theorem dX7_sealOf_22 : decode cX7_sealOf 22 = .ok (.ireturn, 1) := by decide +kernel
theorem dX7_sealOf_23 : decode cX7_sealOf 23 = .ok (.aload_n 0, 1) := by decide +kernel
theorem dX7_sealOf_24 : decode cX7_sealOf 24 = .ok (.getfield 7, 3) := by decide +kernel
theorem dX7_sealOf_27 : decode cX7_sealOf 27 = .ok (.iload_n 3, 1) := by decide +kernel
theorem dX7_sealOf_28 : decode cX7_sealOf 28 = .ok (.invokestatic 36, 3) := by decide +kernel
theorem dX7_sealOf_31 : decode cX7_sealOf 31 = .ok (.bipush 7, 2) := by decide +kernel
theorem dX7_sealOf_33 : decode cX7_sealOf 33 = .ok (.iadd, 1) := by decide +kernel
theorem dX7_sealOf_34 : decode cX7_sealOf 34 = .ok (.iload_n 1, 1) := by decide +kernel
theorem dX7_sealOf_35 : decode cX7_sealOf 35 = .ok (.iadd, 1) := by decide +kernel
theorem dX7_sealOf_36 : decode cX7_sealOf 36 = .ok (.iaload, 1) := by decide +kernel
theorem dX7_sealOf_37 : decode cX7_sealOf 37 = .ok (.istore 4, 2) := by decide +kernel
theorem dX7_sealOf_39 : decode cX7_sealOf 39 = .ok (.iload 4, 2) := by decide +kernel
theorem dX7_sealOf_41 : decode cX7_sealOf 41 = .ok (.ifCond .ne 8, 3) := by decide +kernel
theorem dX7_sealOf_44 : decode cX7_sealOf 44 = .ok (.bipush (-6), 2) := by decide +kernel
theorem dX7_sealOf_46 : decode cX7_sealOf 46 = .ok (.goto 7, 3) := by decide +kernel
theorem dX7_sealOf_49 : decode cX7_sealOf 49 = .ok (.iload 4, 2) := by decide +kernel
theorem dX7_sealOf_51 : decode cX7_sealOf 51 = .ok (.iconst 1, 1) := by decide +kernel
theorem dX7_sealOf_52 : decode cX7_sealOf 52 = .ok (.isub, 1) := by decide +kernel
theorem dX7_sealOf_53 : decode cX7_sealOf 53 = .ok (.ireturn, 1) := by decide +kernel
theorem dX7_trace_0 : decode cX7_trace 0 = .ok (.iload_n 1, 1) := by decide +kernel
theorem dX7_trace_1 : decode cX7_trace 1 = .ok (.ifCond .lt 12, 3) := by decide +kernel
theorem dX7_trace_4 : decode cX7_trace 4 = .ok (.iload_n 2, 1) := by decide +kernel
theorem dX7_trace_5 : decode cX7_trace 5 = .ok (.iconst 0, 1) := by decide +kernel
theorem dX7_trace_6 : decode cX7_trace 6 = .ok (.iconst 4, 1) := by decide +kernel
theorem dX7_trace_7 : decode cX7_trace 7 = .ok (.invokestatic 86, 3) := by decide +kernel
theorem dX7_trace_10 : decode cX7_trace 10 = .ok (.ifCond .ne 6, 3) := by decide +kernel
theorem dX7_trace_13 : decode cX7_trace 13 = .ok (.bipush (-2), 2) := by decide +kernel
theorem dX7_trace_15 : decode cX7_trace 15 = .ok (.ireturn, 1) := by decide +kernel
theorem dX7_trace_16 : decode cX7_trace 16 = .ok (.iload_n 1, 1) := by decide +kernel
theorem dX7_trace_17 : decode cX7_trace 17 = .ok (.aload_n 0, 1) := by decide +kernel
theorem dX7_trace_18 : decode cX7_trace 18 = .ok (.getfield 7, 3) := by decide +kernel
theorem dX7_trace_21 : decode cX7_trace 21 = .ok (.bipush 16, 2) := by decide +kernel
theorem dX7_trace_23 : decode cX7_trace 23 = .ok (.iaload, 1) := by decide +kernel
theorem dX7_trace_24 : decode cX7_trace 24 = .ok (.if_icmp .ge 30, 3) := by decide +kernel
theorem dX7_trace_27 : decode cX7_trace 27 = .ok (.aload_n 0, 1) := by decide +kernel
theorem dX7_trace_28 : decode cX7_trace 28 = .ok (.getfield 7, 3) := by decide +kernel
theorem dX7_trace_31 : decode cX7_trace 31 = .ok (.sipush 393, 3) := by decide +kernel
theorem dX7_trace_34 : decode cX7_trace 34 = .ok (.iconst 5, 1) := by decide +kernel
theorem dX7_trace_35 : decode cX7_trace 35 = .ok (.aload_n 0, 1) := by decide +kernel
theorem dX7_trace_36 : decode cX7_trace 36 = .ok (.getfield 7, 3) := by decide +kernel
theorem dX7_trace_39 : decode cX7_trace 39 = .ok (.bipush 16, 2) := by decide +kernel
theorem dX7_trace_41 : decode cX7_trace 41 = .ok (.iaload, 1) := by decide +kernel
theorem dX7_trace_42 : decode cX7_trace 42 = .ok (.iconst 1, 1) := by decide +kernel
theorem dX7_trace_43 : decode cX7_trace 43 = .ok (.isub, 1) := by decide +kernel
theorem dX7_trace_44 : decode cX7_trace 44 = .ok (.iload_n 1, 1) := by decide +kernel
theorem dX7_trace_45 : decode cX7_trace 45 = .ok (.isub, 1) := by decide +kernel
theorem dX7_trace_46 : decode cX7_trace 46 = .ok (.imul, 1) := by decide +kernel
theorem dX7_trace_47 : decode cX7_trace 47 = .ok (.iadd, 1) := by decide +kernel
theorem dX7_trace_48 : decode cX7_trace 48 = .ok (.iload_n 2, 1) := by decide +kernel
theorem dX7_trace_49 : decode cX7_trace 49 = .ok (.iadd, 1) := by decide +kernel
theorem dX7_trace_50 : decode cX7_trace 50 = .ok (.iaload, 1) := by decide +kernel
theorem dX7_trace_51 : decode cX7_trace 51 = .ok (.goto 5, 3) := by decide +kernel
theorem dX7_trace_54 : decode cX7_trace 54 = .ok (.bipush (-6), 2) := by decide +kernel
theorem dX7_trace_56 : decode cX7_trace 56 = .ok (.ireturn, 1) := by decide +kernel
theorem dX7_ahead_0 : decode cX7_ahead 0 = .ok (.iconst 0, 1) := by decide +kernel
theorem dX7_ahead_1 : decode cX7_ahead 1 = .ok (.istore_n 2, 1) := by decide +kernel
theorem dX7_ahead_2 : decode cX7_ahead 2 = .ok (.iconst 0, 1) := by decide +kernel
theorem dX7_ahead_3 : decode cX7_ahead 3 = .ok (.istore_n 3, 1) := by decide +kernel
theorem dX7_ahead_4 : decode cX7_ahead 4 = .ok (.iload_n 3, 1) := by decide +kernel
theorem dX7_ahead_5 : decode cX7_ahead 5 = .ok (.aload_n 0, 1) := by decide +kernel
theorem dX7_ahead_6 : decode cX7_ahead 6 = .ok (.getfield 7, 3) := by decide +kernel
theorem dX7_ahead_9 : decode cX7_ahead 9 = .ok (.bipush 15, 2) := by decide +kernel
theorem dX7_ahead_11 : decode cX7_ahead 11 = .ok (.iaload, 1) := by decide +kernel
theorem dX7_ahead_12 : decode cX7_ahead 12 = .ok (.if_icmp .ge 85, 3) := by decide +kernel
theorem dX7_ahead_15 : decode cX7_ahead 15 = .ok (.aload_n 0, 1) := by decide +kernel
theorem dX7_ahead_16 : decode cX7_ahead 16 = .ok (.getfield 7, 3) := by decide +kernel
theorem dX7_ahead_19 : decode cX7_ahead 19 = .ok (.sipush 377, 3) := by decide +kernel
theorem dX7_ahead_22 : decode cX7_ahead 22 = .ok (.iconst 2, 1) := by decide +kernel
theorem dX7_ahead_23 : decode cX7_ahead 23 = .ok (.iload_n 3, 1) := by decide +kernel
theorem dX7_ahead_24 : decode cX7_ahead 24 = .ok (.imul, 1) := by decide +kernel
theorem dX7_ahead_25 : decode cX7_ahead 25 = .ok (.iadd, 1) := by decide +kernel
theorem dX7_ahead_26 : decode cX7_ahead 26 = .ok (.iconst 1, 1) := by decide +kernel
theorem dX7_ahead_27 : decode cX7_ahead 27 = .ok (.iadd, 1) := by decide +kernel
theorem dX7_ahead_28 : decode cX7_ahead 28 = .ok (.iaload, 1) := by decide +kernel
theorem dX7_ahead_29 : decode cX7_ahead 29 = .ok (.aload_n 0, 1) := by decide +kernel
theorem dX7_ahead_30 : decode cX7_ahead 30 = .ok (.getfield 7, 3) := by decide +kernel
theorem dX7_ahead_33 : decode cX7_ahead 33 = .ok (.sipush 377, 3) := by decide +kernel
theorem dX7_ahead_36 : decode cX7_ahead 36 = .ok (.iconst 2, 1) := by decide +kernel
theorem dX7_ahead_37 : decode cX7_ahead 37 = .ok (.iload_n 1, 1) := by decide +kernel
theorem dX7_ahead_38 : decode cX7_ahead 38 = .ok (.imul, 1) := by decide +kernel
theorem dX7_ahead_39 : decode cX7_ahead 39 = .ok (.iadd, 1) := by decide +kernel
theorem dX7_ahead_40 : decode cX7_ahead 40 = .ok (.iconst 1, 1) := by decide +kernel
theorem dX7_ahead_41 : decode cX7_ahead 41 = .ok (.iadd, 1) := by decide +kernel
theorem dX7_ahead_42 : decode cX7_ahead 42 = .ok (.iaload, 1) := by decide +kernel
theorem dX7_ahead_43 : decode cX7_ahead 43 = .ok (.isub, 1) := by decide +kernel
theorem dX7_ahead_44 : decode cX7_ahead 44 = .ok (.istore 4, 2) := by decide +kernel
theorem dX7_ahead_46 : decode cX7_ahead 46 = .ok (.iload_n 2, 1) := by decide +kernel
theorem dX7_ahead_47 : decode cX7_ahead 47 = .ok (.iload 4, 2) := by decide +kernel
theorem dX7_ahead_49 : decode cX7_ahead 49 = .ok (.ifCond .lt 35, 3) := by decide +kernel
theorem dX7_ahead_52 : decode cX7_ahead 52 = .ok (.iload 4, 2) := by decide +kernel
theorem dX7_ahead_54 : decode cX7_ahead 54 = .ok (.ifCond .ne 34, 3) := by decide +kernel
theorem dX7_ahead_57 : decode cX7_ahead 57 = .ok (.aload_n 0, 1) := by decide +kernel
theorem dX7_ahead_58 : decode cX7_ahead 58 = .ok (.getfield 7, 3) := by decide +kernel
theorem dX7_ahead_61 : decode cX7_ahead 61 = .ok (.sipush 377, 3) := by decide +kernel
theorem dX7_ahead_64 : decode cX7_ahead 64 = .ok (.iconst 2, 1) := by decide +kernel
theorem dX7_ahead_65 : decode cX7_ahead 65 = .ok (.iload_n 3, 1) := by decide +kernel
theorem dX7_ahead_66 : decode cX7_ahead 66 = .ok (.imul, 1) := by decide +kernel
theorem dX7_ahead_67 : decode cX7_ahead 67 = .ok (.iadd, 1) := by decide +kernel
theorem dX7_ahead_68 : decode cX7_ahead 68 = .ok (.iaload, 1) := by decide +kernel
theorem dX7_ahead_69 : decode cX7_ahead 69 = .ok (.aload_n 0, 1) := by decide +kernel
theorem dX7_ahead_70 : decode cX7_ahead 70 = .ok (.getfield 7, 3) := by decide +kernel
theorem dX7_ahead_73 : decode cX7_ahead 73 = .ok (.sipush 377, 3) := by decide +kernel
theorem dX7_ahead_76 : decode cX7_ahead 76 = .ok (.iconst 2, 1) := by decide +kernel
theorem dX7_ahead_77 : decode cX7_ahead 77 = .ok (.iload_n 1, 1) := by decide +kernel
theorem dX7_ahead_78 : decode cX7_ahead 78 = .ok (.imul, 1) := by decide +kernel
theorem dX7_ahead_79 : decode cX7_ahead 79 = .ok (.iadd, 1) := by decide +kernel
theorem dX7_ahead_80 : decode cX7_ahead 80 = .ok (.iaload, 1) := by decide +kernel
theorem dX7_ahead_81 : decode cX7_ahead 81 = .ok (.if_icmp .ge 7, 3) := by decide +kernel
theorem dX7_ahead_84 : decode cX7_ahead 84 = .ok (.iconst 1, 1) := by decide +kernel
theorem dX7_ahead_85 : decode cX7_ahead 85 = .ok (.goto 4, 3) := by decide +kernel
theorem dX7_ahead_88 : decode cX7_ahead 88 = .ok (.iconst 0, 1) := by decide +kernel
theorem dX7_ahead_89 : decode cX7_ahead 89 = .ok (.iadd, 1) := by decide +kernel
theorem dX7_ahead_90 : decode cX7_ahead 90 = .ok (.istore_n 2, 1) := by decide +kernel
theorem dX7_ahead_91 : decode cX7_ahead 91 = .ok (.iinc 3 1, 3) := by decide +kernel
theorem dX7_ahead_94 : decode cX7_ahead 94 = .ok (.goto (-90), 3) := by decide +kernel
theorem dX7_ahead_97 : decode cX7_ahead 97 = .ok (.iload_n 2, 1) := by decide +kernel
theorem dX7_ahead_98 : decode cX7_ahead 98 = .ok (.ireturn, 1) := by decide +kernel
theorem dX7_reservation_0 : decode cX7_reservation 0 = .ok (.iload_n 1, 1) := by decide +kernel
theorem dX7_reservation_1 : decode cX7_reservation 1 = .ok (.ifCond .lt 12, 3) := by decide +kernel
theorem dX7_reservation_4 : decode cX7_reservation 4 = .ok (.iload_n 2, 1) := by decide +kernel
theorem dX7_reservation_5 : decode cX7_reservation 5 = .ok (.iconst 0, 1) := by decide +kernel
theorem dX7_reservation_6 : decode cX7_reservation 6 = .ok (.iconst 1, 1) := by decide +kernel
theorem dX7_reservation_7 : decode cX7_reservation 7 = .ok (.invokestatic 86, 3) := by decide +kernel
theorem dX7_reservation_10 : decode cX7_reservation 10 = .ok (.ifCond .ne 6, 3) := by decide +kernel
theorem dX7_reservation_13 : decode cX7_reservation 13 = .ok (.bipush (-2), 2) := by decide +kernel
theorem dX7_reservation_15 : decode cX7_reservation 15 = .ok (.ireturn, 1) := by decide +kernel
theorem dX7_reservation_16 : decode cX7_reservation 16 = .ok (.bipush (-6), 2) := by decide +kernel
theorem dX7_reservation_18 : decode cX7_reservation 18 = .ok (.istore_n 3, 1) := by decide +kernel
theorem dX7_reservation_19 : decode cX7_reservation 19 = .ok (.iconst 0, 1) := by decide +kernel
theorem dX7_reservation_20 : decode cX7_reservation 20 = .ok (.istore 4, 2) := by decide +kernel
theorem dX7_reservation_22 : decode cX7_reservation 22 = .ok (.iload 4, 2) := by decide +kernel
theorem dX7_reservation_24 : decode cX7_reservation 24 = .ok (.aload_n 0, 1) := by decide +kernel
theorem dX7_reservation_25 : decode cX7_reservation 25 = .ok (.getfield 7, 3) := by decide +kernel
theorem dX7_reservation_28 : decode cX7_reservation 28 = .ok (.bipush 15, 2) := by decide +kernel
theorem dX7_reservation_30 : decode cX7_reservation 30 = .ok (.iaload, 1) := by decide +kernel
theorem dX7_reservation_31 : decode cX7_reservation 31 = .ok (.if_icmp .ge 39, 3) := by decide +kernel
theorem dX7_reservation_34 : decode cX7_reservation 34 = .ok (.aload_n 0, 1) := by decide +kernel
theorem dX7_reservation_35 : decode cX7_reservation 35 = .ok (.iload 4, 2) := by decide +kernel
theorem dX7_reservation_37 : decode cX7_reservation 37 = .ok (.invokevirtual 165, 3) := by decide +kernel
theorem dX7_reservation_40 : decode cX7_reservation 40 = .ok (.iload_n 1, 1) := by decide +kernel
theorem dX7_reservation_41 : decode cX7_reservation 41 = .ok (.if_icmp .ne 21, 3) := by decide +kernel
theorem dX7_reservation_44 : decode cX7_reservation 44 = .ok (.aload_n 0, 1) := by decide +kernel
theorem dX7_reservation_45 : decode cX7_reservation 45 = .ok (.getfield 7, 3) := by decide +kernel
theorem dX7_reservation_48 : decode cX7_reservation 48 = .ok (.sipush 377, 3) := by decide +kernel
theorem dX7_reservation_51 : decode cX7_reservation 51 = .ok (.iconst 2, 1) := by decide +kernel
theorem dX7_reservation_52 : decode cX7_reservation 52 = .ok (.iload 4, 2) := by decide +kernel
theorem dX7_reservation_54 : decode cX7_reservation 54 = .ok (.imul, 1) := by decide +kernel
theorem dX7_reservation_55 : decode cX7_reservation 55 = .ok (.iadd, 1) := by decide +kernel
theorem dX7_reservation_56 : decode cX7_reservation 56 = .ok (.iload_n 2, 1) := by decide +kernel
theorem dX7_reservation_57 : decode cX7_reservation 57 = .ok (.iadd, 1) := by decide +kernel
theorem dX7_reservation_58 : decode cX7_reservation 58 = .ok (.iaload, 1) := by decide +kernel
theorem dX7_reservation_59 : decode cX7_reservation 59 = .ok (.goto 4, 3) := by decide +kernel
theorem dX7_reservation_62 : decode cX7_reservation 62 = .ok (.iload_n 3, 1) := by decide +kernel
theorem dX7_reservation_63 : decode cX7_reservation 63 = .ok (.istore_n 3, 1) := by decide +kernel
theorem dX7_reservation_64 : decode cX7_reservation 64 = .ok (.iinc 4 1, 3) := by decide +kernel
theorem dX7_reservation_67 : decode cX7_reservation 67 = .ok (.goto (-45), 3) := by decide +kernel
theorem dX7_reservation_70 : decode cX7_reservation 70 = .ok (.iload_n 3, 1) := by decide +kernel
theorem dX7_reservation_71 : decode cX7_reservation 71 = .ok (.ireturn, 1) := by decide +kernel
theorem dX7_setting_0 : decode cX7_setting 0 = .ok (.iload_n 1, 1) := by decide +kernel
theorem dX7_setting_1 : decode cX7_setting 1 = .ok (.iconst 0, 1) := by decide +kernel
theorem dX7_setting_2 : decode cX7_setting 2 = .ok (.bipush 6, 2) := by decide +kernel
theorem dX7_setting_4 : decode cX7_setting 4 = .ok (.invokestatic 86, 3) := by decide +kernel
theorem dX7_setting_7 : decode cX7_setting 7 = .ok (.ifCond .eq 12, 3) := by decide +kernel
theorem dX7_setting_10 : decode cX7_setting 10 = .ok (.aload_n 0, 1) := by decide +kernel
theorem dX7_setting_11 : decode cX7_setting 11 = .ok (.getfield 7, 3) := by decide +kernel
theorem dX7_setting_14 : decode cX7_setting 14 = .ok (.iload_n 1, 1) := by decide +kernel
theorem dX7_setting_15 : decode cX7_setting 15 = .ok (.iaload, 1) := by decide +kernel
theorem dX7_setting_16 : decode cX7_setting 16 = .ok (.goto 4, 3) := by decide +kernel
theorem dX7_setting_19 : decode cX7_setting 19 = .ok (.iconst (-1), 1) := by decide +kernel
theorem dX7_setting_20 : decode cX7_setting 20 = .ok (.ireturn, 1) := by decide +kernel
theorem dX7_meanAge_0 : decode cX7_meanAge 0 = .ok (.iconst 0, 1) := by decide +kernel
theorem dX7_meanAge_1 : decode cX7_meanAge 1 = .ok (.istore_n 1, 1) := by decide +kernel
theorem dX7_meanAge_2 : decode cX7_meanAge 2 = .ok (.iconst 0, 1) := by decide +kernel
theorem dX7_meanAge_3 : decode cX7_meanAge 3 = .ok (.istore_n 2, 1) := by decide +kernel
theorem dX7_meanAge_4 : decode cX7_meanAge 4 = .ok (.iload_n 2, 1) := by decide +kernel
theorem dX7_meanAge_5 : decode cX7_meanAge 5 = .ok (.aload_n 0, 1) := by decide +kernel
theorem dX7_meanAge_6 : decode cX7_meanAge 6 = .ok (.getfield 7, 3) := by decide +kernel
theorem dX7_meanAge_9 : decode cX7_meanAge 9 = .ok (.bipush 14, 2) := by decide +kernel
theorem dX7_meanAge_11 : decode cX7_meanAge 11 = .ok (.iaload, 1) := by decide +kernel
theorem dX7_meanAge_12 : decode cX7_meanAge 12 = .ok (.if_icmp .ge 31, 3) := by decide +kernel
theorem dX7_meanAge_15 : decode cX7_meanAge 15 = .ok (.iload_n 1, 1) := by decide +kernel
theorem dX7_meanAge_16 : decode cX7_meanAge 16 = .ok (.aload_n 0, 1) := by decide +kernel
theorem dX7_meanAge_17 : decode cX7_meanAge 17 = .ok (.getfield 7, 3) := by decide +kernel
theorem dX7_meanAge_20 : decode cX7_meanAge 20 = .ok (.bipush 7, 2) := by decide +kernel
theorem dX7_meanAge_22 : decode cX7_meanAge 22 = .ok (.iaload, 1) := by decide +kernel
theorem dX7_meanAge_23 : decode cX7_meanAge 23 = .ok (.aload_n 0, 1) := by decide +kernel
theorem dX7_meanAge_24 : decode cX7_meanAge 24 = .ok (.getfield 7, 3) := by decide +kernel
theorem dX7_meanAge_27 : decode cX7_meanAge 27 = .ok (.iload_n 2, 1) := by decide +kernel
theorem dX7_meanAge_28 : decode cX7_meanAge 28 = .ok (.invokestatic 36, 3) := by decide +kernel
theorem dX7_meanAge_31 : decode cX7_meanAge 31 = .ok (.iconst 3, 1) := by decide +kernel
theorem dX7_meanAge_32 : decode cX7_meanAge 32 = .ok (.iadd, 1) := by decide +kernel
theorem dX7_meanAge_33 : decode cX7_meanAge 33 = .ok (.iaload, 1) := by decide +kernel
theorem dX7_meanAge_34 : decode cX7_meanAge 34 = .ok (.isub, 1) := by decide +kernel
theorem dX7_meanAge_35 : decode cX7_meanAge 35 = .ok (.iadd, 1) := by decide +kernel
theorem dX7_meanAge_36 : decode cX7_meanAge 36 = .ok (.istore_n 1, 1) := by decide +kernel
theorem dX7_meanAge_37 : decode cX7_meanAge 37 = .ok (.iinc 2 1, 3) := by decide +kernel
theorem dX7_meanAge_40 : decode cX7_meanAge 40 = .ok (.goto (-36), 3) := by decide +kernel
theorem dX7_meanAge_43 : decode cX7_meanAge 43 = .ok (.aload_n 0, 1) := by decide +kernel
theorem dX7_meanAge_44 : decode cX7_meanAge 44 = .ok (.getfield 7, 3) := by decide +kernel
theorem dX7_meanAge_47 : decode cX7_meanAge 47 = .ok (.bipush 14, 2) := by decide +kernel
theorem dX7_meanAge_49 : decode cX7_meanAge 49 = .ok (.iaload, 1) := by decide +kernel
theorem dX7_meanAge_50 : decode cX7_meanAge 50 = .ok (.ifCond .ne 7, 3) := by decide +kernel
theorem dX7_meanAge_53 : decode cX7_meanAge 53 = .ok (.fconst 0, 1) := by decide +kernel
theorem dX7_meanAge_54 : decode cX7_meanAge 54 = .ok (.goto 14, 3) := by decide +kernel
theorem dX7_meanAge_57 : decode cX7_meanAge 57 = .ok (.iload_n 1, 1) := by decide +kernel
theorem dX7_meanAge_58 : decode cX7_meanAge 58 = .ok (.i2f, 1) := by decide +kernel
theorem dX7_meanAge_59 : decode cX7_meanAge 59 = .ok (.aload_n 0, 1) := by decide +kernel
theorem dX7_meanAge_60 : decode cX7_meanAge 60 = .ok (.getfield 7, 3) := by decide +kernel
theorem dX7_meanAge_63 : decode cX7_meanAge 63 = .ok (.bipush 14, 2) := by decide +kernel
theorem dX7_meanAge_65 : decode cX7_meanAge 65 = .ok (.iaload, 1) := by decide +kernel
theorem dX7_meanAge_66 : decode cX7_meanAge 66 = .ok (.i2f, 1) := by decide +kernel
theorem dX7_meanAge_67 : decode cX7_meanAge 67 = .ok (.fdiv, 1) := by decide +kernel
theorem dX7_meanAge_68 : decode cX7_meanAge 68 = .ok (.freturn, 1) := by decide +kernel
theorem dX7_stays_0 : decode cX7_stays 0 = .ok (.aload_n 0, 1) := by decide +kernel
theorem dX7_stays_1 : decode cX7_stays 1 = .ok (.iload_n 1, 1) := by decide +kernel
theorem dX7_stays_2 : decode cX7_stays 2 = .ok (.invokevirtual 60, 3) := by decide +kernel
theorem dX7_stays_5 : decode cX7_stays 5 = .ok (.istore_n 2, 1) := by decide +kernel
theorem dX7_stays_6 : decode cX7_stays 6 = .ok (.iload_n 2, 1) := by decide +kernel
theorem dX7_stays_7 : decode cX7_stays 7 = .ok (.iconst (-1), 1) := by decide +kernel
theorem dX7_stays_8 : decode cX7_stays 8 = .ok (.if_icmp .ne 5, 3) := by decide +kernel
theorem dX7_stays_11 : decode cX7_stays 11 = .ok (.iconst (-1), 1) := by decide +kernel
theorem dX7_stays_12 : decode cX7_stays 12 = .ok (.ireturn, 1) := by decide +kernel
theorem dX7_stays_13 : decode cX7_stays 13 = .ok (.aload_n 0, 1) := by decide +kernel
theorem dX7_stays_14 : decode cX7_stays 14 = .ok (.invokevirtual 67, 3) := by decide +kernel
theorem dX7_stays_17 : decode cX7_stays 17 = .ok (.aload_n 0, 1) := by decide +kernel
theorem dX7_stays_18 : decode cX7_stays 18 = .ok (.iload_n 2, 1) := by decide +kernel
theorem dX7_stays_19 : decode cX7_stays 19 = .ok (.invokevirtual 57, 3) := by decide +kernel
theorem dX7_stays_22 : decode cX7_stays 22 = .ok (.istore_n 3, 1) := by decide +kernel
theorem dX7_stays_23 : decode cX7_stays 23 = .ok (.iload_n 3, 1) := by decide +kernel
theorem dX7_stays_24 : decode cX7_stays 24 = .ok (.ifCond .le 7, 3) := by decide +kernel
theorem dX7_stays_27 : decode cX7_stays 27 = .ok (.iload_n 3, 1) := by decide +kernel
theorem dX7_stays_28 : decode cX7_stays 28 = .ok (.goto 17, 3) := by decide +kernel
theorem dX7_stays_31 : decode cX7_stays 31 = .ok (.aload_n 0, 1) := by decide +kernel
theorem dX7_stays_32 : decode cX7_stays 32 = .ok (.getfield 22, 3) := by decide +kernel
theorem dX7_stays_35 : decode cX7_stays 35 = .ok (.iload_n 2, 1) := by decide +kernel
theorem dX7_stays_36 : decode cX7_stays 36 = .ok (.baload, 1) := by decide +kernel
theorem dX7_stays_37 : decode cX7_stays 37 = .ok (.ifCond .eq 7, 3) := by decide +kernel
theorem dX7_stays_40 : decode cX7_stays 40 = .ok (.iconst 4, 1) := by decide +kernel
theorem dX7_stays_41 : decode cX7_stays 41 = .ok (.goto 4, 3) := by decide +kernel
theorem dX7_stays_44 : decode cX7_stays 44 = .ok (.iconst 0, 1) := by decide +kernel
theorem dX7_stays_45 : decode cX7_stays 45 = .ok (.ireturn, 1) := by decide +kernel
theorem dX7_keeper_0 : decode cX7_keeper 0 = .ok (.aload_n 0, 1) := by decide +kernel
theorem dX7_keeper_1 : decode cX7_keeper 1 = .ok (.iload_n 1, 1) := by decide +kernel
theorem dX7_keeper_2 : decode cX7_keeper 2 = .ok (.invokevirtual 168, 3) := by decide +kernel
theorem dX7_keeper_5 : decode cX7_keeper 5 = .ok (.istore_n 2, 1) := by decide +kernel
theorem dX7_keeper_6 : decode cX7_keeper 6 = .ok (.iload_n 2, 1) := by decide +kernel
theorem dX7_keeper_7 : decode cX7_keeper 7 = .ok (.iconst 4, 1) := by decide +kernel
theorem dX7_keeper_8 : decode cX7_keeper 8 = .ok (.if_icmp .eq 15, 3) := by decide +kernel
theorem dX7_keeper_11 : decode cX7_keeper 11 = .ok (.iload_n 2, 1) := by decide +kernel
theorem dX7_keeper_12 : decode cX7_keeper 12 = .ok (.iconst (-1), 1) := by decide +kernel
theorem dX7_keeper_13 : decode cX7_keeper 13 = .ok (.if_icmp .ne 7, 3) := by decide +kernel
theorem dX7_keeper_16 : decode cX7_keeper 16 = .ok (.iconst (-1), 1) := by decide +kernel
theorem dX7_keeper_17 : decode cX7_keeper 17 = .ok (.goto 5, 3) := by decide +kernel
theorem dX7_keeper_20 : decode cX7_keeper 20 = .ok (.bipush (-6), 2) := by decide +kernel
theorem dX7_keeper_22 : decode cX7_keeper 22 = .ok (.ireturn, 1) := by decide +kernel
theorem dX7_keeper_23 : decode cX7_keeper 23 = .ok (.bipush (-6), 2) := by decide +kernel
theorem dX7_keeper_25 : decode cX7_keeper 25 = .ok (.istore_n 3, 1) := by decide +kernel
theorem dX7_keeper_26 : decode cX7_keeper 26 = .ok (.aload_n 0, 1) := by decide +kernel
theorem dX7_keeper_27 : decode cX7_keeper 27 = .ok (.getfield 7, 3) := by decide +kernel
theorem dX7_keeper_30 : decode cX7_keeper 30 = .ok (.bipush 14, 2) := by decide +kernel
theorem dX7_keeper_32 : decode cX7_keeper 32 = .ok (.iaload, 1) := by decide +kernel
theorem dX7_keeper_33 : decode cX7_keeper 33 = .ok (.iconst 1, 1) := by decide +kernel
theorem dX7_keeper_34 : decode cX7_keeper 34 = .ok (.isub, 1) := by decide +kernel
theorem dX7_keeper_35 : decode cX7_keeper 35 = .ok (.istore 4, 2) := by decide +kernel
theorem dX7_keeper_37 : decode cX7_keeper 37 = .ok (.iload 4, 2) := by decide +kernel
theorem dX7_keeper_39 : decode cX7_keeper 39 = .ok (.ifCond .lt 51, 3) := by decide +kernel
theorem dX7_keeper_42 : decode cX7_keeper 42 = .ok (.aload_n 0, 1) := by decide +kernel
theorem dX7_keeper_43 : decode cX7_keeper 43 = .ok (.getfield 22, 3) := by decide +kernel
theorem dX7_keeper_46 : decode cX7_keeper 46 = .ok (.iload 4, 2) := by decide +kernel
theorem dX7_keeper_48 : decode cX7_keeper 48 = .ok (.baload, 1) := by decide +kernel
theorem dX7_keeper_49 : decode cX7_keeper 49 = .ok (.ifCond .eq 33, 3) := by decide +kernel
theorem dX7_keeper_52 : decode cX7_keeper 52 = .ok (.aload_n 0, 1) := by decide +kernel
theorem dX7_keeper_53 : decode cX7_keeper 53 = .ok (.getfield 7, 3) := by decide +kernel
theorem dX7_keeper_56 : decode cX7_keeper 56 = .ok (.iload 4, 2) := by decide +kernel
theorem dX7_keeper_58 : decode cX7_keeper 58 = .ok (.invokestatic 36, 3) := by decide +kernel
theorem dX7_keeper_61 : decode cX7_keeper 61 = .ok (.bipush 6, 2) := by decide +kernel
theorem dX7_keeper_63 : decode cX7_keeper 63 = .ok (.iadd, 1) := by decide +kernel
theorem dX7_keeper_64 : decode cX7_keeper 64 = .ok (.iaload, 1) := by decide +kernel
theorem dX7_keeper_65 : decode cX7_keeper 65 = .ok (.iload_n 1, 1) := by decide +kernel
theorem dX7_keeper_66 : decode cX7_keeper 66 = .ok (.if_icmp .ne 16, 3) := by decide +kernel
theorem dX7_keeper_69 : decode cX7_keeper 69 = .ok (.aload_n 0, 1) := by decide +kernel
theorem dX7_keeper_70 : decode cX7_keeper 70 = .ok (.getfield 7, 3) := by decide +kernel
theorem dX7_keeper_73 : decode cX7_keeper 73 = .ok (.iload 4, 2) := by decide +kernel
theorem dX7_keeper_75 : decode cX7_keeper 75 = .ok (.invokestatic 36, 3) := by decide +kernel
theorem dX7_keeper_78 : decode cX7_keeper 78 = .ok (.iaload, 1) := by decide +kernel
theorem dX7_keeper_79 : decode cX7_keeper 79 = .ok (.goto 4, 3) := by decide +kernel
theorem dX7_keeper_82 : decode cX7_keeper 82 = .ok (.iload_n 3, 1) := by decide +kernel
theorem dX7_keeper_83 : decode cX7_keeper 83 = .ok (.istore_n 3, 1) := by decide +kernel
theorem dX7_keeper_84 : decode cX7_keeper 84 = .ok (.iinc 4 (-1), 3) := by decide +kernel
theorem dX7_keeper_87 : decode cX7_keeper 87 = .ok (.goto (-50), 3) := by decide +kernel
theorem dX7_keeper_90 : decode cX7_keeper 90 = .ok (.iload_n 3, 1) := by decide +kernel
theorem dX7_keeper_91 : decode cX7_keeper 91 = .ok (.ireturn, 1) := by decide +kernel
theorem dX7_burntIn_0 : decode cX7_burntIn 0 = .ok (.aload_n 0, 1) := by decide +kernel
theorem dX7_burntIn_1 : decode cX7_burntIn 1 = .ok (.iload_n 1, 1) := by decide +kernel
theorem dX7_burntIn_2 : decode cX7_burntIn 2 = .ok (.invokevirtual 60, 3) := by decide +kernel
theorem dX7_burntIn_5 : decode cX7_burntIn 5 = .ok (.iconst (-1), 1) := by decide +kernel
theorem dX7_burntIn_6 : decode cX7_burntIn 6 = .ok (.if_icmp .ne 5, 3) := by decide +kernel
theorem dX7_burntIn_9 : decode cX7_burntIn 9 = .ok (.iconst (-1), 1) := by decide +kernel
theorem dX7_burntIn_10 : decode cX7_burntIn 10 = .ok (.ireturn, 1) := by decide +kernel
theorem dX7_burntIn_11 : decode cX7_burntIn 11 = .ok (.aload_n 0, 1) := by decide +kernel
theorem dX7_burntIn_12 : decode cX7_burntIn 12 = .ok (.invokevirtual 171, 3) := by decide +kernel
theorem dX7_burntIn_15 : decode cX7_burntIn 15 = .ok (.iconst 0, 1) := by decide +kernel
theorem dX7_burntIn_16 : decode cX7_burntIn 16 = .ok (.istore_n 2, 1) := by decide +kernel
theorem dX7_burntIn_17 : decode cX7_burntIn 17 = .ok (.iload_n 2, 1) := by decide +kernel
theorem dX7_burntIn_18 : decode cX7_burntIn 18 = .ok (.sipush 3000, 3) := by decide +kernel
theorem dX7_burntIn_21 : decode cX7_burntIn 21 = .ok (.if_icmp .ge 23, 3) := by decide +kernel
theorem dX7_burntIn_24 : decode cX7_burntIn 24 = .ok (.aload_n 0, 1) := by decide +kernel
theorem dX7_burntIn_25 : decode cX7_burntIn 25 = .ok (.iload_n 1, 1) := by decide +kernel
theorem dX7_burntIn_26 : decode cX7_burntIn 26 = .ok (.invokevirtual 60, 3) := by decide +kernel
theorem dX7_burntIn_29 : decode cX7_burntIn 29 = .ok (.iconst (-1), 1) := by decide +kernel
theorem dX7_burntIn_30 : decode cX7_burntIn 30 = .ok (.if_icmp .eq 14, 3) := by decide +kernel
theorem dX7_burntIn_33 : decode cX7_burntIn 33 = .ok (.aload_n 0, 1) := by decide +kernel
theorem dX7_burntIn_34 : decode cX7_burntIn 34 = .ok (.invokevirtual 99, 3) := by decide +kernel
theorem dX7_burntIn_37 : decode cX7_burntIn 37 = .ok (.istore_n 3, 1) := by decide +kernel
theorem dX7_burntIn_38 : decode cX7_burntIn 38 = .ok (.iinc 2 1, 3) := by decide +kernel
theorem dX7_burntIn_41 : decode cX7_burntIn 41 = .ok (.goto (-24), 3) := by decide +kernel
theorem dX7_burntIn_44 : decode cX7_burntIn 44 = .ok (.aload_n 0, 1) := by decide +kernel
theorem dX7_burntIn_45 : decode cX7_burntIn 45 = .ok (.iload_n 1, 1) := by decide +kernel
theorem dX7_burntIn_46 : decode cX7_burntIn 46 = .ok (.invokevirtual 60, 3) := by decide +kernel
theorem dX7_burntIn_49 : decode cX7_burntIn 49 = .ok (.iconst (-1), 1) := by decide +kernel
theorem dX7_burntIn_50 : decode cX7_burntIn 50 = .ok (.if_icmp .ne 7, 3) := by decide +kernel
theorem dX7_burntIn_53 : decode cX7_burntIn 53 = .ok (.iconst 1, 1) := by decide +kernel
theorem dX7_burntIn_54 : decode cX7_burntIn 54 = .ok (.goto 4, 3) := by decide +kernel
theorem dX7_burntIn_57 : decode cX7_burntIn 57 = .ok (.iconst 0, 1) := by decide +kernel
theorem dX7_burntIn_58 : decode cX7_burntIn 58 = .ok (.istore_n 3, 1) := by decide +kernel
theorem dX7_burntIn_59 : decode cX7_burntIn 59 = .ok (.aload_n 0, 1) := by decide +kernel
theorem dX7_burntIn_60 : decode cX7_burntIn 60 = .ok (.invokevirtual 174, 3) := by decide +kernel
theorem dX7_burntIn_63 : decode cX7_burntIn 63 = .ok (.iload_n 3, 1) := by decide +kernel
theorem dX7_burntIn_64 : decode cX7_burntIn 64 = .ok (.ifCond .eq 7, 3) := by decide +kernel
theorem dX7_burntIn_67 : decode cX7_burntIn 67 = .ok (.iload_n 2, 1) := by decide +kernel
theorem dX7_burntIn_68 : decode cX7_burntIn 68 = .ok (.goto 5, 3) := by decide +kernel
theorem dX7_burntIn_71 : decode cX7_burntIn 71 = .ok (.bipush (-6), 2) := by decide +kernel
theorem dX7_burntIn_73 : decode cX7_burntIn 73 = .ok (.ireturn, 1) := by decide +kernel
theorem dX7_ifPassed_0 : decode cX7_ifPassed 0 = .ok (.iload_n 1, 1) := by decide +kernel
theorem dX7_ifPassed_1 : decode cX7_ifPassed 1 = .ok (.iconst 1, 1) := by decide +kernel
theorem dX7_ifPassed_2 : decode cX7_ifPassed 2 = .ok (.sipush 400, 3) := by decide +kernel
theorem dX7_ifPassed_5 : decode cX7_ifPassed 5 = .ok (.invokestatic 86, 3) := by decide +kernel
theorem dX7_ifPassed_8 : decode cX7_ifPassed 8 = .ok (.ifCond .eq 12, 3) := by decide +kernel
theorem dX7_ifPassed_11 : decode cX7_ifPassed 11 = .ok (.iload_n 2, 1) := by decide +kernel
theorem dX7_ifPassed_12 : decode cX7_ifPassed 12 = .ok (.iconst 0, 1) := by decide +kernel
theorem dX7_ifPassed_13 : decode cX7_ifPassed 13 = .ok (.iconst 2, 1) := by decide +kernel
theorem dX7_ifPassed_14 : decode cX7_ifPassed 14 = .ok (.invokestatic 86, 3) := by decide +kernel
theorem dX7_ifPassed_17 : decode cX7_ifPassed 17 = .ok (.ifCond .ne 6, 3) := by decide +kernel
theorem dX7_ifPassed_20 : decode cX7_ifPassed 20 = .ok (.bipush (-2), 2) := by decide +kernel
theorem dX7_ifPassed_22 : decode cX7_ifPassed 22 = .ok (.ireturn, 1) := by decide +kernel
theorem dX7_ifPassed_23 : decode cX7_ifPassed 23 = .ok (.aload_n 0, 1) := by decide +kernel
theorem dX7_ifPassed_24 : decode cX7_ifPassed 24 = .ok (.invokevirtual 171, 3) := by decide +kernel
theorem dX7_ifPassed_27 : decode cX7_ifPassed 27 = .ok (.iconst 0, 1) := by decide +kernel
theorem dX7_ifPassed_28 : decode cX7_ifPassed 28 = .ok (.istore_n 3, 1) := by decide +kernel
theorem dX7_ifPassed_29 : decode cX7_ifPassed 29 = .ok (.iload_n 3, 1) := by decide +kernel
theorem dX7_ifPassed_30 : decode cX7_ifPassed 30 = .ok (.iload_n 1, 1) := by decide +kernel
theorem dX7_ifPassed_31 : decode cX7_ifPassed 31 = .ok (.if_icmp .ge 15, 3) := by decide +kernel
theorem dX7_ifPassed_34 : decode cX7_ifPassed 34 = .ok (.aload_n 0, 1) := by decide +kernel
theorem dX7_ifPassed_35 : decode cX7_ifPassed 35 = .ok (.invokevirtual 99, 3) := by decide +kernel
theorem dX7_ifPassed_38 : decode cX7_ifPassed 38 = .ok (.istore 4, 2) := by decide +kernel
theorem dX7_ifPassed_40 : decode cX7_ifPassed 40 = .ok (.iinc 3 1, 3) := by decide +kernel
theorem dX7_ifPassed_43 : decode cX7_ifPassed 43 = .ok (.goto (-14), 3) := by decide +kernel
theorem dX7_ifPassed_46 : decode cX7_ifPassed 46 = .ok (.iload_n 2, 1) := by decide +kernel
theorem dX7_ifPassed_47 : decode cX7_ifPassed 47 = .ok (.ifCond .ne 21, 3) := by decide +kernel
theorem dX7_ifPassed_50 : decode cX7_ifPassed 50 = .ok (.aload_n 0, 1) := by decide +kernel
theorem dX7_ifPassed_51 : decode cX7_ifPassed 51 = .ok (.getfield 7, 3) := by decide +kernel
theorem dX7_ifPassed_54 : decode cX7_ifPassed 54 = .ok (.bipush 9, 2) := by decide +kernel
theorem dX7_ifPassed_56 : decode cX7_ifPassed 56 = .ok (.iaload, 1) := by decide +kernel
theorem dX7_ifPassed_57 : decode cX7_ifPassed 57 = .ok (.aload_n 0, 1) := by decide +kernel
theorem dX7_ifPassed_58 : decode cX7_ifPassed 58 = .ok (.getfield 16, 3) := by decide +kernel
theorem dX7_ifPassed_61 : decode cX7_ifPassed 61 = .ok (.bipush 9, 2) := by decide +kernel
theorem dX7_ifPassed_63 : decode cX7_ifPassed 63 = .ok (.iaload, 1) := by decide +kernel
theorem dX7_ifPassed_64 : decode cX7_ifPassed 64 = .ok (.isub, 1) := by decide +kernel
theorem dX7_ifPassed_65 : decode cX7_ifPassed 65 = .ok (.goto 41, 3) := by decide +kernel
theorem dX7_ifPassed_68 : decode cX7_ifPassed 68 = .ok (.iload_n 2, 1) := by decide +kernel
theorem dX7_ifPassed_69 : decode cX7_ifPassed 69 = .ok (.iconst 1, 1) := by decide +kernel
theorem dX7_ifPassed_70 : decode cX7_ifPassed 70 = .ok (.if_icmp .ne 21, 3) := by decide +kernel
theorem dX7_ifPassed_73 : decode cX7_ifPassed 73 = .ok (.aload_n 0, 1) := by decide +kernel
theorem dX7_ifPassed_74 : decode cX7_ifPassed 74 = .ok (.getfield 7, 3) := by decide +kernel
theorem dX7_ifPassed_77 : decode cX7_ifPassed 77 = .ok (.bipush 10, 2) := by decide +kernel
theorem dX7_ifPassed_79 : decode cX7_ifPassed 79 = .ok (.iaload, 1) := by decide +kernel
theorem dX7_ifPassed_80 : decode cX7_ifPassed 80 = .ok (.aload_n 0, 1) := by decide +kernel
theorem dX7_ifPassed_81 : decode cX7_ifPassed 81 = .ok (.getfield 16, 3) := by decide +kernel
theorem dX7_ifPassed_84 : decode cX7_ifPassed 84 = .ok (.bipush 10, 2) := by decide +kernel
theorem dX7_ifPassed_86 : decode cX7_ifPassed 86 = .ok (.iaload, 1) := by decide +kernel
theorem dX7_ifPassed_87 : decode cX7_ifPassed 87 = .ok (.isub, 1) := by decide +kernel
theorem dX7_ifPassed_88 : decode cX7_ifPassed 88 = .ok (.goto 18, 3) := by decide +kernel
theorem dX7_ifPassed_91 : decode cX7_ifPassed 91 = .ok (.aload_n 0, 1) := by decide +kernel
theorem dX7_ifPassed_92 : decode cX7_ifPassed 92 = .ok (.getfield 7, 3) := by decide +kernel
theorem dX7_ifPassed_95 : decode cX7_ifPassed 95 = .ok (.bipush 11, 2) := by decide +kernel
theorem dX7_ifPassed_97 : decode cX7_ifPassed 97 = .ok (.iaload, 1) := by decide +kernel
theorem dX7_ifPassed_98 : decode cX7_ifPassed 98 = .ok (.aload_n 0, 1) := by decide +kernel
theorem dX7_ifPassed_99 : decode cX7_ifPassed 99 = .ok (.getfield 16, 3) := by decide +kernel
theorem dX7_ifPassed_102 : decode cX7_ifPassed 102 = .ok (.bipush 11, 2) := by decide +kernel
theorem dX7_ifPassed_104 : decode cX7_ifPassed 104 = .ok (.iaload, 1) := by decide +kernel
theorem dX7_ifPassed_105 : decode cX7_ifPassed 105 = .ok (.isub, 1) := by decide +kernel
theorem dX7_ifPassed_106 : decode cX7_ifPassed 106 = .ok (.istore_n 3, 1) := by decide +kernel
theorem dX7_ifPassed_107 : decode cX7_ifPassed 107 = .ok (.aload_n 0, 1) := by decide +kernel
theorem dX7_ifPassed_108 : decode cX7_ifPassed 108 = .ok (.invokevirtual 174, 3) := by decide +kernel
theorem dX7_ifPassed_111 : decode cX7_ifPassed 111 = .ok (.iload_n 3, 1) := by decide +kernel
theorem dX7_ifPassed_112 : decode cX7_ifPassed 112 = .ok (.ireturn, 1) := by decide +kernel
